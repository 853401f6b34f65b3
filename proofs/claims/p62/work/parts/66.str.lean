set_option maxRecDepth 16384
theorem str_of {args : Array Value} {s : State} {n0 : Nat} {own tx : String} {k n : Nat} {bs : List Int32} (hn : n < 2 ^ 31) (hr : (Cond.stringRef own k tx).before args s = true) (h1 : (Cond.exactly (.string own k) "java/lang/String").before args s = true) (h2 : (Cond.eq (.field (.string own k) "java/lang/String" "coder" "B") (.int 0)).before args s = true) (h3 : (Cond.arrayOf (.field (.string own k) "java/lang/String" "value" "[B") .byte).before args s = true) (h4 : (Cond.eq (.length (.field (.string own k) "java/lang/String" "value" "[B")) (.int (Int32.ofNat n))).before args s = true) (h5 : ∀ j : Nat, j < n → (Cond.eq (.elem (.field (.string own k) "java/lang/String" "value" "[B") (.int (Int32.ofNat j))) (.int (bs.getD j 0))).before args s = true) (hA : ∀ a : Nat, a < s.heap.size → ¬ n0 ≤ a) : ∃ (q : Nat) (f : Nat → Int32), vk_R own k tx q s ∧ txt n0 q n f s := by
  obtain ⟨a, c, cA, kA, q1, q2, q3, q4, q5, q6, -⟩ := Cond.exactly_spec (args := args) (first := s) (o := none) (s := s) (idx := []) (t := .string own k) (cls := "java/lang/String") h1
  obtain ⟨t, ht, hT⟩ := va_Tof (f := fun j => .int (bs.getD j 0)) (A := fun a => n0 ≤ a) hn h3 (va_eqt h4) (fun j hj => va_eqt (h5 j hj)) hA
  exact ⟨a, fun j => bs.getD j 0, vk_R.of hr q1, t, ⟨cA, q3, q5, by rw [q6]; exact q2, hA a (Array.getElem?_eq_some_iff.mp q3).1⟩, vk_OFof q1 (va_eqt h2) hA, vk_OFof q1 ht hA, hT⟩
def fstC : Jvm.Cond → Jvm.Cond
  | .and a _ => a
  | c => c
def sndC : Jvm.Cond → Jvm.Cond
  | .and _ b => b
  | c => c
def subC : List Bool → Jvm.Cond → Jvm.Cond
  | [], c => c
  | true :: p, c => subC p (fstC c)
  | false :: p, c => subC p (sndC c)
theorem fst_before {args : Array Value} {s : State} {T : Jvm.Cond} (h : T.before args s = true) : (fstC T).before args s = true := by
  cases T with
  | and a b => rw [Cond.before_and, Bool.and_eq_true] at h; exact h.1
  | _ => exact h
theorem snd_before {args : Array Value} {s : State} {T : Jvm.Cond} (h : T.before args s = true) : (sndC T).before args s = true := by
  cases T with
  | and a b => rw [Cond.before_and, Bool.and_eq_true] at h; exact h.2
  | _ => exact h
theorem sub_before {args : Array Value} {s : State} : ∀ (p : List Bool) {T : Jvm.Cond}, T.before args s = true → (subC p T).before args s = true
  | [], _, h => h
  | true :: p, _, h => sub_before p (fst_before h)
  | false :: p, _, h => sub_before p (snd_before h)
theorem sxs_X1_62 {args : Array Value} {s : State} (hgv : (Jvm.Cond.and given_1 narrow_1).before args s = true) (hts : ∀ w ∈ lw_tbl, w.before args s = true) : ∃ (q : Nat) (f : Nat → Int32), vk_R RX1 62 "roll" q s ∧ txt s.heap.size q 4 f s := by
  refine str_of (bs := [114, 111, 108, 108]) (by decide) (hts (.stringRef RX1 62 "roll") (tb_2 (List.mem_of_getElem? (i := 36) rfl))) (sub_before [false, true, true, true, false, false, false, false, true] hgv) (sub_before [false, true, true, true, false, false, false, false, false, true] hgv) (sub_before [false, true, true, true, false, false, false, false, false, false] hgv) (sub_before [false, true, true, false, true, true, true, true, true] hgv) (fun j hj => ?_) (fun a h => Nat.not_le.mpr h)
  rcases (show j = 0 ∨ j = 1 ∨ j = 2 ∨ j = 3 by omega) with rfl | rfl | rfl | rfl
  · exact (sub_before [false, true, true, false, true, true, true, true, false] hgv)
  · exact (sub_before [false, true, true, false, true, true, true, false, true] hgv)
  · exact (sub_before [false, true, true, false, true, true, true, false, false, true] hgv)
  · exact (sub_before [false, true, true, false, true, true, true, false, false, false] hgv)
theorem sxs_X1_68 {args : Array Value} {s : State} (hgv : (Jvm.Cond.and given_1 narrow_1).before args s = true) (hts : ∀ w ∈ lw_tbl, w.before args s = true) : ∃ (q : Nat) (f : Nat → Int32), vk_R RX1 68 "length" q s ∧ txt s.heap.size q 6 f s := by
  refine str_of (bs := [108, 101, 110, 103, 116, 104]) (by decide) (hts (.stringRef RX1 68 "length") (tb_2 (List.mem_of_getElem? (i := 97) rfl))) (sub_before [false, true, true, false, true, true, false, true, true] hgv) (sub_before [false, true, true, false, true, true, false, true, false] hgv) (sub_before [false, true, true, false, true, true, false, false, true] hgv) (sub_before [false, true, true, false, true, true, false, false, false, true] hgv) (fun j hj => ?_) (fun a h => Nat.not_le.mpr h)
  rcases (show j = 0 ∨ j = 1 ∨ j = 2 ∨ j = 3 ∨ j = 4 ∨ j = 5 by omega) with rfl | rfl | rfl | rfl | rfl | rfl
  · exact (sub_before [false, true, true, false, true, true, false, false, false, false] hgv)
  · exact (sub_before [false, true, true, false, true, false, true, true, true] hgv)
  · exact (sub_before [false, true, true, false, true, false, true, true, false] hgv)
  · exact (sub_before [false, true, true, false, true, false, true, false, true] hgv)
  · exact (sub_before [false, true, true, false, true, false, true, false, false, true] hgv)
  · exact (sub_before [false, true, true, false, true, false, true, false, false, false] hgv)
theorem sxs_X1_76 {args : Array Value} {s : State} (hgv : (Jvm.Cond.and given_1 narrow_1).before args s = true) (hts : ∀ w ∈ lw_tbl, w.before args s = true) : ∃ (q : Nat) (f : Nat → Int32), vk_R RX1 76 "base" q s ∧ txt s.heap.size q 4 f s := by
  refine str_of (bs := [98, 97, 115, 101]) (by decide) (hts (.stringRef RX1 76 "base") (tb_2 (List.mem_of_getElem? (i := 102) rfl))) (sub_before [false, true, true, false, true, false, false, true, true] hgv) (sub_before [false, true, true, false, true, false, false, true, false, true] hgv) (sub_before [false, true, true, false, true, false, false, true, false, false] hgv) (sub_before [false, true, true, false, true, false, false, false, true] hgv) (fun j hj => ?_) (fun a h => Nat.not_le.mpr h)
  rcases (show j = 0 ∨ j = 1 ∨ j = 2 ∨ j = 3 by omega) with rfl | rfl | rfl | rfl
  · exact (sub_before [false, true, true, false, true, false, false, false, false, true] hgv)
  · exact (sub_before [false, true, true, false, true, false, false, false, false, false] hgv)
  · exact (sub_before [false, true, true, false, false, true, true, true, true] hgv)
  · exact (sub_before [false, true, true, false, false, true, true, true, false] hgv)
theorem sxs_X1_87 {args : Array Value} {s : State} (hgv : (Jvm.Cond.and given_1 narrow_1).before args s = true) (hts : ∀ w ∈ lw_tbl, w.before args s = true) : ∃ (q : Nat) (f : Nat → Int32), vk_R RX1 87 "law" q s ∧ txt s.heap.size q 3 f s := by
  refine str_of (bs := [108, 97, 119]) (by decide) (hts (.stringRef RX1 87 "law") (tb_2 (List.mem_of_getElem? (i := 113) rfl))) (sub_before [false, true, true, false, false, true, true, false, true] hgv) (sub_before [false, true, true, false, false, true, true, false, false, true] hgv) (sub_before [false, true, true, false, false, true, true, false, false, false] hgv) (sub_before [false, true, true, false, false, true, false, true, true] hgv) (fun j hj => ?_) (fun a h => Nat.not_le.mpr h)
  rcases (show j = 0 ∨ j = 1 ∨ j = 2 by omega) with rfl | rfl | rfl
  · exact (sub_before [false, true, true, false, false, true, false, true, false, true] hgv)
  · exact (sub_before [false, true, true, false, false, true, false, true, false, false] hgv)
  · exact (sub_before [false, true, true, false, false, true, false, false, true] hgv)
theorem sxs_X1_105 {args : Array Value} {s : State} (hgv : (Jvm.Cond.and given_1 narrow_1).before args s = true) (hts : ∀ w ∈ lw_tbl, w.before args s = true) : ∃ (q : Nat) (f : Nat → Int32), vk_R RX1 105 "or" q s ∧ txt s.heap.size q 2 f s := by
  refine str_of (bs := [111, 114]) (by decide) (hts (.stringRef RX1 105 "or") (tb_2 (List.mem_of_getElem? (i := 184) rfl))) (sub_before [false, false, true, true, true, true, false, true, true] hgv) (sub_before [false, false, true, true, true, true, false, true, false] hgv) (sub_before [false, false, true, true, true, true, false, false, true] hgv) (sub_before [false, false, true, true, true, true, false, false, false, true] hgv) (fun j hj => ?_) (fun a h => Nat.not_le.mpr h)
  rcases (show j = 0 ∨ j = 1 by omega) with rfl | rfl
  · exact (sub_before [false, false, true, true, true, true, false, false, false, false] hgv)
  · exact (sub_before [false, false, true, true, true, false, true, true, true] hgv)
theorem sxs_X1_117 {args : Array Value} {s : State} (hgv : (Jvm.Cond.and given_1 narrow_1).before args s = true) (hts : ∀ w ∈ lw_tbl, w.before args s = true) : ∃ (q : Nat) (f : Nat → Int32), vk_R RX1 117 "and" q s ∧ txt s.heap.size q 3 f s := by
  refine str_of (bs := [97, 110, 100]) (by decide) (hts (.stringRef RX1 117 "and") (tb_2 (List.mem_of_getElem? (i := 179) rfl))) (sub_before [false, true, false, false, false, false, false, false, false, true] hgv) (sub_before [false, true, false, false, false, false, false, false, false, false] hgv) (sub_before [false, false, true, true, true, true, true, true, true] hgv) (sub_before [false, false, true, true, true, true, true, true, false] hgv) (fun j hj => ?_) (fun a h => Nat.not_le.mpr h)
  rcases (show j = 0 ∨ j = 1 ∨ j = 2 by omega) with rfl | rfl | rfl
  · exact (sub_before [false, false, true, true, true, true, true, false, true] hgv)
  · exact (sub_before [false, false, true, true, true, true, true, false, false, true] hgv)
  · exact (sub_before [false, false, true, true, true, true, true, false, false, false] hgv)
theorem sxs_X1_123 {args : Array Value} {s : State} (hgv : (Jvm.Cond.and given_1 narrow_1).before args s = true) (hts : ∀ w ∈ lw_tbl, w.before args s = true) : ∃ (q : Nat) (f : Nat → Int32), vk_R RX1 123 "not" q s ∧ txt s.heap.size q 3 f s := by
  refine str_of (bs := [110, 111, 116]) (by decide) (hts (.stringRef RX1 123 "not") (tb_2 (List.mem_of_getElem? (i := 130) rfl))) (sub_before [false, true, true, false, false, true, false, false, false, true] hgv) (sub_before [false, true, true, false, false, true, false, false, false, false] hgv) (sub_before [false, true, true, false, false, false, true, true, true] hgv) (sub_before [false, true, true, false, false, false, true, true, false] hgv) (fun j hj => ?_) (fun a h => Nat.not_le.mpr h)
  rcases (show j = 0 ∨ j = 1 ∨ j = 2 by omega) with rfl | rfl | rfl
  · exact (sub_before [false, true, true, false, false, false, true, false, true] hgv)
  · exact (sub_before [false, true, true, false, false, false, true, false, false, true] hgv)
  · exact (sub_before [false, true, true, false, false, false, true, false, false, false] hgv)
theorem sxs_X1_125 {args : Array Value} {s : State} (hgv : (Jvm.Cond.and given_1 narrow_1).before args s = true) (hts : ∀ w ∈ lw_tbl, w.before args s = true) : ∃ (q : Nat) (f : Nat → Int32), vk_R RX1 125 "half" q s ∧ txt s.heap.size q 4 f s := by
  refine str_of (bs := [104, 97, 108, 102]) (by decide) (hts (.stringRef RX1 125 "half") (tb_2 (List.mem_of_getElem? (i := 139) rfl))) (sub_before [false, true, true, false, false, false, false, true, true] hgv) (sub_before [false, true, true, false, false, false, false, true, false, true] hgv) (sub_before [false, true, true, false, false, false, false, true, false, false] hgv) (sub_before [false, true, true, false, false, false, false, false, true] hgv) (fun j hj => ?_) (fun a h => Nat.not_le.mpr h)
  rcases (show j = 0 ∨ j = 1 ∨ j = 2 ∨ j = 3 by omega) with rfl | rfl | rfl | rfl
  · exact (sub_before [false, true, true, false, false, false, false, false, false, true] hgv)
  · exact (sub_before [false, true, true, false, false, false, false, false, false, false] hgv)
  · exact (sub_before [false, true, false, true, true, true, true, true, true] hgv)
  · exact (sub_before [false, true, false, true, true, true, true, true, false] hgv)
theorem sxs_X1_139 {args : Array Value} {s : State} (hgv : (Jvm.Cond.and given_1 narrow_1).before args s = true) (hts : ∀ w ∈ lw_tbl, w.before args s = true) : ∃ (q : Nat) (f : Nat → Int32), vk_R RX1 139 "odd" q s ∧ txt s.heap.size q 3 f s := by
  refine str_of (bs := [111, 100, 100]) (by decide) (hts (.stringRef RX1 139 "odd") (tb_2 (List.mem_of_getElem? (i := 157) rfl))) (sub_before [false, true, false, true, true, true, true, false, true] hgv) (sub_before [false, true, false, true, true, true, true, false, false, true] hgv) (sub_before [false, true, false, true, true, true, true, false, false, false] hgv) (sub_before [false, true, false, true, true, true, false, true, true] hgv) (fun j hj => ?_) (fun a h => Nat.not_le.mpr h)
  rcases (show j = 0 ∨ j = 1 ∨ j = 2 by omega) with rfl | rfl | rfl
  · exact (sub_before [false, true, false, true, true, true, false, true, false] hgv)
  · exact (sub_before [false, true, false, true, true, true, false, false, true] hgv)
  · exact (sub_before [false, true, false, true, true, true, false, false, false, true] hgv)
theorem sxs_X1_145 {args : Array Value} {s : State} (hgv : (Jvm.Cond.and given_1 narrow_1).before args s = true) (hts : ∀ w ∈ lw_tbl, w.before args s = true) : ∃ (q : Nat) (f : Nat → Int32), vk_R RX1 145 "mirror" q s ∧ txt s.heap.size q 6 f s := by
  refine str_of (bs := [109, 105, 114, 114, 111, 114]) (by decide) (hts (.stringRef RX1 145 "mirror") (tb_2 (List.mem_of_getElem? (i := 161) rfl))) (sub_before [false, true, false, true, true, true, false, false, false, false] hgv) (sub_before [false, true, false, true, true, false, true, true, true] hgv) (sub_before [false, true, false, true, true, false, true, true, false] hgv) (sub_before [false, true, false, true, true, false, true, false, true] hgv) (fun j hj => ?_) (fun a h => Nat.not_le.mpr h)
  rcases (show j = 0 ∨ j = 1 ∨ j = 2 ∨ j = 3 ∨ j = 4 ∨ j = 5 by omega) with rfl | rfl | rfl | rfl | rfl | rfl
  · exact (sub_before [false, true, false, true, true, false, true, false, false, true] hgv)
  · exact (sub_before [false, true, false, true, true, false, true, false, false, false] hgv)
  · exact (sub_before [false, true, false, true, true, false, false, true, true] hgv)
  · exact (sub_before [false, true, false, true, true, false, false, true, false, true] hgv)
  · exact (sub_before [false, true, false, true, true, false, false, true, false, false] hgv)
  · exact (sub_before [false, true, false, true, true, false, false, false, true] hgv)
theorem sxs_X1_147 {args : Array Value} {s : State} (hgv : (Jvm.Cond.and given_1 narrow_1).before args s = true) (hts : ∀ w ∈ lw_tbl, w.before args s = true) : ∃ (q : Nat) (f : Nat → Int32), vk_R RX1 147 "unlike" q s ∧ txt s.heap.size q 6 f s := by
  refine str_of (bs := [117, 110, 108, 105, 107, 101]) (by decide) (hts (.stringRef RX1 147 "unlike") (tb_2 (List.mem_of_getElem? (i := 162) rfl))) (sub_before [false, true, false, true, true, false, false, false, false, true] hgv) (sub_before [false, true, false, true, true, false, false, false, false, false] hgv) (sub_before [false, true, false, true, false, true, true, true, true] hgv) (sub_before [false, true, false, true, false, true, true, true, false] hgv) (fun j hj => ?_) (fun a h => Nat.not_le.mpr h)
  rcases (show j = 0 ∨ j = 1 ∨ j = 2 ∨ j = 3 ∨ j = 4 ∨ j = 5 by omega) with rfl | rfl | rfl | rfl | rfl | rfl
  · exact (sub_before [false, true, false, true, false, true, true, false, true] hgv)
  · exact (sub_before [false, true, false, true, false, true, true, false, false, true] hgv)
  · exact (sub_before [false, true, false, true, false, true, true, false, false, false] hgv)
  · exact (sub_before [false, true, false, true, false, true, false, true, true] hgv)
  · exact (sub_before [false, true, false, true, false, true, false, true, false, true] hgv)
  · exact (sub_before [false, true, false, true, false, true, false, true, false, false] hgv)
theorem sxs_X1_149 {args : Array Value} {s : State} (hgv : (Jvm.Cond.and given_1 narrow_1).before args s = true) (hts : ∀ w ∈ lw_tbl, w.before args s = true) : ∃ (q : Nat) (f : Nat → Int32), vk_R RX1 149 "square" q s ∧ txt s.heap.size q 6 f s := by
  refine str_of (bs := [115, 113, 117, 97, 114, 101]) (by decide) (hts (.stringRef RX1 149 "square") (tb_2 (List.mem_of_getElem? (i := 163) rfl))) (sub_before [false, true, false, true, false, true, false, false, true] hgv) (sub_before [false, true, false, true, false, true, false, false, false, true] hgv) (sub_before [false, true, false, true, false, true, false, false, false, false] hgv) (sub_before [false, true, false, true, false, false, true, true, true] hgv) (fun j hj => ?_) (fun a h => Nat.not_le.mpr h)
  rcases (show j = 0 ∨ j = 1 ∨ j = 2 ∨ j = 3 ∨ j = 4 ∨ j = 5 by omega) with rfl | rfl | rfl | rfl | rfl | rfl
  · exact (sub_before [false, true, false, true, false, false, true, true, false] hgv)
  · exact (sub_before [false, true, false, true, false, false, true, false, true] hgv)
  · exact (sub_before [false, true, false, true, false, false, true, false, false, true] hgv)
  · exact (sub_before [false, true, false, true, false, false, true, false, false, false] hgv)
  · exact (sub_before [false, true, false, true, false, false, false, true, true] hgv)
  · exact (sub_before [false, true, false, true, false, false, false, true, false, true] hgv)
theorem sxs_X1_151 {args : Array Value} {s : State} (hgv : (Jvm.Cond.and given_1 narrow_1).before args s = true) (hts : ∀ w ∈ lw_tbl, w.before args s = true) : ∃ (q : Nat) (f : Nat → Int32), vk_R RX1 151 "sum" q s ∧ txt s.heap.size q 3 f s := by
  refine str_of (bs := [115, 117, 109]) (by decide) (hts (.stringRef RX1 151 "sum") (tb_2 (List.mem_of_getElem? (i := 164) rfl))) (sub_before [false, true, false, true, false, false, false, true, false, false] hgv) (sub_before [false, true, false, true, false, false, false, false, true] hgv) (sub_before [false, true, false, true, false, false, false, false, false, true] hgv) (sub_before [false, true, false, true, false, false, false, false, false, false] hgv) (fun j hj => ?_) (fun a h => Nat.not_le.mpr h)
  rcases (show j = 0 ∨ j = 1 ∨ j = 2 by omega) with rfl | rfl | rfl
  · exact (sub_before [false, true, false, false, true, true, true, true, true] hgv)
  · exact (sub_before [false, true, false, false, true, true, true, true, false] hgv)
  · exact (sub_before [false, true, false, false, true, true, true, false, true] hgv)
theorem sxs_X1_155 {args : Array Value} {s : State} (hgv : (Jvm.Cond.and given_1 narrow_1).before args s = true) (hts : ∀ w ∈ lw_tbl, w.before args s = true) : ∃ (q : Nat) (f : Nat → Int32), vk_R RX1 155 "rest" q s ∧ txt s.heap.size q 4 f s := by
  refine str_of (bs := [114, 101, 115, 116]) (by decide) (hts (.stringRef RX1 155 "rest") (tb_2 (List.mem_of_getElem? (i := 165) rfl))) (sub_before [false, true, false, false, true, true, true, false, false, true] hgv) (sub_before [false, true, false, false, true, true, true, false, false, false] hgv) (sub_before [false, true, false, false, true, true, false, true, true] hgv) (sub_before [false, true, false, false, true, true, false, true, false] hgv) (fun j hj => ?_) (fun a h => Nat.not_le.mpr h)
  rcases (show j = 0 ∨ j = 1 ∨ j = 2 ∨ j = 3 by omega) with rfl | rfl | rfl | rfl
  · exact (sub_before [false, true, false, false, true, true, false, false, true] hgv)
  · exact (sub_before [false, true, false, false, true, true, false, false, false, true] hgv)
  · exact (sub_before [false, true, false, false, true, true, false, false, false, false] hgv)
  · exact (sub_before [false, true, false, false, true, false, true, true, true] hgv)
theorem sxs_X1_160 {args : Array Value} {s : State} (hgv : (Jvm.Cond.and given_1 narrow_1).before args s = true) (hts : ∀ w ∈ lw_tbl, w.before args s = true) : ∃ (q : Nat) (f : Nat → Int32), vk_R RX1 160 "by" q s ∧ txt s.heap.size q 2 f s := by
  refine str_of (bs := [98, 121]) (by decide) (hts (.stringRef RX1 160 "by") (tb_2 (List.mem_of_getElem? (i := 171) rfl))) (sub_before [false, true, false, false, true, false, false, true, false, false] hgv) (sub_before [false, true, false, false, true, false, false, false, true] hgv) (sub_before [false, true, false, false, true, false, false, false, false, true] hgv) (sub_before [false, true, false, false, true, false, false, false, false, false] hgv) (fun j hj => ?_) (fun a h => Nat.not_le.mpr h)
  rcases (show j = 0 ∨ j = 1 by omega) with rfl | rfl
  · exact (sub_before [false, true, false, false, false, true, true, true, true] hgv)
  · exact (sub_before [false, true, false, false, false, true, true, true, false] hgv)
theorem sxs_X1_162 {args : Array Value} {s : State} (hgv : (Jvm.Cond.and given_1 narrow_1).before args s = true) (hts : ∀ w ∈ lw_tbl, w.before args s = true) : ∃ (q : Nat) (f : Nat → Int32), vk_R RX1 162 "places" q s ∧ txt s.heap.size q 6 f s := by
  refine str_of (bs := [112, 108, 97, 99, 101, 115]) (by decide) (hts (.stringRef RX1 162 "places") (tb_2 (List.mem_of_getElem? (i := 172) rfl))) (sub_before [false, true, false, false, false, true, true, false, true] hgv) (sub_before [false, true, false, false, false, true, true, false, false, true] hgv) (sub_before [false, true, false, false, false, true, true, false, false, false] hgv) (sub_before [false, true, false, false, false, true, false, true, true] hgv) (fun j hj => ?_) (fun a h => Nat.not_le.mpr h)
  rcases (show j = 0 ∨ j = 1 ∨ j = 2 ∨ j = 3 ∨ j = 4 ∨ j = 5 by omega) with rfl | rfl | rfl | rfl | rfl | rfl
  · exact (sub_before [false, true, false, false, false, true, false, true, false, true] hgv)
  · exact (sub_before [false, true, false, false, false, true, false, true, false, false] hgv)
  · exact (sub_before [false, true, false, false, false, true, false, false, true] hgv)
  · exact (sub_before [false, true, false, false, false, true, false, false, false, true] hgv)
  · exact (sub_before [false, true, false, false, false, true, false, false, false, false] hgv)
  · exact (sub_before [false, true, false, false, false, false, true, true, true] hgv)
theorem sxs_X1_168 {args : Array Value} {s : State} (hgv : (Jvm.Cond.and given_1 narrow_1).before args s = true) (hts : ∀ w ∈ lw_tbl, w.before args s = true) : ∃ (q : Nat) (f : Nat → Int32), vk_R RX1 168 "like" q s ∧ txt s.heap.size q 4 f s := by
  refine str_of (bs := [108, 105, 107, 101]) (by decide) (hts (.stringRef RX1 168 "like") (tb_2 (List.mem_of_getElem? (i := 178) rfl))) (sub_before [false, true, false, false, false, false, true, true, false] hgv) (sub_before [false, true, false, false, false, false, true, false, true] hgv) (sub_before [false, true, false, false, false, false, true, false, false, true] hgv) (sub_before [false, true, false, false, false, false, true, false, false, false] hgv) (fun j hj => ?_) (fun a h => Nat.not_le.mpr h)
  rcases (show j = 0 ∨ j = 1 ∨ j = 2 ∨ j = 3 by omega) with rfl | rfl | rfl | rfl
  · exact (sub_before [false, true, false, false, false, false, false, true, true] hgv)
  · exact (sub_before [false, true, false, false, false, false, false, true, false, true] hgv)
  · exact (sub_before [false, true, false, false, false, false, false, true, false, false] hgv)
  · exact (sub_before [false, true, false, false, false, false, false, false, true] hgv)
theorem sxs_X1_170 {args : Array Value} {s : State} (hgv : (Jvm.Cond.and given_1 narrow_1).before args s = true) (hts : ∀ w ∈ lw_tbl, w.before args s = true) : ∃ (q : Nat) (f : Nat → Int32), vk_R RX1 170 "of" q s ∧ txt s.heap.size q 2 f s := by
  refine str_of (bs := [111, 102]) (by decide) (hts (.stringRef RX1 170 "of") (tb_2 (List.mem_of_getElem? (i := 170) rfl))) (sub_before [false, true, false, false, true, false, true, true, false] hgv) (sub_before [false, true, false, false, true, false, true, false, true] hgv) (sub_before [false, true, false, false, true, false, true, false, false, true] hgv) (sub_before [false, true, false, false, true, false, true, false, false, false] hgv) (fun j hj => ?_) (fun a h => Nat.not_le.mpr h)
  rcases (show j = 0 ∨ j = 1 by omega) with rfl | rfl
  · exact (sub_before [false, true, false, false, true, false, false, true, true] hgv)
  · exact (sub_before [false, true, false, false, true, false, false, true, false, true] hgv)
theorem sxs_X10_188 {args : Array Value} {s : State} (hgv : (Jvm.Cond.and given_1 narrow_1).before args s = true) (hts : ∀ w ∈ lw_tbl, w.before args s = true) : ∃ (q : Nat) (f : Nat → Int32), vk_R RX10 188 "of" q s ∧ txt s.heap.size q 2 f s := by
  refine str_of (bs := [111, 102]) (by decide) (hts (.stringRef RX10 188 "of") (tb_6 (List.mem_of_getElem? (i := 88) rfl))) (sub_before [false, false, false, true, false, false, false, true, true] hgv) (sub_before [false, false, false, true, false, false, false, true, false, true] hgv) (sub_before [false, false, false, true, false, false, false, true, false, false] hgv) (sub_before [false, false, false, true, false, false, false, false, true] hgv) (fun j hj => ?_) (fun a h => Nat.not_le.mpr h)
  rcases (show j = 0 ∨ j = 1 by omega) with rfl | rfl
  · exact (sub_before [false, false, false, true, false, false, false, false, false, true] hgv)
  · exact (sub_before [false, false, false, true, false, false, false, false, false, false] hgv)
theorem sxs_X10_192 {args : Array Value} {s : State} (hgv : (Jvm.Cond.and given_1 narrow_1).before args s = true) (hts : ∀ w ∈ lw_tbl, w.before args s = true) : ∃ (q : Nat) (f : Nat → Int32), vk_R RX10 192 "half" q s ∧ txt s.heap.size q 4 f s := by
  refine str_of (bs := [104, 97, 108, 102]) (by decide) (hts (.stringRef RX10 192 "half") (tb_6 (List.mem_of_getElem? (i := 73) rfl))) (sub_before [false, false, true, false, true, false, true, false, false, true] hgv) (sub_before [false, false, true, false, true, false, true, false, false, false] hgv) (sub_before [false, false, true, false, true, false, false, true, true] hgv) (sub_before [false, false, true, false, true, false, false, true, false, true] hgv) (fun j hj => ?_) (fun a h => Nat.not_le.mpr h)
  rcases (show j = 0 ∨ j = 1 ∨ j = 2 ∨ j = 3 by omega) with rfl | rfl | rfl | rfl
  · exact (sub_before [false, false, true, false, true, false, false, true, false, false] hgv)
  · exact (sub_before [false, false, true, false, true, false, false, false, true] hgv)
  · exact (sub_before [false, false, true, false, true, false, false, false, false, true] hgv)
  · exact (sub_before [false, false, true, false, true, false, false, false, false, false] hgv)
theorem sxs_X10_194 {args : Array Value} {s : State} (hgv : (Jvm.Cond.and given_1 narrow_1).before args s = true) (hts : ∀ w ∈ lw_tbl, w.before args s = true) : ∃ (q : Nat) (f : Nat → Int32), vk_R RX10 194 "odd" q s ∧ txt s.heap.size q 3 f s := by
  refine str_of (bs := [111, 100, 100]) (by decide) (hts (.stringRef RX10 194 "odd") (tb_6 (List.mem_of_getElem? (i := 78) rfl))) (sub_before [false, false, true, false, false, true, true, true, false] hgv) (sub_before [false, false, true, false, false, true, true, false, true] hgv) (sub_before [false, false, true, false, false, true, true, false, false, true] hgv) (sub_before [false, false, true, false, false, true, true, false, false, false] hgv) (fun j hj => ?_) (fun a h => Nat.not_le.mpr h)
  rcases (show j = 0 ∨ j = 1 ∨ j = 2 by omega) with rfl | rfl | rfl
  · exact (sub_before [false, false, true, false, false, true, false, true, true] hgv)
  · exact (sub_before [false, false, true, false, false, true, false, true, false, true] hgv)
  · exact (sub_before [false, false, true, false, false, true, false, true, false, false] hgv)
theorem sxs_X10_196 {args : Array Value} {s : State} (hgv : (Jvm.Cond.and given_1 narrow_1).before args s = true) (hts : ∀ w ∈ lw_tbl, w.before args s = true) : ∃ (q : Nat) (f : Nat → Int32), vk_R RX10 196 "mirror" q s ∧ txt s.heap.size q 6 f s := by
  refine str_of (bs := [109, 105, 114, 114, 111, 114]) (by decide) (hts (.stringRef RX10 196 "mirror") (tb_6 (List.mem_of_getElem? (i := 79) rfl))) (sub_before [false, false, true, false, false, true, false, false, false, true] hgv) (sub_before [false, false, true, false, false, true, false, false, false, false] hgv) (sub_before [false, false, true, false, false, false, true, true, true] hgv) (sub_before [false, false, true, false, false, false, true, true, false] hgv) (fun j hj => ?_) (fun a h => Nat.not_le.mpr h)
  rcases (show j = 0 ∨ j = 1 ∨ j = 2 ∨ j = 3 ∨ j = 4 ∨ j = 5 by omega) with rfl | rfl | rfl | rfl | rfl | rfl
  · exact (sub_before [false, false, true, false, false, false, true, false, true] hgv)
  · exact (sub_before [false, false, true, false, false, false, true, false, false, true] hgv)
  · exact (sub_before [false, false, true, false, false, false, true, false, false, false] hgv)
  · exact (sub_before [false, false, true, false, false, false, false, true, true] hgv)
  · exact (sub_before [false, false, true, false, false, false, false, true, false, true] hgv)
  · exact (sub_before [false, false, true, false, false, false, false, true, false, false] hgv)
theorem sxs_X10_198 {args : Array Value} {s : State} (hgv : (Jvm.Cond.and given_1 narrow_1).before args s = true) (hts : ∀ w ∈ lw_tbl, w.before args s = true) : ∃ (q : Nat) (f : Nat → Int32), vk_R RX10 198 "unlike" q s ∧ txt s.heap.size q 6 f s := by
  refine str_of (bs := [117, 110, 108, 105, 107, 101]) (by decide) (hts (.stringRef RX10 198 "unlike") (tb_6 (List.mem_of_getElem? (i := 80) rfl))) (sub_before [false, false, true, false, false, false, false, false, false, true] hgv) (sub_before [false, false, true, false, false, false, false, false, false, false] hgv) (sub_before [false, false, false, true, true, true, true, true, true] hgv) (sub_before [false, false, false, true, true, true, true, true, false] hgv) (fun j hj => ?_) (fun a h => Nat.not_le.mpr h)
  rcases (show j = 0 ∨ j = 1 ∨ j = 2 ∨ j = 3 ∨ j = 4 ∨ j = 5 by omega) with rfl | rfl | rfl | rfl | rfl | rfl
  · exact (sub_before [false, false, false, true, true, true, true, false, true] hgv)
  · exact (sub_before [false, false, false, true, true, true, true, false, false, true] hgv)
  · exact (sub_before [false, false, false, true, true, true, true, false, false, false] hgv)
  · exact (sub_before [false, false, false, true, true, true, false, true, true] hgv)
  · exact (sub_before [false, false, false, true, true, true, false, true, false] hgv)
  · exact (sub_before [false, false, false, true, true, true, false, false, true] hgv)
theorem sxs_X10_200 {args : Array Value} {s : State} (hgv : (Jvm.Cond.and given_1 narrow_1).before args s = true) (hts : ∀ w ∈ lw_tbl, w.before args s = true) : ∃ (q : Nat) (f : Nat → Int32), vk_R RX10 200 "square" q s ∧ txt s.heap.size q 6 f s := by
  refine str_of (bs := [115, 113, 117, 97, 114, 101]) (by decide) (hts (.stringRef RX10 200 "square") (tb_6 (List.mem_of_getElem? (i := 81) rfl))) (sub_before [false, false, false, true, true, true, false, false, false, false] hgv) (sub_before [false, false, false, true, true, false, true, true, true] hgv) (sub_before [false, false, false, true, true, false, true, true, false] hgv) (sub_before [false, false, false, true, true, false, true, false, true] hgv) (fun j hj => ?_) (fun a h => Nat.not_le.mpr h)
  rcases (show j = 0 ∨ j = 1 ∨ j = 2 ∨ j = 3 ∨ j = 4 ∨ j = 5 by omega) with rfl | rfl | rfl | rfl | rfl | rfl
  · exact (sub_before [false, false, false, true, true, false, true, false, false, true] hgv)
  · exact (sub_before [false, false, false, true, true, false, true, false, false, false] hgv)
  · exact (sub_before [false, false, false, true, true, false, false, true, true] hgv)
  · exact (sub_before [false, false, false, true, true, false, false, true, false, true] hgv)
  · exact (sub_before [false, false, false, true, true, false, false, true, false, false] hgv)
  · exact (sub_before [false, false, false, true, true, false, false, false, true] hgv)
theorem sxs_X10_202 {args : Array Value} {s : State} (hgv : (Jvm.Cond.and given_1 narrow_1).before args s = true) (hts : ∀ w ∈ lw_tbl, w.before args s = true) : ∃ (q : Nat) (f : Nat → Int32), vk_R RX10 202 "sum" q s ∧ txt s.heap.size q 3 f s := by
  refine str_of (bs := [115, 117, 109]) (by decide) (hts (.stringRef RX10 202 "sum") (tb_6 (List.mem_of_getElem? (i := 82) rfl))) (sub_before [false, false, false, true, true, false, false, false, false, false] hgv) (sub_before [false, false, false, true, false, true, true, true, true] hgv) (sub_before [false, false, false, true, false, true, true, true, false] hgv) (sub_before [false, false, false, true, false, true, true, false, true] hgv) (fun j hj => ?_) (fun a h => Nat.not_le.mpr h)
  rcases (show j = 0 ∨ j = 1 ∨ j = 2 by omega) with rfl | rfl | rfl
  · exact (sub_before [false, false, false, true, false, true, true, false, false, true] hgv)
  · exact (sub_before [false, false, false, true, false, true, true, false, false, false] hgv)
  · exact (sub_before [false, false, false, true, false, true, false, true, true] hgv)
theorem sxs_X10_204 {args : Array Value} {s : State} (hgv : (Jvm.Cond.and given_1 narrow_1).before args s = true) (hts : ∀ w ∈ lw_tbl, w.before args s = true) : ∃ (q : Nat) (f : Nat → Int32), vk_R RX10 204 "rest" q s ∧ txt s.heap.size q 4 f s := by
  refine str_of (bs := [114, 101, 115, 116]) (by decide) (hts (.stringRef RX10 204 "rest") (tb_6 (List.mem_of_getElem? (i := 83) rfl))) (sub_before [false, false, false, true, false, true, false, true, false, false] hgv) (sub_before [false, false, false, true, false, true, false, false, true] hgv) (sub_before [false, false, false, true, false, true, false, false, false, true] hgv) (sub_before [false, false, false, true, false, true, false, false, false, false] hgv) (fun j hj => ?_) (fun a h => Nat.not_le.mpr h)
  rcases (show j = 0 ∨ j = 1 ∨ j = 2 ∨ j = 3 by omega) with rfl | rfl | rfl | rfl
  · exact (sub_before [false, false, false, true, false, false, true, true, true] hgv)
  · exact (sub_before [false, false, false, true, false, false, true, true, false] hgv)
  · exact (sub_before [false, false, false, true, false, false, true, false, true] hgv)
  · exact (sub_before [false, false, false, true, false, false, true, false, false, true] hgv)
theorem sxs_X10_209 {args : Array Value} {s : State} (hgv : (Jvm.Cond.and given_1 narrow_1).before args s = true) (hts : ∀ w ∈ lw_tbl, w.before args s = true) : ∃ (q : Nat) (f : Nat → Int32), vk_R RX10 209 "by" q s ∧ txt s.heap.size q 2 f s := by
  refine str_of (bs := [98, 121]) (by decide) (hts (.stringRef RX10 209 "by") (tb_6 (List.mem_of_getElem? (i := 90) rfl))) (sub_before [false, false, false, false, true, true, true, true, false] hgv) (sub_before [false, false, false, false, true, true, true, false, true] hgv) (sub_before [false, false, false, false, true, true, true, false, false, true] hgv) (sub_before [false, false, false, false, true, true, true, false, false, false] hgv) (fun j hj => ?_) (fun a h => Nat.not_le.mpr h)
  rcases (show j = 0 ∨ j = 1 by omega) with rfl | rfl
  · exact (sub_before [false, false, false, false, true, true, false, true, true] hgv)
  · exact (sub_before [false, false, false, false, true, true, false, true, false, true] hgv)
theorem sxs_X10_211 {args : Array Value} {s : State} (hgv : (Jvm.Cond.and given_1 narrow_1).before args s = true) (hts : ∀ w ∈ lw_tbl, w.before args s = true) : ∃ (q : Nat) (f : Nat → Int32), vk_R RX10 211 "places" q s ∧ txt s.heap.size q 6 f s := by
  refine str_of (bs := [112, 108, 97, 99, 101, 115]) (by decide) (hts (.stringRef RX10 211 "places") (tb_6 (List.mem_of_getElem? (i := 91) rfl))) (sub_before [false, false, false, false, true, true, false, false, true] hgv) (sub_before [false, false, false, false, true, true, false, false, false, true] hgv) (sub_before [false, false, false, false, true, true, false, false, false, false] hgv) (sub_before [false, false, false, false, true, false, true, true, true] hgv) (fun j hj => ?_) (fun a h => Nat.not_le.mpr h)
  rcases (show j = 0 ∨ j = 1 ∨ j = 2 ∨ j = 3 ∨ j = 4 ∨ j = 5 by omega) with rfl | rfl | rfl | rfl | rfl | rfl
  · exact (sub_before [false, false, false, false, true, false, true, true, false] hgv)
  · exact (sub_before [false, false, false, false, true, false, true, false, true] hgv)
  · exact (sub_before [false, false, false, false, true, false, true, false, false, true] hgv)
  · exact (sub_before [false, false, false, false, true, false, true, false, false, false] hgv)
  · exact (sub_before [false, false, false, false, true, false, false, true, true] hgv)
  · exact (sub_before [false, false, false, false, true, false, false, true, false, true] hgv)
theorem sxs_X10_216 {args : Array Value} {s : State} (hgv : (Jvm.Cond.and given_1 narrow_1).before args s = true) (hts : ∀ w ∈ lw_tbl, w.before args s = true) : ∃ (q : Nat) (f : Nat → Int32), vk_R RX10 216 "like" q s ∧ txt s.heap.size q 4 f s := by
  refine str_of (bs := [108, 105, 107, 101]) (by decide) (hts (.stringRef RX10 216 "like") (tb_6 (List.mem_of_getElem? (i := 96) rfl))) (sub_before [false, false, false, false, true, false, false, false, true] hgv) (sub_before [false, false, false, false, true, false, false, false, false, true] hgv) (sub_before [false, false, false, false, true, false, false, false, false, false] hgv) (sub_before [false, false, false, false, false, true, true, true, true] hgv) (fun j hj => ?_) (fun a h => Nat.not_le.mpr h)
  rcases (show j = 0 ∨ j = 1 ∨ j = 2 ∨ j = 3 by omega) with rfl | rfl | rfl | rfl
  · exact (sub_before [false, false, false, false, false, true, true, true, false] hgv)
  · exact (sub_before [false, false, false, false, false, true, true, false, true] hgv)
  · exact (sub_before [false, false, false, false, false, true, true, false, false, true] hgv)
  · exact (sub_before [false, false, false, false, false, true, true, false, false, false] hgv)
theorem sxs_X10_227 {args : Array Value} {s : State} (hgv : (Jvm.Cond.and given_1 narrow_1).before args s = true) (hts : ∀ w ∈ lw_tbl, w.before args s = true) : ∃ (q : Nat) (f : Nat → Int32), vk_R RX10 227 "not" q s ∧ txt s.heap.size q 3 f s := by
  refine str_of (bs := [110, 111, 116]) (by decide) (hts (.stringRef RX10 227 "not") (tb_6 (List.mem_of_getElem? (i := 64) rfl))) (sub_before [false, false, true, false, true, true, false, true, true] hgv) (sub_before [false, false, true, false, true, true, false, true, false] hgv) (sub_before [false, false, true, false, true, true, false, false, true] hgv) (sub_before [false, false, true, false, true, true, false, false, false, true] hgv) (fun j hj => ?_) (fun a h => Nat.not_le.mpr h)
  rcases (show j = 0 ∨ j = 1 ∨ j = 2 by omega) with rfl | rfl | rfl
  · exact (sub_before [false, false, true, false, true, true, false, false, false, false] hgv)
  · exact (sub_before [false, false, true, false, true, false, true, true, true] hgv)
  · exact (sub_before [false, false, true, false, true, false, true, true, false] hgv)
theorem sxs_X10_241 {args : Array Value} {s : State} (hgv : (Jvm.Cond.and given_1 narrow_1).before args s = true) (hts : ∀ w ∈ lw_tbl, w.before args s = true) : ∃ (q : Nat) (f : Nat → Int32), vk_R RX10 241 "and" q s ∧ txt s.heap.size q 3 f s := by
  refine str_of (bs := [97, 110, 100]) (by decide) (hts (.stringRef RX10 241 "and") (tb_6 (List.mem_of_getElem? (i := 121) rfl))) (sub_before [false, false, false, false, false, true, false, true, false, true] hgv) (sub_before [false, false, false, false, false, true, false, true, false, false] hgv) (sub_before [false, false, false, false, false, true, false, false, true] hgv) (sub_before [false, false, false, false, false, true, false, false, false, true] hgv) (fun j hj => ?_) (fun a h => Nat.not_le.mpr h)
  rcases (show j = 0 ∨ j = 1 ∨ j = 2 by omega) with rfl | rfl | rfl
  · exact (sub_before [false, false, false, false, false, true, false, false, false, false] hgv)
  · exact (sub_before [false, false, false, false, false, false, true, true, true] hgv)
  · exact (sub_before [false, false, false, false, false, false, true, true, false] hgv)
theorem sxs_X10_243 {args : Array Value} {s : State} (hgv : (Jvm.Cond.and given_1 narrow_1).before args s = true) (hts : ∀ w ∈ lw_tbl, w.before args s = true) : ∃ (q : Nat) (f : Nat → Int32), vk_R RX10 243 "or" q s ∧ txt s.heap.size q 2 f s := by
  refine str_of (bs := [111, 114]) (by decide) (hts (.stringRef RX10 243 "or") (tb_6 (List.mem_of_getElem? (i := 122) rfl))) (sub_before [false, false, false, false, false, false, true, false, false, true] hgv) (sub_before [false, false, false, false, false, false, true, false, false, false] hgv) (sub_before [false, false, false, false, false, false, false, true, true] hgv) (sub_before [false, false, false, false, false, false, false, true, false, true] hgv) (fun j hj => ?_) (fun a h => Nat.not_le.mpr h)
  rcases (show j = 0 ∨ j = 1 by omega) with rfl | rfl
  · exact (sub_before [false, false, false, false, false, false, false, true, false, false] hgv)
  · exact (sub_before [false, false, false, false, false, false, false, false, true] hgv)
theorem sxs_X10_248 {args : Array Value} {s : State} (hgv : (Jvm.Cond.and given_1 narrow_1).before args s = true) (hts : ∀ w ∈ lw_tbl, w.before args s = true) : ∃ (q : Nat) (f : Nat → Int32), vk_R RX10 248 "roll" q s ∧ txt s.heap.size q 4 f s := by
  refine str_of (bs := [114, 111, 108, 108]) (by decide) (hts (.stringRef RX10 248 "roll") (tb_6 (List.mem_of_getElem? (i := 26) rfl))) (sub_before [false, false, true, true, true, false, true, true, false] hgv) (sub_before [false, false, true, true, true, false, true, false, true] hgv) (sub_before [false, false, true, true, true, false, true, false, false, true] hgv) (sub_before [false, false, true, true, true, false, true, false, false, false] hgv) (fun j hj => ?_) (fun a h => Nat.not_le.mpr h)
  rcases (show j = 0 ∨ j = 1 ∨ j = 2 ∨ j = 3 by omega) with rfl | rfl | rfl | rfl
  · exact (sub_before [false, false, true, true, true, false, false, true, true] hgv)
  · exact (sub_before [false, false, true, true, true, false, false, true, false, true] hgv)
  · exact (sub_before [false, false, true, true, true, false, false, true, false, false] hgv)
  · exact (sub_before [false, false, true, true, true, false, false, false, true] hgv)
theorem sxs_X10_250 {args : Array Value} {s : State} (hgv : (Jvm.Cond.and given_1 narrow_1).before args s = true) (hts : ∀ w ∈ lw_tbl, w.before args s = true) : ∃ (q : Nat) (f : Nat → Int32), vk_R RX10 250 "length" q s ∧ txt s.heap.size q 6 f s := by
  refine str_of (bs := [108, 101, 110, 103, 116, 104]) (by decide) (hts (.stringRef RX10 250 "length") (tb_6 (List.mem_of_getElem? (i := 45) rfl))) (sub_before [false, false, true, true, true, false, false, false, false, false] hgv) (sub_before [false, false, true, true, false, true, true, true, true] hgv) (sub_before [false, false, true, true, false, true, true, true, false] hgv) (sub_before [false, false, true, true, false, true, true, false, true] hgv) (fun j hj => ?_) (fun a h => Nat.not_le.mpr h)
  rcases (show j = 0 ∨ j = 1 ∨ j = 2 ∨ j = 3 ∨ j = 4 ∨ j = 5 by omega) with rfl | rfl | rfl | rfl | rfl | rfl
  · exact (sub_before [false, false, true, true, false, true, true, false, false, true] hgv)
  · exact (sub_before [false, false, true, true, false, true, true, false, false, false] hgv)
  · exact (sub_before [false, false, true, true, false, true, false, true, true] hgv)
  · exact (sub_before [false, false, true, true, false, true, false, true, false, true] hgv)
  · exact (sub_before [false, false, true, true, false, true, false, true, false, false] hgv)
  · exact (sub_before [false, false, true, true, false, true, false, false, true] hgv)
theorem sxs_X10_255 {args : Array Value} {s : State} (hgv : (Jvm.Cond.and given_1 narrow_1).before args s = true) (hts : ∀ w ∈ lw_tbl, w.before args s = true) : ∃ (q : Nat) (f : Nat → Int32), vk_R RX10 255 "base" q s ∧ txt s.heap.size q 4 f s := by
  refine str_of (bs := [98, 97, 115, 101]) (by decide) (hts (.stringRef RX10 255 "base") (tb_6 (List.mem_of_getElem? (i := 54) rfl))) (sub_before [false, false, true, true, false, true, false, false, false, false] hgv) (sub_before [false, false, true, true, false, false, true, true, true] hgv) (sub_before [false, false, true, true, false, false, true, true, false] hgv) (sub_before [false, false, true, true, false, false, true, false, true] hgv) (fun j hj => ?_) (fun a h => Nat.not_le.mpr h)
  rcases (show j = 0 ∨ j = 1 ∨ j = 2 ∨ j = 3 by omega) with rfl | rfl | rfl | rfl
  · exact (sub_before [false, false, true, true, false, false, true, false, false, true] hgv)
  · exact (sub_before [false, false, true, true, false, false, true, false, false, false] hgv)
  · exact (sub_before [false, false, true, true, false, false, false, true, true] hgv)
  · exact (sub_before [false, false, true, true, false, false, false, true, false, true] hgv)
theorem sxs_X10_266 {args : Array Value} {s : State} (hgv : (Jvm.Cond.and given_1 narrow_1).before args s = true) (hts : ∀ w ∈ lw_tbl, w.before args s = true) : ∃ (q : Nat) (f : Nat → Int32), vk_R RX10 266 "law" q s ∧ txt s.heap.size q 3 f s := by
  refine str_of (bs := [108, 97, 119]) (by decide) (hts (.stringRef RX10 266 "law") (tb_6 (List.mem_of_getElem? (i := 59) rfl))) (sub_before [false, false, true, true, false, false, false, false, true] hgv) (sub_before [false, false, true, true, false, false, false, false, false, true] hgv) (sub_before [false, false, true, true, false, false, false, false, false, false] hgv) (sub_before [false, false, true, false, true, true, true, true, true] hgv) (fun j hj => ?_) (fun a h => Nat.not_le.mpr h)
  rcases (show j = 0 ∨ j = 1 ∨ j = 2 by omega) with rfl | rfl | rfl
  · exact (sub_before [false, false, true, false, true, true, true, true, false] hgv)
  · exact (sub_before [false, false, true, false, true, true, true, false, true] hgv)
  · exact (sub_before [false, false, true, false, true, true, true, false, false, true] hgv)
