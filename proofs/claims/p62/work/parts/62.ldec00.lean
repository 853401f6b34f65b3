set_option maxRecDepth 16384
def BY (c : ByteArray) (pc b : Nat) : Prop := ∃ h : pc < c.size, c[pc].toNat = b
theorem u1_at {c : ByteArray} {pc b : Nat} (h : BY c pc b) : (Reader.u1 : Decoder Nat) c pc = .ok (b, pc + 1) := by
  obtain ⟨h, hb⟩ := h
  have e : (Reader.u1 : Decoder Nat) c pc = (dite (pc < c.size) (fun h => (do set (pc + 1); pure c[pc].toNat : Decoder Nat)) (fun _ => throw (HasTruncated.truncated pc))) c pc := rfl
  rw [e, dif_pos h, ← hb]; rfl
theorem bind_at {α β : Type} {x : Decoder α} {f : α → Decoder β} {c : ByteArray} {s a s'} (h : x c s = .ok (a, s')) : (x >>= f) c s = f a c s' := by
  have e : (x >>= f) c s = Except.bind (x c s) (fun q => f q.1 c q.2) := rfl
  rw [e, h]; rfl
theorem u2_at {c : ByteArray} {s x y : Nat} (h1 : BY c s x) (h2 : BY c (s + 1) y) : (Reader.u2 : Decoder Nat) c s = .ok (x * 256 + y, s + 2) :=
  (bind_at (u1_at h1)).trans (bind_at (u1_at h2))
theorem s1_at {c : ByteArray} {s x : Nat} (h1 : BY c s x) : (Reader.s1 : Decoder Int) c s = .ok (Reader.signed 8 x, s + 1) := by
  have e : (Reader.s1 : Decoder Int) c s = Except.bind ((Reader.u1 : Decoder Nat) c s) (fun q => .ok (Reader.signed 8 q.1, q.2)) := rfl
  rw [e, u1_at h1]; rfl
theorem s2_at {c : ByteArray} {s x y : Nat} (h1 : BY c s x) (h2 : BY c (s + 1) y) : (Reader.s2 : Decoder Int) c s = .ok (Reader.signed 16 (x * 256 + y), s + 2) := by
  have e : (Reader.s2 : Decoder Int) c s = Except.bind ((Reader.u2 : Decoder Nat) c s) (fun q => .ok (Reader.signed 16 q.1, q.2)) := rfl
  rw [e, u2_at h1 h2]; rfl
theorem dec_fin {c : ByteArray} {pc len : Nat} {i : Instr} (h : (Decoder.instr pc) c pc = .ok (i, pc + len)) : decode c pc = .ok (i, len) := by
  have e : decode c pc = Except.bind ((Decoder.instr pc) c pc) (fun q => .ok (q.1, q.2 - pc)) := rfl
  rw [e, h]
  show Except.ok (i, pc + len - pc) = _
  rw [Nat.add_sub_cancel_left]
theorem dec_42 {c : ByteArray} {pc : Nat} (h : BY c pc 42) : decode c pc = .ok (.aload_n 0, 1) := dec_fin ((bind_at (u1_at h)).trans rfl)
theorem dec_43 {c : ByteArray} {pc : Nat} (h : BY c pc 43) : decode c pc = .ok (.aload_n 1, 1) := dec_fin ((bind_at (u1_at h)).trans rfl)
theorem dec_44 {c : ByteArray} {pc : Nat} (h : BY c pc 44) : decode c pc = .ok (.aload_n 2, 1) := dec_fin ((bind_at (u1_at h)).trans rfl)
theorem dec_29 {c : ByteArray} {pc : Nat} (h : BY c pc 29) : decode c pc = .ok (.iload_n 3, 1) := dec_fin ((bind_at (u1_at h)).trans rfl)
theorem dec_96 {c : ByteArray} {pc : Nat} (h : BY c pc 96) : decode c pc = .ok (.iadd, 1) := dec_fin ((bind_at (u1_at h)).trans rfl)
theorem dec_100 {c : ByteArray} {pc : Nat} (h : BY c pc 100) : decode c pc = .ok (.isub, 1) := dec_fin ((bind_at (u1_at h)).trans rfl)
theorem dec_126 {c : ByteArray} {pc : Nat} (h : BY c pc 126) : decode c pc = .ok (.iand, 1) := dec_fin ((bind_at (u1_at h)).trans rfl)
theorem dec_46 {c : ByteArray} {pc : Nat} (h : BY c pc 46) : decode c pc = .ok (.iaload, 1) := dec_fin ((bind_at (u1_at h)).trans rfl)
theorem dec_3 {c : ByteArray} {pc : Nat} (h : BY c pc 3) : decode c pc = .ok (.iconst 0, 1) := dec_fin ((bind_at (u1_at h)).trans rfl)
theorem dec_4 {c : ByteArray} {pc : Nat} (h : BY c pc 4) : decode c pc = .ok (.iconst 1, 1) := dec_fin ((bind_at (u1_at h)).trans rfl)
theorem dec_5 {c : ByteArray} {pc : Nat} (h : BY c pc 5) : decode c pc = .ok (.iconst 2, 1) := dec_fin ((bind_at (u1_at h)).trans rfl)
theorem dec_6 {c : ByteArray} {pc : Nat} (h : BY c pc 6) : decode c pc = .ok (.iconst 3, 1) := dec_fin ((bind_at (u1_at h)).trans rfl)
theorem dec_7 {c : ByteArray} {pc : Nat} (h : BY c pc 7) : decode c pc = .ok (.iconst 4, 1) := dec_fin ((bind_at (u1_at h)).trans rfl)
theorem dec_8 {c : ByteArray} {pc : Nat} (h : BY c pc 8) : decode c pc = .ok (.iconst 5, 1) := dec_fin ((bind_at (u1_at h)).trans rfl)
theorem dec_133 {c : ByteArray} {pc : Nat} (h : BY c pc 133) : decode c pc = .ok (.i2l, 1) := dec_fin ((bind_at (u1_at h)).trans rfl)
theorem dec_121 {c : ByteArray} {pc : Nat} (h : BY c pc 121) : decode c pc = .ok (.lshl, 1) := dec_fin ((bind_at (u1_at h)).trans rfl)
theorem dec_127 {c : ByteArray} {pc : Nat} (h : BY c pc 127) : decode c pc = .ok (.land, 1) := dec_fin ((bind_at (u1_at h)).trans rfl)
theorem dec_129 {c : ByteArray} {pc : Nat} (h : BY c pc 129) : decode c pc = .ok (.lor, 1) := dec_fin ((bind_at (u1_at h)).trans rfl)
theorem dec_87 {c : ByteArray} {pc : Nat} (h : BY c pc 87) : decode c pc = .ok (.pop, 1) := dec_fin ((bind_at (u1_at h)).trans rfl)
theorem dec_88 {c : ByteArray} {pc : Nat} (h : BY c pc 88) : decode c pc = .ok (.pop2, 1) := dec_fin ((bind_at (u1_at h)).trans rfl)
theorem dec_148 {c : ByteArray} {pc : Nat} (h : BY c pc 148) : decode c pc = .ok (.lcmp, 1) := dec_fin ((bind_at (u1_at h)).trans rfl)
theorem dec_190 {c : ByteArray} {pc : Nat} (h : BY c pc 190) : decode c pc = .ok (.arraylength, 1) := dec_fin ((bind_at (u1_at h)).trans rfl)
theorem dec_172 {c : ByteArray} {pc : Nat} (h : BY c pc 172) : decode c pc = .ok (.ireturn, 1) := dec_fin ((bind_at (u1_at h)).trans rfl)
theorem dec_16 {c : ByteArray} {pc x : Nat} {v : Int} (h : BY c pc 16) (h1 : BY c (pc + 1) x) (hv : Reader.signed 8 x = v) : decode c pc = .ok (.bipush v, 2) := by
  subst hv; exact dec_fin ((bind_at (u1_at h)).trans (bind_at (s1_at h1)))
theorem dec_167 {c : ByteArray} {pc x y : Nat} {v : Int} (h : BY c pc 167) (h1 : BY c (pc + 1) x) (h2 : BY c (pc + 1 + 1) y) (hv : Reader.signed 16 (x * 256 + y) = v) : decode c pc = .ok (.goto v, 3) := by
  subst hv; exact dec_fin ((bind_at (u1_at h)).trans (bind_at (s2_at h1 h2)))
theorem dec_159 {c : ByteArray} {pc x y : Nat} {v : Int} (h : BY c pc 159) (h1 : BY c (pc + 1) x) (h2 : BY c (pc + 1 + 1) y) (hv : Reader.signed 16 (x * 256 + y) = v) : decode c pc = .ok (.if_icmp .eq v, 3) := by
  subst hv; exact dec_fin ((bind_at (u1_at h)).trans (bind_at (s2_at h1 h2)))
theorem dec_163 {c : ByteArray} {pc x y : Nat} {v : Int} (h : BY c pc 163) (h1 : BY c (pc + 1) x) (h2 : BY c (pc + 1 + 1) y) (hv : Reader.signed 16 (x * 256 + y) = v) : decode c pc = .ok (.if_icmp .gt v, 3) := by
  subst hv; exact dec_fin ((bind_at (u1_at h)).trans (bind_at (s2_at h1 h2)))
theorem dec_153 {c : ByteArray} {pc x y : Nat} {v : Int} (h : BY c pc 153) (h1 : BY c (pc + 1) x) (h2 : BY c (pc + 1 + 1) y) (hv : Reader.signed 16 (x * 256 + y) = v) : decode c pc = .ok (.ifCond .eq v, 3) := by
  subst hv; exact dec_fin ((bind_at (u1_at h)).trans (bind_at (s2_at h1 h2)))
theorem dec_20 {c : ByteArray} {pc x y v : Nat} (h : BY c pc 20) (h1 : BY c (pc + 1) x) (h2 : BY c (pc + 1 + 1) y) (hv : x * 256 + y = v) : decode c pc = .ok (.ldc2_w v, 3) := by
  subst hv; exact dec_fin ((bind_at (u1_at h)).trans (bind_at (u2_at h1 h2)))
theorem dec_182 {c : ByteArray} {pc x y v : Nat} (h : BY c pc 182) (h1 : BY c (pc + 1) x) (h2 : BY c (pc + 1 + 1) y) (hv : x * 256 + y = v) : decode c pc = .ok (.invokevirtual v, 3) := by
  subst hv; exact dec_fin ((bind_at (u1_at h)).trans (bind_at (u2_at h1 h2)))
theorem dec_132 {c : ByteArray} {pc x y : Nat} {v : Int} (h : BY c pc 132) (h1 : BY c (pc + 1) x) (h2 : BY c (pc + 1 + 1) y) (hv : Reader.signed 8 y = v) : decode c pc = .ok (.iinc x v, 3) := by
  subst hv; exact dec_fin ((bind_at (u1_at h)).trans ((bind_at (u1_at h1)).trans (bind_at (s1_at h2))))
theorem by_of {c : ByteArray} {n i b : Nat} {K R : List Nat} (hs : (c.data.toList.drop n).map UInt8.toNat = K ++ R) (hi : K[i]? = some b) : BY c (n + i) b := by
  have h1 : (K ++ R)[i]? = some b := by rw [List.getElem?_append_left (List.getElem?_eq_some_iff.mp hi).1]; exact hi
  rw [← hs, List.getElem?_map, List.getElem?_drop] at h1
  obtain ⟨x, hx, hb⟩ := Option.map_eq_some_iff.mp h1
  obtain ⟨hlt, he⟩ := List.getElem?_eq_some_iff.mp hx
  refine ⟨hlt, ?_⟩
  rw [← hb, ← he]; rfl
theorem suf_next {c : ByteArray} {n m : Nat} {K R : List Nat} (hs : (c.data.toList.drop n).map UInt8.toNat = K ++ R) (hl : K.length = m) : (c.data.toList.drop (n + m)).map UInt8.toNat = R := by
  have h := congrArg (List.drop m) hs
  rw [← List.map_drop, List.drop_drop] at h
  rw [h, ← hl, List.drop_left]
def KK0 : List Nat := [187, 0, 7, 89, 183, 0, 9, 76, 187, 0, 10, 89, 183, 0, 12, 77, 3, 62, 29, 42, 190, 16, 6, 100, 163, 9, 103, 42, 29, 46, 16, 63, 126, 170, 0, 0, 0, 0, 9, 88, 0, 0, 0, 0, 0, 0, 0, 60, 0, 0, 1, 3, 0, 0, 1, 66, 0, 0, 1, 89, 0, 0, 1, 102]
def KK1 : List Nat := [0, 0, 1, 125, 0, 0, 1, 158, 0, 0, 1, 191, 0, 0, 1, 224, 0, 0, 1, 247, 0, 0, 2, 14, 0, 0, 2, 47, 0, 0, 2, 80, 0, 0, 2, 113, 0, 0, 2, 146, 0, 0, 2, 179, 0, 0, 2, 222, 0, 0, 3, 19, 0, 0, 3, 72, 0, 0, 3, 105, 0, 0, 3, 138]
def KK2 : List Nat := [0, 0, 3, 171, 0, 0, 3, 194, 0, 0, 3, 217, 0, 0, 3, 240, 0, 0, 4, 17, 0, 0, 4, 50, 0, 0, 4, 93, 0, 0, 4, 146, 0, 0, 4, 179, 0, 0, 4, 212, 0, 0, 4, 245, 0, 0, 5, 12, 0, 0, 5, 45, 0, 0, 5, 88, 0, 0, 5, 131, 0, 0, 5, 174]
def KK3 : List Nat := [0, 0, 5, 197, 0, 0, 5, 230, 0, 0, 6, 7, 0, 0, 6, 50, 0, 0, 6, 83, 0, 0, 6, 126, 0, 0, 6, 159, 0, 0, 6, 202, 0, 0, 6, 235, 0, 0, 7, 22, 0, 0, 7, 65, 0, 0, 7, 98, 0, 0, 7, 121, 0, 0, 7, 144, 0, 0, 7, 167, 0, 0, 7, 210]
def KK4 : List Nat := [0, 0, 7, 243, 0, 0, 8, 20, 0, 0, 8, 53, 0, 0, 8, 96, 0, 0, 8, 119, 0, 0, 8, 142, 0, 0, 8, 165, 0, 0, 8, 208, 0, 0, 9, 25, 43, 42, 29, 4, 96, 46, 42, 29, 5, 96, 46, 42, 29, 6, 96, 46, 42, 29, 7, 96, 46, 42, 29, 8, 96, 46, 182, 0]
def KK5 : List Nat := [13, 87, 44, 42, 29, 4, 96, 46, 42, 29, 5, 96, 46, 42, 29, 6, 96, 46, 42, 29, 7, 96, 46, 42, 29, 8, 96, 46, 182, 0, 17, 87, 167, 8, 25, 43, 42, 29, 4, 96, 46, 182, 0, 18, 87, 44, 42, 29, 4, 96, 46, 182, 0, 22, 87, 167, 8, 2, 43, 182, 0, 23, 87, 44]
def KK6 : List Nat := [182, 0, 27, 87, 167, 7, 245, 43, 42, 29, 4, 96, 46, 182, 0, 28, 87, 44, 42, 29, 4, 96, 46, 182, 0, 31, 87, 167, 7, 222, 43, 42, 29, 4, 96, 46, 42, 29, 5, 96, 46, 182, 0, 32, 87, 44, 42, 29, 4, 96, 46, 42, 29, 5, 96, 46, 182, 0, 36, 87, 167, 7, 189, 43]
def KK7 : List Nat := [42, 29, 4, 96, 46, 42, 29, 5, 96, 46, 182, 0, 37, 87, 44, 42, 29, 4, 96, 46, 42, 29, 5, 96, 46, 182, 0, 40, 87, 167, 7, 156, 43, 42, 29, 4, 96, 46, 42, 29, 5, 96, 46, 182, 0, 41, 87, 44, 42, 29, 4, 96, 46, 42, 29, 5, 96, 46, 182, 0, 44, 87, 167, 7]
def KK8 : List Nat := [123, 43, 42, 29, 4, 96, 46, 182, 0, 45, 87, 44, 42, 29, 4, 96, 46, 182, 0, 48, 87, 167, 7, 100, 43, 42, 29, 4, 96, 46, 182, 0, 49, 87, 44, 42, 29, 4, 96, 46, 182, 0, 52, 87, 167, 7, 77, 43, 42, 29, 4, 96, 46, 42, 29, 5, 96, 46, 182, 0, 53, 87, 44, 42]
def KK9 : List Nat := [29, 4, 96, 46, 42, 29, 5, 96, 46, 182, 0, 56, 87, 167, 7, 44, 43, 42, 29, 4, 96, 46, 42, 29, 5, 96, 46, 182, 0, 57, 87, 44, 42, 29, 4, 96, 46, 42, 29, 5, 96, 46, 182, 0, 60, 87, 167, 7, 11, 43, 42, 29, 4, 96, 46, 42, 29, 5, 96, 46, 182, 0, 61, 87]
def KK10 : List Nat := [44, 42, 29, 4, 96, 46, 42, 29, 5, 96, 46, 182, 0, 64, 87, 167, 6, 234, 43, 42, 29, 4, 96, 46, 42, 29, 5, 96, 46, 182, 0, 65, 87, 44, 42, 29, 4, 96, 46, 42, 29, 5, 96, 46, 182, 0, 68, 87, 167, 6, 201, 43, 42, 29, 4, 96, 46, 42, 29, 5, 96, 46, 182, 0]
def KK11 : List Nat := [69, 87, 44, 42, 29, 4, 96, 46, 42, 29, 5, 96, 46, 182, 0, 72, 87, 167, 6, 168, 43, 42, 29, 4, 96, 46, 42, 29, 5, 96, 46, 42, 29, 6, 96, 46, 182, 0, 73, 87, 44, 42, 29, 4, 96, 46, 42, 29, 5, 96, 46, 42, 29, 6, 96, 46, 182, 0, 77, 87, 167, 6, 125, 43]
def KK12 : List Nat := [42, 29, 4, 96, 46, 42, 29, 5, 96, 46, 42, 29, 6, 96, 46, 42, 29, 7, 96, 46, 182, 0, 78, 87, 44, 42, 29, 4, 96, 46, 42, 29, 5, 96, 46, 42, 29, 6, 96, 46, 42, 29, 7, 96, 46, 182, 0, 82, 87, 167, 6, 72, 43, 42, 29, 4, 96, 46, 42, 29, 5, 96, 46, 42]
def KK13 : List Nat := [29, 6, 96, 46, 42, 29, 7, 96, 46, 182, 0, 83, 87, 44, 42, 29, 4, 96, 46, 42, 29, 5, 96, 46, 42, 29, 6, 96, 46, 42, 29, 7, 96, 46, 182, 0, 86, 87, 167, 6, 19, 43, 42, 29, 4, 96, 46, 42, 29, 5, 96, 46, 182, 0, 87, 87, 44, 42, 29, 4, 96, 46, 42, 29]
def KK14 : List Nat := [5, 96, 46, 182, 0, 90, 87, 167, 5, 242, 43, 42, 29, 4, 96, 46, 42, 29, 5, 96, 46, 182, 0, 91, 87, 44, 42, 29, 4, 96, 46, 42, 29, 5, 96, 46, 182, 0, 94, 87, 167, 5, 209, 43, 42, 29, 4, 96, 46, 42, 29, 5, 96, 46, 182, 0, 95, 87, 44, 42, 29, 4, 96, 46]
def KK15 : List Nat := [42, 29, 5, 96, 46, 182, 0, 98, 87, 167, 5, 176, 43, 42, 29, 4, 96, 46, 182, 0, 99, 87, 44, 42, 29, 4, 96, 46, 182, 0, 102, 87, 167, 5, 153, 43, 42, 29, 4, 96, 46, 182, 0, 103, 87, 44, 42, 29, 4, 96, 46, 182, 0, 106, 87, 167, 5, 130, 43, 42, 29, 4, 96, 46]
def KK16 : List Nat := [182, 0, 107, 87, 44, 42, 29, 4, 96, 46, 182, 0, 110, 87, 167, 5, 107, 43, 42, 29, 4, 96, 46, 42, 29, 5, 96, 46, 182, 0, 111, 87, 44, 42, 29, 4, 96, 46, 42, 29, 5, 96, 46, 182, 0, 114, 87, 167, 5, 74, 43, 42, 29, 4, 96, 46, 42, 29, 5, 96, 46, 182, 0, 115]
def KK17 : List Nat := [87, 44, 42, 29, 4, 96, 46, 42, 29, 5, 96, 46, 182, 0, 118, 87, 167, 5, 41, 43, 42, 29, 4, 96, 46, 42, 29, 5, 96, 46, 42, 29, 6, 96, 46, 182, 0, 119, 87, 44, 42, 29, 4, 96, 46, 42, 29, 5, 96, 46, 42, 29, 6, 96, 46, 182, 0, 122, 87, 167, 4, 254, 43, 42]
def KK18 : List Nat := [29, 4, 96, 46, 42, 29, 5, 96, 46, 42, 29, 6, 96, 46, 42, 29, 7, 96, 46, 182, 0, 123, 87, 44, 42, 29, 4, 96, 46, 42, 29, 5, 96, 46, 42, 29, 6, 96, 46, 42, 29, 7, 96, 46, 182, 0, 126, 87, 167, 4, 201, 43, 42, 29, 4, 96, 46, 42, 29, 5, 96, 46, 182, 0]
def KK19 : List Nat := [127, 87, 44, 42, 29, 4, 96, 46, 42, 29, 5, 96, 46, 182, 0, 130, 87, 167, 4, 168, 43, 42, 29, 4, 96, 46, 42, 29, 5, 96, 46, 182, 0, 131, 87, 44, 42, 29, 4, 96, 46, 42, 29, 5, 96, 46, 182, 0, 134, 87, 167, 4, 135, 43, 42, 29, 4, 96, 46, 42, 29, 5, 96, 46]
def KK20 : List Nat := [182, 0, 135, 87, 44, 42, 29, 4, 96, 46, 42, 29, 5, 96, 46, 182, 0, 138, 87, 167, 4, 102, 43, 42, 29, 4, 96, 46, 182, 0, 139, 87, 44, 42, 29, 4, 96, 46, 182, 0, 142, 87, 167, 4, 79, 43, 42, 29, 4, 96, 46, 42, 29, 5, 96, 46, 182, 0, 143, 87, 44, 42, 29, 4]
def KK21 : List Nat := [96, 46, 42, 29, 5, 96, 46, 182, 0, 146, 87, 167, 4, 46, 43, 42, 29, 4, 96, 46, 42, 29, 5, 96, 46, 42, 29, 6, 96, 46, 182, 0, 147, 87, 44, 42, 29, 4, 96, 46, 42, 29, 5, 96, 46, 42, 29, 6, 96, 46, 182, 0, 150, 87, 167, 4, 3, 43, 42, 29, 4, 96, 46, 42]
def KK22 : List Nat := [29, 5, 96, 46, 42, 29, 6, 96, 46, 182, 0, 151, 87, 44, 42, 29, 4, 96, 46, 42, 29, 5, 96, 46, 42, 29, 6, 96, 46, 182, 0, 154, 87, 167, 3, 216, 43, 42, 29, 4, 96, 46, 42, 29, 5, 96, 46, 42, 29, 6, 96, 46, 182, 0, 155, 88, 44, 42, 29, 4, 96, 46, 42, 29]
def KK23 : List Nat := [5, 96, 46, 42, 29, 6, 96, 46, 182, 0, 159, 88, 167, 3, 173, 43, 42, 29, 4, 96, 46, 182, 0, 160, 88, 44, 42, 29, 4, 96, 46, 182, 0, 164, 88, 167, 3, 150, 43, 42, 29, 4, 96, 46, 42, 29, 5, 96, 46, 182, 0, 165, 87, 44, 42, 29, 4, 96, 46, 42, 29, 5, 96, 46]
def KK24 : List Nat := [182, 0, 168, 87, 167, 3, 117, 43, 42, 29, 4, 96, 46, 42, 29, 5, 96, 46, 182, 0, 169, 87, 44, 42, 29, 4, 96, 46, 42, 29, 5, 96, 46, 182, 0, 172, 87, 167, 3, 84, 43, 42, 29, 4, 96, 46, 42, 29, 5, 96, 46, 42, 29, 6, 96, 46, 182, 0, 173, 87, 44, 42, 29, 4]
def KK25 : List Nat := [96, 46, 42, 29, 5, 96, 46, 42, 29, 6, 96, 46, 182, 0, 176, 87, 167, 3, 41, 43, 42, 29, 4, 96, 46, 42, 29, 5, 96, 46, 182, 0, 177, 87, 44, 42, 29, 4, 96, 46, 42, 29, 5, 96, 46, 182, 0, 180, 87, 167, 3, 8, 43, 42, 29, 4, 96, 46, 42, 29, 5, 96, 46, 42]
def KK26 : List Nat := [29, 6, 96, 46, 182, 0, 181, 87, 44, 42, 29, 4, 96, 46, 42, 29, 5, 96, 46, 42, 29, 6, 96, 46, 182, 0, 184, 87, 167, 2, 221, 43, 42, 29, 4, 96, 46, 42, 29, 5, 96, 46, 182, 0, 185, 87, 44, 42, 29, 4, 96, 46, 42, 29, 5, 96, 46, 182, 0, 188, 87, 167, 2, 188]
def KK27 : List Nat := [43, 42, 29, 4, 96, 46, 42, 29, 5, 96, 46, 42, 29, 6, 96, 46, 182, 0, 189, 87, 44, 42, 29, 4, 96, 46, 42, 29, 5, 96, 46, 42, 29, 6, 96, 46, 182, 0, 192, 87, 167, 2, 145, 43, 42, 29, 4, 96, 46, 42, 29, 5, 96, 46, 182, 0, 193, 87, 44, 42, 29, 4, 96, 46]
def KK28 : List Nat := [42, 29, 5, 96, 46, 182, 0, 196, 87, 167, 2, 112, 43, 42, 29, 4, 96, 46, 42, 29, 5, 96, 46, 42, 29, 6, 96, 46, 182, 0, 197, 87, 44, 42, 29, 4, 96, 46, 42, 29, 5, 96, 46, 42, 29, 6, 96, 46, 182, 0, 200, 87, 167, 2, 69, 43, 42, 29, 4, 96, 46, 42, 29, 5]
def KK29 : List Nat := [96, 46, 42, 29, 6, 96, 46, 182, 0, 201, 87, 44, 42, 29, 4, 96, 46, 42, 29, 5, 96, 46, 42, 29, 6, 96, 46, 182, 0, 204, 87, 167, 2, 26, 43, 42, 29, 4, 96, 46, 42, 29, 5, 96, 46, 182, 0, 205, 87, 44, 42, 29, 4, 96, 46, 42, 29, 5, 96, 46, 182, 0, 208, 87]
def KK30 : List Nat := [167, 1, 249, 43, 42, 29, 4, 96, 46, 182, 0, 209, 87, 44, 42, 29, 4, 96, 46, 182, 0, 212, 87, 167, 1, 226, 43, 42, 29, 4, 96, 46, 182, 0, 213, 87, 44, 42, 29, 4, 96, 46, 182, 0, 216, 87, 167, 1, 203, 43, 42, 29, 4, 96, 46, 182, 0, 217, 87, 44, 42, 29, 4, 96]
def KK31 : List Nat := [46, 182, 0, 220, 87, 167, 1, 180, 43, 42, 29, 4, 96, 46, 42, 29, 5, 96, 46, 42, 29, 6, 96, 46, 182, 0, 221, 88, 44, 42, 29, 4, 96, 46, 42, 29, 5, 96, 46, 42, 29, 6, 96, 46, 182, 0, 224, 88, 167, 1, 137, 43, 42, 29, 4, 96, 46, 42, 29, 5, 96, 46, 182, 0]
def KK32 : List Nat := [225, 88, 44, 42, 29, 4, 96, 46, 42, 29, 5, 96, 46, 182, 0, 229, 88, 167, 1, 104, 43, 42, 29, 4, 96, 46, 42, 29, 5, 96, 46, 182, 0, 230, 88, 44, 42, 29, 4, 96, 46, 42, 29, 5, 96, 46, 182, 0, 233, 88, 167, 1, 71, 43, 42, 29, 4, 96, 46, 42, 29, 5, 96, 46]
def KK33 : List Nat := [182, 0, 234, 87, 44, 42, 29, 4, 96, 46, 42, 29, 5, 96, 46, 182, 0, 237, 87, 167, 1, 38, 43, 42, 29, 4, 96, 46, 42, 29, 5, 96, 46, 42, 29, 6, 96, 46, 182, 0, 238, 88, 44, 42, 29, 4, 96, 46, 42, 29, 5, 96, 46, 42, 29, 6, 96, 46, 182, 0, 241, 88, 167, 0]
def KK34 : List Nat := [251, 43, 42, 29, 4, 96, 46, 182, 0, 242, 87, 44, 42, 29, 4, 96, 46, 182, 0, 245, 87, 167, 0, 228, 43, 42, 29, 4, 96, 46, 182, 0, 246, 87, 44, 42, 29, 4, 96, 46, 182, 0, 249, 87, 167, 0, 205, 43, 42, 29, 4, 96, 46, 182, 0, 250, 87, 44, 42, 29, 4, 96, 46, 182]
def KK35 : List Nat := [0, 253, 87, 167, 0, 182, 43, 42, 29, 4, 96, 46, 42, 29, 5, 96, 46, 42, 29, 6, 96, 46, 182, 0, 254, 87, 44, 42, 29, 4, 96, 46, 42, 29, 5, 96, 46, 42, 29, 6, 96, 46, 182, 1, 1, 87, 167, 0, 139, 43, 42, 29, 4, 96, 46, 42, 29, 5, 96, 46, 42, 29, 6, 96]
def KK36 : List Nat := [46, 133, 16, 32, 121, 42, 29, 7, 96, 46, 133, 20, 1, 2, 127, 129, 182, 1, 4, 87, 44, 42, 29, 4, 96, 46, 42, 29, 5, 96, 46, 42, 29, 6, 96, 46, 133, 16, 32, 121, 42, 29, 7, 96, 46, 133, 20, 1, 2, 127, 129, 182, 1, 8, 87, 167, 0, 66, 43, 42, 29, 4, 96, 46]
def KK37 : List Nat := [42, 29, 5, 96, 46, 42, 29, 6, 96, 46, 42, 29, 7, 96, 46, 42, 29, 8, 96, 46, 182, 1, 9, 44, 42, 29, 4, 96, 46, 42, 29, 5, 96, 46, 42, 29, 6, 96, 46, 42, 29, 7, 96, 46, 42, 29, 8, 96, 46, 182, 1, 12, 159, 0, 5, 3, 172, 132, 3, 6, 167, 246, 150, 4]
def KK38 : List Nat := [172]
def RR39 : List Nat := []
def RR38 : List Nat := KK38 ++ RR39
def RR37 : List Nat := KK37 ++ RR38
def RR36 : List Nat := KK36 ++ RR37
def RR35 : List Nat := KK35 ++ RR36
def RR34 : List Nat := KK34 ++ RR35
def RR33 : List Nat := KK33 ++ RR34
def RR32 : List Nat := KK32 ++ RR33
def RR31 : List Nat := KK31 ++ RR32
def RR30 : List Nat := KK30 ++ RR31
def RR29 : List Nat := KK29 ++ RR30
def RR28 : List Nat := KK28 ++ RR29
def RR27 : List Nat := KK27 ++ RR28
def RR26 : List Nat := KK26 ++ RR27
def RR25 : List Nat := KK25 ++ RR26
def RR24 : List Nat := KK24 ++ RR25
def RR23 : List Nat := KK23 ++ RR24
def RR22 : List Nat := KK22 ++ RR23
def RR21 : List Nat := KK21 ++ RR22
def RR20 : List Nat := KK20 ++ RR21
def RR19 : List Nat := KK19 ++ RR20
def RR18 : List Nat := KK18 ++ RR19
def RR17 : List Nat := KK17 ++ RR18
def RR16 : List Nat := KK16 ++ RR17
def RR15 : List Nat := KK15 ++ RR16
def RR14 : List Nat := KK14 ++ RR15
def RR13 : List Nat := KK13 ++ RR14
def RR12 : List Nat := KK12 ++ RR13
def RR11 : List Nat := KK11 ++ RR12
def RR10 : List Nat := KK10 ++ RR11
def RR9 : List Nat := KK9 ++ RR10
def RR8 : List Nat := KK8 ++ RR9
def RR7 : List Nat := KK7 ++ RR8
def RR6 : List Nat := KK6 ++ RR7
def RR5 : List Nat := KK5 ++ RR6
def RR4 : List Nat := KK4 ++ RR5
def RR3 : List Nat := KK3 ++ RR4
def RR2 : List Nat := KK2 ++ RR3
def RR1 : List Nat := KK1 ++ RR2
def RR0 : List Nat := KK0 ++ RR1
set_option maxRecDepth 100000 in
theorem sfx_0 : (cL_law.data.toList.drop 0).map UInt8.toNat = KK0 ++ RR1 := by decide +kernel
theorem sfx_1 : (cL_law.data.toList.drop 64).map UInt8.toNat = KK1 ++ RR2 := suf_next sfx_0 rfl
theorem sfx_2 : (cL_law.data.toList.drop 128).map UInt8.toNat = KK2 ++ RR3 := suf_next sfx_1 rfl
theorem sfx_3 : (cL_law.data.toList.drop 192).map UInt8.toNat = KK3 ++ RR4 := suf_next sfx_2 rfl
theorem sfx_4 : (cL_law.data.toList.drop 256).map UInt8.toNat = KK4 ++ RR5 := suf_next sfx_3 rfl
theorem sfx_5 : (cL_law.data.toList.drop 320).map UInt8.toNat = KK5 ++ RR6 := suf_next sfx_4 rfl
theorem sfx_6 : (cL_law.data.toList.drop 384).map UInt8.toNat = KK6 ++ RR7 := suf_next sfx_5 rfl
theorem sfx_7 : (cL_law.data.toList.drop 448).map UInt8.toNat = KK7 ++ RR8 := suf_next sfx_6 rfl
theorem sfx_8 : (cL_law.data.toList.drop 512).map UInt8.toNat = KK8 ++ RR9 := suf_next sfx_7 rfl
theorem sfx_9 : (cL_law.data.toList.drop 576).map UInt8.toNat = KK9 ++ RR10 := suf_next sfx_8 rfl
theorem sfx_10 : (cL_law.data.toList.drop 640).map UInt8.toNat = KK10 ++ RR11 := suf_next sfx_9 rfl
theorem sfx_11 : (cL_law.data.toList.drop 704).map UInt8.toNat = KK11 ++ RR12 := suf_next sfx_10 rfl
theorem sfx_12 : (cL_law.data.toList.drop 768).map UInt8.toNat = KK12 ++ RR13 := suf_next sfx_11 rfl
theorem sfx_13 : (cL_law.data.toList.drop 832).map UInt8.toNat = KK13 ++ RR14 := suf_next sfx_12 rfl
theorem sfx_14 : (cL_law.data.toList.drop 896).map UInt8.toNat = KK14 ++ RR15 := suf_next sfx_13 rfl
theorem sfx_15 : (cL_law.data.toList.drop 960).map UInt8.toNat = KK15 ++ RR16 := suf_next sfx_14 rfl
theorem sfx_16 : (cL_law.data.toList.drop 1024).map UInt8.toNat = KK16 ++ RR17 := suf_next sfx_15 rfl
theorem sfx_17 : (cL_law.data.toList.drop 1088).map UInt8.toNat = KK17 ++ RR18 := suf_next sfx_16 rfl
theorem sfx_18 : (cL_law.data.toList.drop 1152).map UInt8.toNat = KK18 ++ RR19 := suf_next sfx_17 rfl
theorem sfx_19 : (cL_law.data.toList.drop 1216).map UInt8.toNat = KK19 ++ RR20 := suf_next sfx_18 rfl
theorem sfx_20 : (cL_law.data.toList.drop 1280).map UInt8.toNat = KK20 ++ RR21 := suf_next sfx_19 rfl
theorem sfx_21 : (cL_law.data.toList.drop 1344).map UInt8.toNat = KK21 ++ RR22 := suf_next sfx_20 rfl
theorem sfx_22 : (cL_law.data.toList.drop 1408).map UInt8.toNat = KK22 ++ RR23 := suf_next sfx_21 rfl
theorem sfx_23 : (cL_law.data.toList.drop 1472).map UInt8.toNat = KK23 ++ RR24 := suf_next sfx_22 rfl
theorem sfx_24 : (cL_law.data.toList.drop 1536).map UInt8.toNat = KK24 ++ RR25 := suf_next sfx_23 rfl
theorem sfx_25 : (cL_law.data.toList.drop 1600).map UInt8.toNat = KK25 ++ RR26 := suf_next sfx_24 rfl
theorem sfx_26 : (cL_law.data.toList.drop 1664).map UInt8.toNat = KK26 ++ RR27 := suf_next sfx_25 rfl
theorem sfx_27 : (cL_law.data.toList.drop 1728).map UInt8.toNat = KK27 ++ RR28 := suf_next sfx_26 rfl
theorem sfx_28 : (cL_law.data.toList.drop 1792).map UInt8.toNat = KK28 ++ RR29 := suf_next sfx_27 rfl
theorem sfx_29 : (cL_law.data.toList.drop 1856).map UInt8.toNat = KK29 ++ RR30 := suf_next sfx_28 rfl
theorem sfx_30 : (cL_law.data.toList.drop 1920).map UInt8.toNat = KK30 ++ RR31 := suf_next sfx_29 rfl
theorem sfx_31 : (cL_law.data.toList.drop 1984).map UInt8.toNat = KK31 ++ RR32 := suf_next sfx_30 rfl
theorem sfx_32 : (cL_law.data.toList.drop 2048).map UInt8.toNat = KK32 ++ RR33 := suf_next sfx_31 rfl
theorem sfx_33 : (cL_law.data.toList.drop 2112).map UInt8.toNat = KK33 ++ RR34 := suf_next sfx_32 rfl
theorem sfx_34 : (cL_law.data.toList.drop 2176).map UInt8.toNat = KK34 ++ RR35 := suf_next sfx_33 rfl
theorem sfx_35 : (cL_law.data.toList.drop 2240).map UInt8.toNat = KK35 ++ RR36 := suf_next sfx_34 rfl
theorem sfx_36 : (cL_law.data.toList.drop 2304).map UInt8.toNat = KK36 ++ RR37 := suf_next sfx_35 rfl
theorem sfx_37 : (cL_law.data.toList.drop 2368).map UInt8.toNat = KK37 ++ RR38 := suf_next sfx_36 rfl
theorem sfx_38 : (cL_law.data.toList.drop 2432).map UInt8.toNat = KK38 ++ RR39 := suf_next sfx_37 rfl
