theorem dX10_holds_0 : decode cX10_holds 0 = .ok (.aload_n 0, 1) := by decide +kernel
theorem dX10_holds_1 : decode cX10_holds 1 = .ok (.getfield 9, 3) := by decide +kernel
theorem dX10_holds_4 : decode cX10_holds 4 = .ok (.bipush 15, 2) := by decide +kernel
theorem dX10_holds_6 : decode cX10_holds 6 = .ok (.iconst 3, 1) := by decide +kernel
theorem dX10_holds_7 : decode cX10_holds 7 = .ok (.iload_n 1, 1) := by decide +kernel
theorem dX10_holds_8 : decode cX10_holds 8 = .ok (.imul, 1) := by decide +kernel
theorem dX10_holds_9 : decode cX10_holds 9 = .ok (.iadd, 1) := by decide +kernel
theorem dX10_holds_10 : decode cX10_holds 10 = .ok (.iconst 1, 1) := by decide +kernel
theorem dX10_holds_11 : decode cX10_holds 11 = .ok (.iadd, 1) := by decide +kernel
theorem dX10_holds_12 : decode cX10_holds 12 = .ok (.iaload, 1) := by decide +kernel
theorem dX10_holds_13 : decode cX10_holds 13 = .ok (.istore_n 3, 1) := by decide +kernel
theorem dX10_holds_14 : decode cX10_holds 14 = .ok (.aload_n 0, 1) := by decide +kernel
theorem dX10_holds_15 : decode cX10_holds 15 = .ok (.getfield 9, 3) := by decide +kernel
theorem dX10_holds_18 : decode cX10_holds 18 = .ok (.bipush 15, 2) := by decide +kernel
theorem dX10_holds_20 : decode cX10_holds 20 = .ok (.iconst 3, 1) := by decide +kernel
theorem dX10_holds_21 : decode cX10_holds 21 = .ok (.iload_n 1, 1) := by decide +kernel
theorem dX10_holds_22 : decode cX10_holds 22 = .ok (.imul, 1) := by decide +kernel
theorem dX10_holds_23 : decode cX10_holds 23 = .ok (.iadd, 1) := by decide +kernel
theorem dX10_holds_24 : decode cX10_holds 24 = .ok (.iconst 2, 1) := by decide +kernel
theorem dX10_holds_25 : decode cX10_holds 25 = .ok (.iadd, 1) := by decide +kernel
theorem dX10_holds_26 : decode cX10_holds 26 = .ok (.iaload, 1) := by decide +kernel
theorem dX10_holds_27 : decode cX10_holds 27 = .ok (.istore 4, 2) := by decide +kernel
theorem dX10_holds_29 : decode cX10_holds 29 = .ok (.aload_n 0, 1) := by decide +kernel
theorem dX10_holds_30 : decode cX10_holds 30 = .ok (.getfield 9, 3) := by decide +kernel
theorem dX10_holds_33 : decode cX10_holds 33 = .ok (.bipush 15, 2) := by decide +kernel
theorem dX10_holds_35 : decode cX10_holds 35 = .ok (.iconst 3, 1) := by decide +kernel
theorem dX10_holds_36 : decode cX10_holds 36 = .ok (.iload_n 1, 1) := by decide +kernel
theorem dX10_holds_37 : decode cX10_holds 37 = .ok (.imul, 1) := by decide +kernel
theorem dX10_holds_38 : decode cX10_holds 38 = .ok (.iadd, 1) := by decide +kernel
theorem dX10_holds_39 : decode cX10_holds 39 = .ok (.iaload, 1) := by decide +kernel
theorem dX10_holds_40 : decode cX10_holds 40 = .ok (.tableswitch 195 0 7 #[48, 73, 105, 110, 129, 141, 159, 180], 48) := by decide +kernel
theorem dX10_holds_88 : decode cX10_holds 88 = .ok (.aload_n 0, 1) := by decide +kernel
theorem dX10_holds_89 : decode cX10_holds 89 = .ok (.aload_n 0, 1) := by decide +kernel
theorem dX10_holds_90 : decode cX10_holds 90 = .ok (.invokevirtual 274, 3) := by decide +kernel
theorem dX10_holds_93 : decode cX10_holds 93 = .ok (.invokevirtual 280, 3) := by decide +kernel
theorem dX10_holds_96 : decode cX10_holds 96 = .ok (.aload_n 0, 1) := by decide +kernel
theorem dX10_holds_97 : decode cX10_holds 97 = .ok (.aload_n 0, 1) := by decide +kernel
theorem dX10_holds_98 : decode cX10_holds 98 = .ok (.invokevirtual 283, 3) := by decide +kernel
theorem dX10_holds_101 : decode cX10_holds 101 = .ok (.invokevirtual 280, 3) := by decide +kernel
theorem dX10_holds_104 : decode cX10_holds 104 = .ok (.if_icmp .ne 7, 3) := by decide +kernel
theorem dX10_holds_107 : decode cX10_holds 107 = .ok (.iconst 1, 1) := by decide +kernel
theorem dX10_holds_108 : decode cX10_holds 108 = .ok (.goto 4, 3) := by decide +kernel
theorem dX10_holds_111 : decode cX10_holds 111 = .ok (.iconst 0, 1) := by decide +kernel
theorem dX10_holds_112 : decode cX10_holds 112 = .ok (.ireturn, 1) := by decide +kernel
theorem dX10_holds_113 : decode cX10_holds 113 = .ok (.aload_n 0, 1) := by decide +kernel
theorem dX10_holds_114 : decode cX10_holds 114 = .ok (.aload_n 0, 1) := by decide +kernel
theorem dX10_holds_115 : decode cX10_holds 115 = .ok (.invokevirtual 286, 3) := by decide +kernel
theorem dX10_holds_118 : decode cX10_holds 118 = .ok (.invokevirtual 280, 3) := by decide +kernel
theorem dX10_holds_121 : decode cX10_holds 121 = .ok (.aload_n 0, 1) := by decide +kernel
theorem dX10_holds_122 : decode cX10_holds 122 = .ok (.aload_n 0, 1) := by decide +kernel
theorem dX10_holds_123 : decode cX10_holds 123 = .ok (.invokevirtual 277, 3) := by decide +kernel
theorem dX10_holds_126 : decode cX10_holds 126 = .ok (.aload_n 0, 1) := by decide +kernel
theorem dX10_holds_127 : decode cX10_holds 127 = .ok (.invokevirtual 286, 3) := by decide +kernel
theorem dX10_holds_130 : decode cX10_holds 130 = .ok (.iconst (-1), 1) := by decide +kernel
theorem dX10_holds_131 : decode cX10_holds 131 = .ok (.ixor, 1) := by decide +kernel
theorem dX10_holds_132 : decode cX10_holds 132 = .ok (.iand, 1) := by decide +kernel
theorem dX10_holds_133 : decode cX10_holds 133 = .ok (.invokevirtual 280, 3) := by decide +kernel
theorem dX10_holds_136 : decode cX10_holds 136 = .ok (.if_icmp .ne 7, 3) := by decide +kernel
theorem dX10_holds_139 : decode cX10_holds 139 = .ok (.iconst 1, 1) := by decide +kernel
theorem dX10_holds_140 : decode cX10_holds 140 = .ok (.goto 4, 3) := by decide +kernel
theorem dX10_holds_143 : decode cX10_holds 143 = .ok (.iconst 0, 1) := by decide +kernel
theorem dX10_holds_144 : decode cX10_holds 144 = .ok (.ireturn, 1) := by decide +kernel
theorem dX10_holds_145 : decode cX10_holds 145 = .ok (.aload_n 0, 1) := by decide +kernel
theorem dX10_holds_146 : decode cX10_holds 146 = .ok (.invokevirtual 289, 3) := by decide +kernel
theorem dX10_holds_149 : decode cX10_holds 149 = .ok (.ireturn, 1) := by decide +kernel
theorem dX10_holds_150 : decode cX10_holds 150 = .ok (.aload_n 0, 1) := by decide +kernel
theorem dX10_holds_151 : decode cX10_holds 151 = .ok (.invokevirtual 292, 3) := by decide +kernel
theorem dX10_holds_154 : decode cX10_holds 154 = .ok (.aload_n 0, 1) := by decide +kernel
theorem dX10_holds_155 : decode cX10_holds 155 = .ok (.getfield 9, 3) := by decide +kernel
theorem dX10_holds_158 : decode cX10_holds 158 = .ok (.iconst 0, 1) := by decide +kernel
theorem dX10_holds_159 : decode cX10_holds 159 = .ok (.iaload, 1) := by decide +kernel
theorem dX10_holds_160 : decode cX10_holds 160 = .ok (.if_icmp .ne 7, 3) := by decide +kernel
theorem dX10_holds_163 : decode cX10_holds 163 = .ok (.iconst 1, 1) := by decide +kernel
theorem dX10_holds_164 : decode cX10_holds 164 = .ok (.goto 4, 3) := by decide +kernel
theorem dX10_holds_167 : decode cX10_holds 167 = .ok (.iconst 0, 1) := by decide +kernel
theorem dX10_holds_168 : decode cX10_holds 168 = .ok (.ireturn, 1) := by decide +kernel
theorem dX10_holds_169 : decode cX10_holds 169 = .ok (.aload_n 0, 1) := by decide +kernel
theorem dX10_holds_170 : decode cX10_holds 170 = .ok (.aload_n 0, 1) := by decide +kernel
theorem dX10_holds_171 : decode cX10_holds 171 = .ok (.invokevirtual 277, 3) := by decide +kernel
theorem dX10_holds_174 : decode cX10_holds 174 = .ok (.invokevirtual 280, 3) := by decide +kernel
theorem dX10_holds_177 : decode cX10_holds 177 = .ok (.invokestatic 295, 3) := by decide +kernel
theorem dX10_holds_180 : decode cX10_holds 180 = .ok (.ireturn, 1) := by decide +kernel
theorem dX10_holds_181 : decode cX10_holds 181 = .ok (.aload_n 0, 1) := by decide +kernel
theorem dX10_holds_182 : decode cX10_holds 182 = .ok (.aload_n 0, 1) := by decide +kernel
theorem dX10_holds_183 : decode cX10_holds 183 = .ok (.invokevirtual 277, 3) := by decide +kernel
theorem dX10_holds_186 : decode cX10_holds 186 = .ok (.invokevirtual 280, 3) := by decide +kernel
theorem dX10_holds_189 : decode cX10_holds 189 = .ok (.iload_n 3, 1) := by decide +kernel
theorem dX10_holds_190 : decode cX10_holds 190 = .ok (.if_icmp .ne 7, 3) := by decide +kernel
theorem dX10_holds_193 : decode cX10_holds 193 = .ok (.iconst 1, 1) := by decide +kernel
theorem dX10_holds_194 : decode cX10_holds 194 = .ok (.goto 4, 3) := by decide +kernel
theorem dX10_holds_197 : decode cX10_holds 197 = .ok (.iconst 0, 1) := by decide +kernel
theorem dX10_holds_198 : decode cX10_holds 198 = .ok (.ireturn, 1) := by decide +kernel
theorem dX10_holds_199 : decode cX10_holds 199 = .ok (.aload_n 0, 1) := by decide +kernel
theorem dX10_holds_200 : decode cX10_holds 200 = .ok (.aload_n 0, 1) := by decide +kernel
theorem dX10_holds_201 : decode cX10_holds 201 = .ok (.invokevirtual 277, 3) := by decide +kernel
theorem dX10_holds_204 : decode cX10_holds 204 = .ok (.invokevirtual 280, 3) := by decide +kernel
theorem dX10_holds_207 : decode cX10_holds 207 = .ok (.iload 4, 2) := by decide +kernel
theorem dX10_holds_209 : decode cX10_holds 209 = .ok (.irem, 1) := by decide +kernel
theorem dX10_holds_210 : decode cX10_holds 210 = .ok (.iload_n 3, 1) := by decide +kernel
theorem dX10_holds_211 : decode cX10_holds 211 = .ok (.if_icmp .ne 7, 3) := by decide +kernel
theorem dX10_holds_214 : decode cX10_holds 214 = .ok (.iconst 1, 1) := by decide +kernel
theorem dX10_holds_215 : decode cX10_holds 215 = .ok (.goto 4, 3) := by decide +kernel
theorem dX10_holds_218 : decode cX10_holds 218 = .ok (.iconst 0, 1) := by decide +kernel
theorem dX10_holds_219 : decode cX10_holds 219 = .ok (.ireturn, 1) := by decide +kernel
theorem dX10_holds_220 : decode cX10_holds 220 = .ok (.iload_n 2, 1) := by decide +kernel
theorem dX10_holds_221 : decode cX10_holds 221 = .ok (.iload_n 3, 1) := by decide +kernel
theorem dX10_holds_222 : decode cX10_holds 222 = .ok (.ishr, 1) := by decide +kernel
theorem dX10_holds_223 : decode cX10_holds 223 = .ok (.iconst 1, 1) := by decide +kernel
theorem dX10_holds_224 : decode cX10_holds 224 = .ok (.iand, 1) := by decide +kernel
theorem dX10_holds_225 : decode cX10_holds 225 = .ok (.iconst 1, 1) := by decide +kernel
theorem dX10_holds_226 : decode cX10_holds 226 = .ok (.if_icmp .ne 7, 3) := by decide +kernel
theorem dX10_holds_229 : decode cX10_holds 229 = .ok (.iconst 1, 1) := by decide +kernel
theorem dX10_holds_230 : decode cX10_holds 230 = .ok (.goto 4, 3) := by decide +kernel
theorem dX10_holds_233 : decode cX10_holds 233 = .ok (.iconst 0, 1) := by decide +kernel
theorem dX10_holds_234 : decode cX10_holds 234 = .ok (.ireturn, 1) := by decide +kernel
theorem dX10_holds_235 : decode cX10_holds 235 = .ok (.aload_n 0, 1) := by decide +kernel
theorem dX10_holds_236 : decode cX10_holds 236 = .ok (.iload_n 3, 1) := by decide +kernel
theorem dX10_holds_237 : decode cX10_holds 237 = .ok (.invokevirtual 280, 3) := by decide +kernel
theorem dX10_holds_240 : decode cX10_holds 240 = .ok (.aload_n 0, 1) := by decide +kernel
theorem dX10_holds_241 : decode cX10_holds 241 = .ok (.iload 4, 2) := by decide +kernel
theorem dX10_holds_243 : decode cX10_holds 243 = .ok (.invokevirtual 280, 3) := by decide +kernel
theorem dX10_holds_246 : decode cX10_holds 246 = .ok (.if_icmp .ne 7, 3) := by decide +kernel
theorem dX10_holds_249 : decode cX10_holds 249 = .ok (.iconst 1, 1) := by decide +kernel
theorem dX10_holds_250 : decode cX10_holds 250 = .ok (.goto 4, 3) := by decide +kernel
theorem dX10_holds_253 : decode cX10_holds 253 = .ok (.iconst 0, 1) := by decide +kernel
theorem dX10_holds_254 : decode cX10_holds 254 = .ok (.ireturn, 1) := by decide +kernel
theorem hd_yX10_holds : yX10_holds.cls = RX10 ∧ yX10_holds.cls ≠ "java/lang/invoke/MethodHandle" ∧ yX10_holds.cls ≠ "java/lang/invoke/VarHandle" ∧ (parseMethodDescriptor yX10_holds.desc).map (fun d => d.parameters.length) = some 2 := by decide +kernel
def uX10_holds : List Cond := List.cons (.code yX10_holds cX10_holds 5 (some .boolean)) (HAppend.hAppend ([.fieldLink RX10 9 "LuckyTicketModel" "world" "[I", .methodLink RX10 280 yX10_sumOf, .instanceMethod yX10_sumOf, .selects RX10 yX10_sumOf yX10_sumOf, .initialized RX10, .methodLink RX10 274 yX10_firstHalf, .instanceMethod yX10_firstHalf, .selects RX10 yX10_firstHalf yX10_firstHalf, .methodLink RX10 283 yX10_lastHalf, .instanceMethod yX10_lastHalf, .selects RX10 yX10_lastHalf yX10_lastHalf, .methodLink RX10 286 yX10_evens, .instanceMethod yX10_evens, .selects RX10 yX10_evens yX10_evens, .methodLink RX10 277 yX10_all, .instanceMethod yX10_all, .selects RX10 yX10_all yX10_all, .methodLink RX10 289 yX10_isMirror, .instanceMethod yX10_isMirror, .selects RX10 yX10_isMirror yX10_isMirror, .methodLink RX10 292 yX10_unlikeMany, .instanceMethod yX10_unlikeMany, .selects RX10 yX10_unlikeMany yX10_unlikeMany, .methodLink RX10 295 yX10_isSquare, .static yX10_isSquare] : List Cond) (HAppend.hAppend uX10_sumOf (HAppend.hAppend uX10_firstHalf (HAppend.hAppend uX10_lastHalf (HAppend.hAppend uX10_evens (HAppend.hAppend uX10_all (HAppend.hAppend uX10_isMirror (HAppend.hAppend uX10_unlikeMany (HAppend.hAppend uX10_isSquare wsX100)))))))))
theorem iX10_holds_X10 : ∀ w ∈ wsX100, w ∈ uX10_holds := fun _ h => (List.mem_cons_of_mem _ (List.mem_append_right _ (List.mem_append_right _ (List.mem_append_right _ (List.mem_append_right _ (List.mem_append_right _ (List.mem_append_right _ (List.mem_append_right _ (List.mem_append_right _ (List.mem_append_right _ h))))))))))
theorem guX10_holds : GU uX10_holds := gu_cons (gu_app (by decide +kernel) (gu_ap guX10_sumOf (gu_ap guX10_firstHalf (gu_ap guX10_lastHalf (gu_ap guX10_evens (gu_ap guX10_all (gu_ap guX10_isMirror (gu_ap guX10_unlikeMany (gu_ap guX10_isSquare gws_X10)))))))))
theorem gX10_holds__X10_sumOf_V280 : GoodIn uX10_holds (wsV RX10 280 RX10 yX10_sumOf uX10_sumOf) := gin_V (List.mem_of_getElem? (i := 2) rfl) (List.mem_of_getElem? (i := 3) rfl) (List.mem_of_getElem? (i := 4) rfl) (List.mem_of_getElem? (i := 5) rfl) (fun _ h => (List.mem_cons_of_mem _ (List.mem_append_right _ (List.mem_append_left _ h)))) guX10_sumOf
theorem gX10_holds__X10_firstHalf_V274 : GoodIn uX10_holds (wsV RX10 274 RX10 yX10_firstHalf uX10_firstHalf) := gin_V (List.mem_of_getElem? (i := 6) rfl) (List.mem_of_getElem? (i := 7) rfl) (List.mem_of_getElem? (i := 8) rfl) (List.mem_of_getElem? (i := 5) rfl) (fun _ h => (List.mem_cons_of_mem _ (List.mem_append_right _ (List.mem_append_right _ (List.mem_append_left _ h))))) guX10_firstHalf
theorem gX10_holds__X10_lastHalf_V283 : GoodIn uX10_holds (wsV RX10 283 RX10 yX10_lastHalf uX10_lastHalf) := gin_V (List.mem_of_getElem? (i := 9) rfl) (List.mem_of_getElem? (i := 10) rfl) (List.mem_of_getElem? (i := 11) rfl) (List.mem_of_getElem? (i := 5) rfl) (fun _ h => (List.mem_cons_of_mem _ (List.mem_append_right _ (List.mem_append_right _ (List.mem_append_right _ (List.mem_append_left _ h)))))) guX10_lastHalf
theorem gX10_holds__X10_evens_V286 : GoodIn uX10_holds (wsV RX10 286 RX10 yX10_evens uX10_evens) := gin_V (List.mem_of_getElem? (i := 12) rfl) (List.mem_of_getElem? (i := 13) rfl) (List.mem_of_getElem? (i := 14) rfl) (List.mem_of_getElem? (i := 5) rfl) (fun _ h => (List.mem_cons_of_mem _ (List.mem_append_right _ (List.mem_append_right _ (List.mem_append_right _ (List.mem_append_right _ (List.mem_append_left _ h))))))) guX10_evens
theorem gX10_holds__X10_all_V277 : GoodIn uX10_holds (wsV RX10 277 RX10 yX10_all uX10_all) := gin_V (List.mem_of_getElem? (i := 15) rfl) (List.mem_of_getElem? (i := 16) rfl) (List.mem_of_getElem? (i := 17) rfl) (List.mem_of_getElem? (i := 5) rfl) (fun _ h => (List.mem_cons_of_mem _ (List.mem_append_right _ (List.mem_append_right _ (List.mem_append_right _ (List.mem_append_right _ (List.mem_append_right _ (List.mem_append_left _ h)))))))) guX10_all
theorem gX10_holds__X10_isMirror_V289 : GoodIn uX10_holds (wsV RX10 289 RX10 yX10_isMirror uX10_isMirror) := gin_V (List.mem_of_getElem? (i := 18) rfl) (List.mem_of_getElem? (i := 19) rfl) (List.mem_of_getElem? (i := 20) rfl) (List.mem_of_getElem? (i := 5) rfl) (fun _ h => (List.mem_cons_of_mem _ (List.mem_append_right _ (List.mem_append_right _ (List.mem_append_right _ (List.mem_append_right _ (List.mem_append_right _ (List.mem_append_right _ (List.mem_append_left _ h))))))))) guX10_isMirror
theorem gX10_holds__X10_unlikeMany_V292 : GoodIn uX10_holds (wsV RX10 292 RX10 yX10_unlikeMany uX10_unlikeMany) := gin_V (List.mem_of_getElem? (i := 21) rfl) (List.mem_of_getElem? (i := 22) rfl) (List.mem_of_getElem? (i := 23) rfl) (List.mem_of_getElem? (i := 5) rfl) (fun _ h => (List.mem_cons_of_mem _ (List.mem_append_right _ (List.mem_append_right _ (List.mem_append_right _ (List.mem_append_right _ (List.mem_append_right _ (List.mem_append_right _ (List.mem_append_right _ (List.mem_append_left _ h)))))))))) guX10_unlikeMany
theorem gX10_holds__X10_isSquare_S295 : GoodIn uX10_holds (va_wsS RX10 295 yX10_isSquare uX10_isSquare) := gin_S (List.mem_of_getElem? (i := 24) rfl) (List.mem_of_getElem? (i := 25) rfl) (List.mem_of_getElem? (i := 5) rfl) (fun _ h => (List.mem_cons_of_mem _ (List.mem_append_right _ (List.mem_append_right _ (List.mem_append_right _ (List.mem_append_right _ (List.mem_append_right _ (List.mem_append_right _ (List.mem_append_right _ (List.mem_append_right _ (List.mem_append_left _ h))))))))))) guX10_isSquare
set_option maxHeartbeats 4000000 in
set_option maxRecDepth 100000 in
theorem kX10_holds (l : Launch) (dC : Nat → ClassId) (dI : Nat → Nat → Nat) (o0 : Nat) (x_th : Int32) (mwo : Nat) (mim : Nat) (mhi : Nat) (mlu : Nat) (mtp : Nat) (x_td : Int32) (mfv : Nat) (x_sz : Int32) (x_at : Int32) (x_fr : Int32) (x_to : Int32) (x_va : Int32) (x_fk : Int32) (x_fp : Int32) (mfr : Nat) (mwt : Nat) (x_wt : Int32) (x_op : Int32) (x_jo : Int32) (mfg : Nat) (mpl : Nat) (x_dr : Int64) (mtm : Nat) (mfa : Nat) (mqu : Nat) (mmo : Nat) (mwy : Nat) (mwn : Nat) (mma : Nat) (mwi : Nat) (mnu : Nat) (mmv : Nat) (c_wo : ClassId) (c_fg : ClassId) (w_wo : Nat → Int32) (w_fg : Nat → Int32) (ln : Int32) (bs : Int32) (tk : Int32) (lw : Int32) (li : Int32) (a1 : Int32) (a2 : Int32) (b_ln : (0 : Int) ≤ ln.toInt ∧ ln.toInt ≤ 12) (b_bs : (0 : Int) ≤ bs.toInt ∧ bs.toInt ≤ 16) (b_tk : (0 : Int) ≤ tk.toInt ∧ tk.toInt ≤ 20000) (b_lw : (0 : Int) ≤ lw.toInt ∧ lw.toInt ≤ 9) (b_a1 : (0 : Int) ≤ a1.toInt ∧ a1.toInt ≤ 619) (ha_mfg : rg w_fg 12 0 15) (hw0 : w_wo 0 = ln) (hw1 : w_wo 1 = bs) (hw2 : w_wo 2 = tk) (hw3 : w_wo 3 = lw) (hw4 : w_wo 4 = li) (hwz : (ln.toInt = 0 ∧ bs.toInt = 0 ∧ tk.toInt = 0 ∧ lw.toInt = 0) ∨ (1 ≤ ln.toInt ∧ 2 ≤ bs.toInt ∧ 1 ≤ tk.toInt)) (hrs : rst w_wo a1) : Met l yX10_holds uX10_holds ({ frames := 2, cells := 0, slots := 0, locals := 40 }) (va_Pc [.ref o0, .int a1, .int a2] (pw (dC, dI) vwCl [(o0, .inr (8, [.int x_th, .ref mwo, .ref mim, .ref mhi, .ref mlu, .ref mtp, .int x_td, .ref mfv, .int x_sz, .int x_at, .int x_fr, .int x_to, .int x_va, .int x_fk, .int x_fp, .ref mfr, .ref mwt, .int x_wt, .int x_op, .int x_jo, .ref mfg, .ref mpl, .long x_dr, .ref mtm, .ref mfa, .ref mqu, .ref mmo, .ref mwy, .ref mwn, .ref mma, .ref mwi, .ref mnu, .ref mmv])), (mwo, .inl (c_wo, 1875, .inl w_wo)), (mfg, .inl (c_fg, 12, .inl w_fg))] [(c_wo, .int), (c_fg, .int)])) (vp_Si (fun r => ((0 : Int) ≤ r.toInt ∧ r.toInt ≤ 1))) 0 0 (fun _ => False) := by
  refine Met.ofW (cc := cX10_holds) (maxL := 5) (ret := (some .boolean)) pn_X10 rfl ?_
  intro p e s m args below meth c s₁ B hml hv
  obtain ⟨rfl, hP, hK, hN⟩ := hv
  have hx := B.exec
  have hb := B.bytes
  have hr := B.returns
  have hts := atoms_spec (ws := uX10_holds) B.pre
  have hown : s.vm.findClass RX10 = some m.cls := hown_of B.named rfl
  have hlocks := B.notSynchronized
  have hl := lv_entry ([.ref o0, .int a1, .int a2]) (n := 5) (Nat.le_of_ble_eq_true rfl)
  rw [lg_entry_eq]
  generalize (lg_sl ([.ref o0, .int a1, .int a2]) ++ List.replicate (5 - (lg_sl ([.ref o0, .int a1, .int a2])).length) Slot.unset).toArray = ls at hl ⊢
  have hl : lv_has ls 5 [(0, .ref o0), (1, .int a1), (2, .int a2)] := hl
  refine lv_aload_n hx hb dX10_holds_0 rfl (lv_at hl 0 rfl) ?_
  refine va_get (D := (dC, dI)) (ci := 8) (v := .ref mwo) (C := RX10) (T := TX10) (N := 33) hx hb hts iX10_holds_X10 hown hK hP 0 rfl rfl 1 (by decide) (hts (.fieldLink RX10 9 "LuckyTicketModel" "world" "[I") (List.mem_of_getElem? (i := 1) rfl)) (fun _ h9 => h9) rfl dX10_holds_1 ?_
  refine lv_bipush (v := 15) hx hb dX10_holds_4 (by decide) ?_
  refine lv_iconst (v := 3) hx hb dX10_holds_6 (by decide) ?_
  refine lv_iload_n hx hb dX10_holds_7 rfl (lv_at hl 1 rfl) ?_
  refine lv_imul hx hb dX10_holds_8 ?_
  refine lv_topi (fun z_46 e_z_46 => ?_)
  obtain ⟨q_z_46, b_z_46⟩ := ti_mul (lo := 0) (hi := 1857) e_z_46 (by decide : (3 : Int32).toInt = 3) rfl (by decide : (3 : Int) ≤ (3 : Int32).toInt ∧ (3 : Int32).toInt ≤ 3) b_a1 (by decide)
  refine lv_iadd hx hb dX10_holds_9 ?_
  refine lv_topi (fun z_47 e_z_47 => ?_)
  obtain ⟨q_z_47, b_z_47⟩ := ti_add (lo := 15) (hi := 1872) e_z_47 (by decide : (15 : Int32).toInt = 15) rfl (by decide : (15 : Int) ≤ (15 : Int32).toInt ∧ (15 : Int32).toInt ≤ 15) b_z_46 (by decide)
  refine lv_iconst (v := 1) hx hb dX10_holds_10 (by decide) ?_
  refine lv_iadd hx hb dX10_holds_11 ?_
  refine lv_topi (fun z_48 e_z_48 => ?_)
  obtain ⟨q_z_48, b_z_48⟩ := ti_add (lo := 16) (hi := 1873) e_z_48 rfl (by decide : (1 : Int32).toInt = 1) b_z_47 (by decide : (1 : Int) ≤ (1 : Int32).toInt ∧ (1 : Int32).toInt ≤ 1) (by decide)
  refine va_iald hx hb hK hP 1 0 rfl rfl (vp_in_b b_z_48 (by decide) (by decide)) dX10_holds_12 ?_
  refine lv_topi (fun z_49 e_z_49 => ?_)
  have ei_z_49 : (z_48 : Int32).toNatClampNeg = 15 + 3 * a1.toInt.toNat + 1 := by show (z_48 : Int32).toInt.toNat = _; omega
  rw [ei_z_49] at e_z_49
  have qe_z_49 : z_49.toInt = (w_wo (15 + 3 * a1.toInt.toNat + 1)).toInt := congrArg Int32.toInt e_z_49
  refine lv_istore_n (lv' := [(3, .int z_49), (0, .ref o0), (1, .int a1), (2, .int a2)]) hx hb dX10_holds_13 rfl hl (by decide) rfl (fun ls hl => ?_)
  refine lv_aload_n hx hb dX10_holds_14 rfl (lv_at hl 1 rfl) ?_
  refine va_get (D := (dC, dI)) (ci := 8) (v := .ref mwo) (C := RX10) (T := TX10) (N := 33) hx hb hts iX10_holds_X10 hown hK hP 0 rfl rfl 1 (by decide) (hts (.fieldLink RX10 9 "LuckyTicketModel" "world" "[I") (List.mem_of_getElem? (i := 1) rfl)) (fun _ h9 => h9) rfl dX10_holds_15 ?_
  refine lv_bipush (v := 15) hx hb dX10_holds_18 (by decide) ?_
  refine lv_iconst (v := 3) hx hb dX10_holds_20 (by decide) ?_
  refine lv_iload_n hx hb dX10_holds_21 rfl (lv_at hl 2 rfl) ?_
  refine lv_imul hx hb dX10_holds_22 ?_
  refine lv_topi (fun z_50 e_z_50 => ?_)
  obtain ⟨q_z_50, b_z_50⟩ := ti_mul (lo := 0) (hi := 1857) e_z_50 (by decide : (3 : Int32).toInt = 3) rfl (by decide : (3 : Int) ≤ (3 : Int32).toInt ∧ (3 : Int32).toInt ≤ 3) b_a1 (by decide)
  refine lv_iadd hx hb dX10_holds_23 ?_
  refine lv_topi (fun z_51 e_z_51 => ?_)
  obtain ⟨q_z_51, b_z_51⟩ := ti_add (lo := 15) (hi := 1872) e_z_51 (by decide : (15 : Int32).toInt = 15) rfl (by decide : (15 : Int) ≤ (15 : Int32).toInt ∧ (15 : Int32).toInt ≤ 15) b_z_50 (by decide)
  refine lv_iconst (v := 2) hx hb dX10_holds_24 (by decide) ?_
  refine lv_iadd hx hb dX10_holds_25 ?_
  refine lv_topi (fun z_52 e_z_52 => ?_)
  obtain ⟨q_z_52, b_z_52⟩ := ti_add (lo := 17) (hi := 1874) e_z_52 rfl (by decide : (2 : Int32).toInt = 2) b_z_51 (by decide : (2 : Int) ≤ (2 : Int32).toInt ∧ (2 : Int32).toInt ≤ 2) (by decide)
  refine va_iald hx hb hK hP 1 0 rfl rfl (vp_in_b b_z_52 (by decide) (by decide)) dX10_holds_26 ?_
  refine lv_topi (fun z_53 e_z_53 => ?_)
  have ei_z_53 : (z_52 : Int32).toNatClampNeg = 15 + 3 * a1.toInt.toNat + 2 := by show (z_52 : Int32).toInt.toNat = _; omega
  rw [ei_z_53] at e_z_53
  have qe_z_53 : z_53.toInt = (w_wo (15 + 3 * a1.toInt.toNat + 2)).toInt := congrArg Int32.toInt e_z_53
  refine lv_istore (lv' := [(4, .int z_53), (3, .int z_49), (0, .ref o0), (1, .int a1), (2, .int a2)]) hx hb dX10_holds_27 hl (by decide) rfl (fun ls hl => ?_)
  refine lv_aload_n hx hb dX10_holds_29 rfl (lv_at hl 2 rfl) ?_
  refine va_get (D := (dC, dI)) (ci := 8) (v := .ref mwo) (C := RX10) (T := TX10) (N := 33) hx hb hts iX10_holds_X10 hown hK hP 0 rfl rfl 1 (by decide) (hts (.fieldLink RX10 9 "LuckyTicketModel" "world" "[I") (List.mem_of_getElem? (i := 1) rfl)) (fun _ h9 => h9) rfl dX10_holds_30 ?_
  refine lv_bipush (v := 15) hx hb dX10_holds_33 (by decide) ?_
  refine lv_iconst (v := 3) hx hb dX10_holds_35 (by decide) ?_
  refine lv_iload_n hx hb dX10_holds_36 rfl (lv_at hl 3 rfl) ?_
  refine lv_imul hx hb dX10_holds_37 ?_
  refine lv_topi (fun z_54 e_z_54 => ?_)
  obtain ⟨q_z_54, b_z_54⟩ := ti_mul (lo := 0) (hi := 1857) e_z_54 (by decide : (3 : Int32).toInt = 3) rfl (by decide : (3 : Int) ≤ (3 : Int32).toInt ∧ (3 : Int32).toInt ≤ 3) b_a1 (by decide)
  refine lv_iadd hx hb dX10_holds_38 ?_
  refine lv_topi (fun z_55 e_z_55 => ?_)
  obtain ⟨q_z_55, b_z_55⟩ := ti_add (lo := 15) (hi := 1872) e_z_55 (by decide : (15 : Int32).toInt = 15) rfl (by decide : (15 : Int) ≤ (15 : Int32).toInt ∧ (15 : Int32).toInt ≤ 15) b_z_54 (by decide)
  refine va_iald hx hb hK hP 1 0 rfl rfl (vp_in_b b_z_55 (by decide) (by decide)) dX10_holds_39 ?_
  refine lv_topi (fun z_56 e_z_56 => ?_)
  have ei_z_56 : (z_55 : Int32).toNatClampNeg = 15 + 3 * a1.toInt.toNat := by show (z_55 : Int32).toInt.toNat = _; omega
  rw [ei_z_56] at e_z_56
  have qe_z_56 : z_56.toInt = (w_wo (15 + 3 * a1.toInt.toNat)).toInt := congrArg Int32.toInt e_z_56
  have hrb : z_56.toInt = 6 → 1 ≤ z_53.toInt := by rw [e_z_56, e_z_53]; exact hrs
  rcases (show (z_56.toInt < 0 ∨ 7 < z_56.toInt) ∨ z_56.toInt = 0 ∨ z_56.toInt = 1 ∨ z_56.toInt = 2 ∨ z_56.toInt = 3 ∨ z_56.toInt = 4 ∨ z_56.toInt = 5 ∨ z_56.toInt = 6 ∨ z_56.toInt = 7 by omega) with c_57 | c_57 | c_57 | c_57 | c_57 | c_57 | c_57 | c_57 | c_57
  ·
    refine lv_tableOut (tgt := 235) hx hb dX10_holds_40 c_57 (by decide) ?_
    refine lv_aload_n hx hb dX10_holds_235 rfl (lv_at hl 2 rfl) ?_
    refine lv_iload_n hx hb dX10_holds_236 rfl (lv_at hl 1 rfl) ?_
    refine vp_callSi (W.runV (As := [.int z_49]) (rest := []) ⟨hx, hb, hml, hown, hts⟩ (kX10_sumOf l dC dI o0 x_th mwo mim mhi mlu mtp x_td mfv x_sz x_at x_fr x_to x_va x_fk x_fp mfr mwt x_wt x_op x_jo mfg mpl x_dr mtm mfa mqu mmo mwy mwn mma mwi mnu mmv c_wo c_fg w_wo w_fg ln bs tk lw li z_49 b_ln b_bs b_tk b_lw ha_mfg (hw0) (hw1) (hw2) (hw3) (hw4) (hwz)) (cwV 1 hts gX10_holds__X10_sumOf_V280 rfl rfl rfl hd_yX10_sumOf ⟨lel 1 2 rfl, lel 23 40 rfl⟩) ⟨pw_fb, rcv_X10 hK hP (q0 := 0) rfl, (pw_use hP hK hN [0, 1, 2] rfl [0, 1] rfl)⟩ rfl rfl hl.1 rfl (lv_room (Nat.le_of_ble_eq_true rfl)) dX10_holds_237 ⟨lel 0 0 rfl, lel 0 0 rfl⟩) (fun r_58 h_r_58 => ?_)
    have b_r_58 := h_r_58
    have b_r_58 : (0 : Int) ≤ r_58.toInt ∧ r_58.toInt ≤ 180 := b_r_58
    refine lv_aload_n hx hb dX10_holds_240 rfl (lv_at hl 2 rfl) ?_
    refine lv_iload hx hb dX10_holds_241 (lv_at hl 0 rfl) ?_
    refine vp_callSi (W.runV (As := [.int z_53]) (rest := [.int r_58]) ⟨hx, hb, hml, hown, hts⟩ (kX10_sumOf l dC dI o0 x_th mwo mim mhi mlu mtp x_td mfv x_sz x_at x_fr x_to x_va x_fk x_fp mfr mwt x_wt x_op x_jo mfg mpl x_dr mtm mfa mqu mmo mwy mwn mma mwi mnu mmv c_wo c_fg w_wo w_fg ln bs tk lw li z_53 b_ln b_bs b_tk b_lw ha_mfg (hw0) (hw1) (hw2) (hw3) (hw4) (hwz)) (cwV 1 hts gX10_holds__X10_sumOf_V280 rfl rfl rfl hd_yX10_sumOf ⟨lel 1 2 rfl, lel 23 40 rfl⟩) ⟨pw_fb, rcv_X10 hK hP (q0 := 0) rfl, (pw_use hP hK hN [0, 1, 2] rfl [0, 1] rfl)⟩ rfl rfl hl.1 rfl (lv_room (Nat.le_of_ble_eq_true rfl)) dX10_holds_243 ⟨lel 0 0 rfl, lel 0 0 rfl⟩) (fun r_59 h_r_59 => ?_)
    have b_r_59 := h_r_59
    have b_r_59 : (0 : Int) ≤ r_59.toInt ∧ r_59.toInt ≤ 180 := b_r_59
    refine lv_icmp_ne (tgt := 253) hx hb dX10_holds_246 (by decide) (fun c_60 => ?_) (fun c_60 => ?_)
    ·
      have n_c_60 : (r_58.toInt : Int) ≠ r_59.toInt := c_ne rfl rfl c_60
      refine lv_iconst (v := 0) hx hb dX10_holds_253 (by decide) ?_
      exact W.zret (v := 0) hx hb hr rfl (fun t ht hW => ⟨0, rfl, (rg_w (by decide : (0 : Int) ≤ (0 : Int32).toInt ∧ (0 : Int32).toInt ≤ 0) (by decide) (by decide)), ht⟩) t_nil dX10_holds_254
    ·
      have n_c_60 : (r_58.toInt : Int) = r_59.toInt := c_eq rfl rfl c_60
      refine lv_iconst (v := 1) hx hb dX10_holds_249 (by decide) ?_
      refine lv_goto (tgt := 254) hx hb dX10_holds_250 (by decide) ?_
      exact W.zret (v := 1) hx hb hr rfl (fun t ht hW => ⟨1, rfl, (rg_w (by decide : (1 : Int) ≤ (1 : Int32).toInt ∧ (1 : Int32).toInt ≤ 1) (by decide) (by decide)), ht⟩) t_nil dX10_holds_254
  ·
    refine lv_tableIn (off := 48) (tgt := 88) hx hb dX10_holds_40 (by omega) (by omega) (by rw [c_57]; rfl) (by decide) ?_
    have b_z_56 : (0 : Int) ≤ z_56.toInt ∧ z_56.toInt ≤ 0 := ⟨by omega, by omega⟩
    refine lv_aload_n hx hb dX10_holds_88 rfl (lv_at hl 2 rfl) ?_
    refine lv_aload_n hx hb dX10_holds_89 rfl (lv_at hl 2 rfl) ?_
    refine vp_callSi (W.runV (As := []) (rest := [.ref o0]) ⟨hx, hb, hml, hown, hts⟩ (kX10_firstHalf l dC dI o0 x_th mwo mim mhi mlu mtp x_td mfv x_sz x_at x_fr x_to x_va x_fk x_fp mfr mwt x_wt x_op x_jo mfg mpl x_dr mtm mfa mqu mmo mwy mwn mma mwi mnu mmv c_wo w_wo ln bs tk lw li b_ln b_bs b_tk b_lw (hw0) (hw1) (hw2) (hw3) (hw4) (hwz)) (cwV 0 hts gX10_holds__X10_firstHalf_V274 rfl rfl rfl hd_yX10_firstHalf ⟨lel 1 2 rfl, lel 20 40 rfl⟩) ⟨pw_fb, rcv_X10 hK hP (q0 := 0) rfl, (pw_use hP hK hN [0, 1] rfl [0] rfl)⟩ rfl rfl hl.1 rfl (lv_room (Nat.le_of_ble_eq_true rfl)) dX10_holds_90 ⟨lel 0 0 rfl, lel 0 0 rfl⟩) (fun r_61 h_r_61 => ?_)
    refine vp_callSi (W.runV (As := [.int r_61]) (rest := []) ⟨hx, hb, hml, hown, hts⟩ (kX10_sumOf l dC dI o0 x_th mwo mim mhi mlu mtp x_td mfv x_sz x_at x_fr x_to x_va x_fk x_fp mfr mwt x_wt x_op x_jo mfg mpl x_dr mtm mfa mqu mmo mwy mwn mma mwi mnu mmv c_wo c_fg w_wo w_fg ln bs tk lw li r_61 b_ln b_bs b_tk b_lw ha_mfg (hw0) (hw1) (hw2) (hw3) (hw4) (hwz)) (cwV 1 hts gX10_holds__X10_sumOf_V280 rfl rfl rfl hd_yX10_sumOf ⟨lel 1 2 rfl, lel 23 40 rfl⟩) ⟨pw_fb, rcv_X10 hK hP (q0 := 0) rfl, (pw_use hP hK hN [0, 1, 2] rfl [0, 1] rfl)⟩ rfl rfl hl.1 rfl (lv_room (Nat.le_of_ble_eq_true rfl)) dX10_holds_93 ⟨lel 0 0 rfl, lel 0 0 rfl⟩) (fun r_62 h_r_62 => ?_)
    have b_r_62 := h_r_62
    have b_r_62 : (0 : Int) ≤ r_62.toInt ∧ r_62.toInt ≤ 180 := b_r_62
    refine lv_aload_n hx hb dX10_holds_96 rfl (lv_at hl 2 rfl) ?_
    refine lv_aload_n hx hb dX10_holds_97 rfl (lv_at hl 2 rfl) ?_
    refine vp_callSi (W.runV (As := []) (rest := [.ref o0, .int r_62]) ⟨hx, hb, hml, hown, hts⟩ (kX10_lastHalf l dC dI o0 x_th mwo mim mhi mlu mtp x_td mfv x_sz x_at x_fr x_to x_va x_fk x_fp mfr mwt x_wt x_op x_jo mfg mpl x_dr mtm mfa mqu mmo mwy mwn mma mwi mnu mmv c_wo w_wo ln bs tk lw li b_ln b_bs b_tk b_lw (hw0) (hw1) (hw2) (hw3) (hw4) (hwz)) (cwV 0 hts gX10_holds__X10_lastHalf_V283 rfl rfl rfl hd_yX10_lastHalf ⟨lel 2 2 rfl, lel 40 40 rfl⟩) ⟨pw_fb, rcv_X10 hK hP (q0 := 0) rfl, (pw_use hP hK hN [0, 1] rfl [0] rfl)⟩ rfl rfl hl.1 rfl (lv_room (Nat.le_of_ble_eq_true rfl)) dX10_holds_98 ⟨lel 0 0 rfl, lel 0 0 rfl⟩) (fun r_63 h_r_63 => ?_)
    refine vp_callSi (W.runV (As := [.int r_63]) (rest := [.int r_62]) ⟨hx, hb, hml, hown, hts⟩ (kX10_sumOf l dC dI o0 x_th mwo mim mhi mlu mtp x_td mfv x_sz x_at x_fr x_to x_va x_fk x_fp mfr mwt x_wt x_op x_jo mfg mpl x_dr mtm mfa mqu mmo mwy mwn mma mwi mnu mmv c_wo c_fg w_wo w_fg ln bs tk lw li r_63 b_ln b_bs b_tk b_lw ha_mfg (hw0) (hw1) (hw2) (hw3) (hw4) (hwz)) (cwV 1 hts gX10_holds__X10_sumOf_V280 rfl rfl rfl hd_yX10_sumOf ⟨lel 1 2 rfl, lel 23 40 rfl⟩) ⟨pw_fb, rcv_X10 hK hP (q0 := 0) rfl, (pw_use hP hK hN [0, 1, 2] rfl [0, 1] rfl)⟩ rfl rfl hl.1 rfl (lv_room (Nat.le_of_ble_eq_true rfl)) dX10_holds_101 ⟨lel 0 0 rfl, lel 0 0 rfl⟩) (fun r_64 h_r_64 => ?_)
    have b_r_64 := h_r_64
    have b_r_64 : (0 : Int) ≤ r_64.toInt ∧ r_64.toInt ≤ 180 := b_r_64
    refine lv_icmp_ne (tgt := 111) hx hb dX10_holds_104 (by decide) (fun c_65 => ?_) (fun c_65 => ?_)
    ·
      have n_c_65 : (r_62.toInt : Int) ≠ r_64.toInt := c_ne rfl rfl c_65
      refine lv_iconst (v := 0) hx hb dX10_holds_111 (by decide) ?_
      exact W.zret (v := 0) hx hb hr rfl (fun t ht hW => ⟨0, rfl, (rg_w (by decide : (0 : Int) ≤ (0 : Int32).toInt ∧ (0 : Int32).toInt ≤ 0) (by decide) (by decide)), ht⟩) t_nil dX10_holds_112
    ·
      have n_c_65 : (r_62.toInt : Int) = r_64.toInt := c_eq rfl rfl c_65
      refine lv_iconst (v := 1) hx hb dX10_holds_107 (by decide) ?_
      refine lv_goto (tgt := 112) hx hb dX10_holds_108 (by decide) ?_
      exact W.zret (v := 1) hx hb hr rfl (fun t ht hW => ⟨1, rfl, (rg_w (by decide : (1 : Int) ≤ (1 : Int32).toInt ∧ (1 : Int32).toInt ≤ 1) (by decide) (by decide)), ht⟩) t_nil dX10_holds_112
  ·
    refine lv_tableIn (off := 73) (tgt := 113) hx hb dX10_holds_40 (by omega) (by omega) (by rw [c_57]; rfl) (by decide) ?_
    have b_z_56 : (1 : Int) ≤ z_56.toInt ∧ z_56.toInt ≤ 1 := ⟨by omega, by omega⟩
    refine lv_aload_n hx hb dX10_holds_113 rfl (lv_at hl 2 rfl) ?_
    refine lv_aload_n hx hb dX10_holds_114 rfl (lv_at hl 2 rfl) ?_
    refine vp_callSi (W.runV (As := []) (rest := [.ref o0]) ⟨hx, hb, hml, hown, hts⟩ (kX10_evens l dC dI o0 x_th mwo mim mhi mlu mtp x_td mfv x_sz x_at x_fr x_to x_va x_fk x_fp mfr mwt x_wt x_op x_jo mfg mpl x_dr mtm mfa mqu mmo mwy mwn mma mwi mnu mmv c_wo w_wo ln bs tk lw li b_ln b_bs b_tk b_lw (hw0) (hw1) (hw2) (hw3) (hw4) (hwz)) (cwV 0 hts gX10_holds__X10_evens_V286 rfl rfl rfl hd_yX10_evens ⟨lel 2 2 rfl, lel 40 40 rfl⟩) ⟨pw_fb, rcv_X10 hK hP (q0 := 0) rfl, (pw_use hP hK hN [0, 1] rfl [0] rfl)⟩ rfl rfl hl.1 rfl (lv_room (Nat.le_of_ble_eq_true rfl)) dX10_holds_115 ⟨lel 0 0 rfl, lel 0 0 rfl⟩) (fun r_66 h_r_66 => ?_)
    refine vp_callSi (W.runV (As := [.int r_66]) (rest := []) ⟨hx, hb, hml, hown, hts⟩ (kX10_sumOf l dC dI o0 x_th mwo mim mhi mlu mtp x_td mfv x_sz x_at x_fr x_to x_va x_fk x_fp mfr mwt x_wt x_op x_jo mfg mpl x_dr mtm mfa mqu mmo mwy mwn mma mwi mnu mmv c_wo c_fg w_wo w_fg ln bs tk lw li r_66 b_ln b_bs b_tk b_lw ha_mfg (hw0) (hw1) (hw2) (hw3) (hw4) (hwz)) (cwV 1 hts gX10_holds__X10_sumOf_V280 rfl rfl rfl hd_yX10_sumOf ⟨lel 1 2 rfl, lel 23 40 rfl⟩) ⟨pw_fb, rcv_X10 hK hP (q0 := 0) rfl, (pw_use hP hK hN [0, 1, 2] rfl [0, 1] rfl)⟩ rfl rfl hl.1 rfl (lv_room (Nat.le_of_ble_eq_true rfl)) dX10_holds_118 ⟨lel 0 0 rfl, lel 0 0 rfl⟩) (fun r_67 h_r_67 => ?_)
    have b_r_67 := h_r_67
    have b_r_67 : (0 : Int) ≤ r_67.toInt ∧ r_67.toInt ≤ 180 := b_r_67
    refine lv_aload_n hx hb dX10_holds_121 rfl (lv_at hl 2 rfl) ?_
    refine lv_aload_n hx hb dX10_holds_122 rfl (lv_at hl 2 rfl) ?_
    refine vp_callSi (W.runV (As := []) (rest := [.ref o0, .int r_67]) ⟨hx, hb, hml, hown, hts⟩ (kX10_all l dC dI o0 x_th mwo mim mhi mlu mtp x_td mfv x_sz x_at x_fr x_to x_va x_fk x_fp mfr mwt x_wt x_op x_jo mfg mpl x_dr mtm mfa mqu mmo mwy mwn mma mwi mnu mmv c_wo w_wo ln bs tk lw li b_ln b_bs b_tk b_lw (hw0) (hw1) (hw2) (hw3) (hw4) (hwz)) (cwV 0 hts gX10_holds__X10_all_V277 rfl rfl rfl hd_yX10_all ⟨lel 1 2 rfl, lel 20 40 rfl⟩) ⟨pw_fb, rcv_X10 hK hP (q0 := 0) rfl, (pw_use hP hK hN [0, 1] rfl [0] rfl)⟩ rfl rfl hl.1 rfl (lv_room (Nat.le_of_ble_eq_true rfl)) dX10_holds_123 ⟨lel 0 0 rfl, lel 0 0 rfl⟩) (fun r_68 h_r_68 => ?_)
    refine lv_aload_n hx hb dX10_holds_126 rfl (lv_at hl 2 rfl) ?_
    refine vp_callSi (W.runV (As := []) (rest := [.int r_68, .ref o0, .int r_67]) ⟨hx, hb, hml, hown, hts⟩ (kX10_evens l dC dI o0 x_th mwo mim mhi mlu mtp x_td mfv x_sz x_at x_fr x_to x_va x_fk x_fp mfr mwt x_wt x_op x_jo mfg mpl x_dr mtm mfa mqu mmo mwy mwn mma mwi mnu mmv c_wo w_wo ln bs tk lw li b_ln b_bs b_tk b_lw (hw0) (hw1) (hw2) (hw3) (hw4) (hwz)) (cwV 0 hts gX10_holds__X10_evens_V286 rfl rfl rfl hd_yX10_evens ⟨lel 2 2 rfl, lel 40 40 rfl⟩) ⟨pw_fb, rcv_X10 hK hP (q0 := 0) rfl, (pw_use hP hK hN [0, 1] rfl [0] rfl)⟩ rfl rfl hl.1 rfl (lv_room (Nat.le_of_ble_eq_true rfl)) dX10_holds_127 ⟨lel 0 0 rfl, lel 0 0 rfl⟩) (fun r_69 h_r_69 => ?_)
    refine lv_iconst (v := (-1)) hx hb dX10_holds_130 (by decide) ?_
    refine lv_ixor hx hb dX10_holds_131 ?_
    refine lv_topi (fun z_70 e_z_70 => ?_)
    refine lv_iand hx hb dX10_holds_132 ?_
    refine lv_topi (fun z_71 e_z_71 => ?_)
    refine vp_callSi (W.runV (As := [.int z_71]) (rest := [.int r_67]) ⟨hx, hb, hml, hown, hts⟩ (kX10_sumOf l dC dI o0 x_th mwo mim mhi mlu mtp x_td mfv x_sz x_at x_fr x_to x_va x_fk x_fp mfr mwt x_wt x_op x_jo mfg mpl x_dr mtm mfa mqu mmo mwy mwn mma mwi mnu mmv c_wo c_fg w_wo w_fg ln bs tk lw li z_71 b_ln b_bs b_tk b_lw ha_mfg (hw0) (hw1) (hw2) (hw3) (hw4) (hwz)) (cwV 1 hts gX10_holds__X10_sumOf_V280 rfl rfl rfl hd_yX10_sumOf ⟨lel 1 2 rfl, lel 23 40 rfl⟩) ⟨pw_fb, rcv_X10 hK hP (q0 := 0) rfl, (pw_use hP hK hN [0, 1, 2] rfl [0, 1] rfl)⟩ rfl rfl hl.1 rfl (lv_room (Nat.le_of_ble_eq_true rfl)) dX10_holds_133 ⟨lel 0 0 rfl, lel 0 0 rfl⟩) (fun r_72 h_r_72 => ?_)
    have b_r_72 := h_r_72
    have b_r_72 : (0 : Int) ≤ r_72.toInt ∧ r_72.toInt ≤ 180 := b_r_72
    refine lv_icmp_ne (tgt := 143) hx hb dX10_holds_136 (by decide) (fun c_73 => ?_) (fun c_73 => ?_)
    ·
      have n_c_73 : (r_67.toInt : Int) ≠ r_72.toInt := c_ne rfl rfl c_73
      refine lv_iconst (v := 0) hx hb dX10_holds_143 (by decide) ?_
      exact W.zret (v := 0) hx hb hr rfl (fun t ht hW => ⟨0, rfl, (rg_w (by decide : (0 : Int) ≤ (0 : Int32).toInt ∧ (0 : Int32).toInt ≤ 0) (by decide) (by decide)), ht⟩) t_nil dX10_holds_144
    ·
      have n_c_73 : (r_67.toInt : Int) = r_72.toInt := c_eq rfl rfl c_73
      refine lv_iconst (v := 1) hx hb dX10_holds_139 (by decide) ?_
      refine lv_goto (tgt := 144) hx hb dX10_holds_140 (by decide) ?_
      exact W.zret (v := 1) hx hb hr rfl (fun t ht hW => ⟨1, rfl, (rg_w (by decide : (1 : Int) ≤ (1 : Int32).toInt ∧ (1 : Int32).toInt ≤ 1) (by decide) (by decide)), ht⟩) t_nil dX10_holds_144
  ·
    refine lv_tableIn (off := 105) (tgt := 145) hx hb dX10_holds_40 (by omega) (by omega) (by rw [c_57]; rfl) (by decide) ?_
    have b_z_56 : (2 : Int) ≤ z_56.toInt ∧ z_56.toInt ≤ 2 := ⟨by omega, by omega⟩
    refine lv_aload_n hx hb dX10_holds_145 rfl (lv_at hl 2 rfl) ?_
    refine vp_callSi (W.runV (As := []) (rest := []) ⟨hx, hb, hml, hown, hts⟩ (kX10_isMirror l dC dI o0 x_th mwo mim mhi mlu mtp x_td mfv x_sz x_at x_fr x_to x_va x_fk x_fp mfr mwt x_wt x_op x_jo mfg mpl x_dr mtm mfa mqu mmo mwy mwn mma mwi mnu mmv c_wo c_fg w_wo w_fg ln bs tk lw li b_ln b_bs b_tk b_lw ha_mfg (hw0) (hw1) (hw2) (hw3) (hw4) (hwz)) (cwV 0 hts gX10_holds__X10_isMirror_V289 rfl rfl rfl hd_yX10_isMirror ⟨lel 1 2 rfl, lel 22 40 rfl⟩) ⟨pw_fb, rcv_X10 hK hP (q0 := 0) rfl, (pw_use hP hK hN [0, 1, 2] rfl [0, 1] rfl)⟩ rfl rfl hl.1 rfl (lv_room (Nat.le_of_ble_eq_true rfl)) dX10_holds_146 ⟨lel 0 0 rfl, lel 0 0 rfl⟩) (fun r_74 h_r_74 => ?_)
    have b_r_74 := h_r_74
    have b_r_74 : (0 : Int) ≤ r_74.toInt ∧ r_74.toInt ≤ 1 := b_r_74
    exact W.zret (v := r_74) hx hb hr (zn_b b_r_74) (fun t ht hW => ⟨r_74, rfl, b_r_74, ht⟩) t_nil dX10_holds_149
  ·
    refine lv_tableIn (off := 110) (tgt := 150) hx hb dX10_holds_40 (by omega) (by omega) (by rw [c_57]; rfl) (by decide) ?_
    have b_z_56 : (3 : Int) ≤ z_56.toInt ∧ z_56.toInt ≤ 3 := ⟨by omega, by omega⟩
    refine lv_aload_n hx hb dX10_holds_150 rfl (lv_at hl 2 rfl) ?_
    refine vp_callSi (W.runV (As := []) (rest := []) ⟨hx, hb, hml, hown, hts⟩ (kX10_unlikeMany l dC dI o0 x_th mwo mim mhi mlu mtp x_td mfv x_sz x_at x_fr x_to x_va x_fk x_fp mfr mwt x_wt x_op x_jo mfg mpl x_dr mtm mfa mqu mmo mwy mwn mma mwi mnu mmv c_wo c_fg w_wo w_fg ln bs tk lw li b_ln b_bs b_tk b_lw ha_mfg (hw0) (hw1) (hw2) (hw3) (hw4) (hwz)) (cwV 0 hts gX10_holds__X10_unlikeMany_V292 rfl rfl rfl hd_yX10_unlikeMany ⟨lel 1 2 rfl, lel 23 40 rfl⟩) ⟨pw_fb, rcv_X10 hK hP (q0 := 0) rfl, (pw_use hP hK hN [0, 1, 2] rfl [0, 1] rfl)⟩ rfl rfl hl.1 rfl (lv_room (Nat.le_of_ble_eq_true rfl)) dX10_holds_151 ⟨lel 0 0 rfl, lel 0 0 rfl⟩) (fun r_75 h_r_75 => ?_)
    refine lv_aload_n hx hb dX10_holds_154 rfl (lv_at hl 2 rfl) ?_
    refine va_get (D := (dC, dI)) (ci := 8) (v := .ref mwo) (C := RX10) (T := TX10) (N := 33) hx hb hts iX10_holds_X10 hown hK hP 0 rfl rfl 1 (by decide) (hts (.fieldLink RX10 9 "LuckyTicketModel" "world" "[I") (List.mem_of_getElem? (i := 1) rfl)) (fun _ h9 => h9) rfl dX10_holds_155 ?_
    refine lv_iconst (v := 0) hx hb dX10_holds_158 (by decide) ?_
    refine va_iald hx hb hK hP 1 0 rfl rfl (vp_in_b (by decide : (0 : Int) ≤ (0 : Int32).toInt ∧ (0 : Int32).toInt ≤ 0) (by decide) (by decide)) dX10_holds_159 ?_
    refine lv_topi (fun z_76 e_z_76 => ?_)
    obtain rfl : ln = z_76 := (e_z_76.trans hw0).symm
    refine lv_icmp_ne (tgt := 167) hx hb dX10_holds_160 (by decide) (fun c_77 => ?_) (fun c_77 => ?_)
    ·
      have n_c_77 : (r_75.toInt : Int) ≠ ln.toInt := c_ne rfl rfl c_77
      refine lv_iconst (v := 0) hx hb dX10_holds_167 (by decide) ?_
      exact W.zret (v := 0) hx hb hr rfl (fun t ht hW => ⟨0, rfl, (rg_w (by decide : (0 : Int) ≤ (0 : Int32).toInt ∧ (0 : Int32).toInt ≤ 0) (by decide) (by decide)), ht⟩) t_nil dX10_holds_168
    ·
      have n_c_77 : (r_75.toInt : Int) = ln.toInt := c_eq rfl rfl c_77
      have b_r_75 : (0 : Int) ≤ r_75.toInt ∧ r_75.toInt ≤ 12 := r_eq1 (ti_rng r_75) b_ln n_c_77 (by decide)
      refine lv_iconst (v := 1) hx hb dX10_holds_163 (by decide) ?_
      refine lv_goto (tgt := 168) hx hb dX10_holds_164 (by decide) ?_
      exact W.zret (v := 1) hx hb hr rfl (fun t ht hW => ⟨1, rfl, (rg_w (by decide : (1 : Int) ≤ (1 : Int32).toInt ∧ (1 : Int32).toInt ≤ 1) (by decide) (by decide)), ht⟩) t_nil dX10_holds_168
  ·
    refine lv_tableIn (off := 129) (tgt := 169) hx hb dX10_holds_40 (by omega) (by omega) (by rw [c_57]; rfl) (by decide) ?_
    have b_z_56 : (4 : Int) ≤ z_56.toInt ∧ z_56.toInt ≤ 4 := ⟨by omega, by omega⟩
    refine lv_aload_n hx hb dX10_holds_169 rfl (lv_at hl 2 rfl) ?_
    refine lv_aload_n hx hb dX10_holds_170 rfl (lv_at hl 2 rfl) ?_
    refine vp_callSi (W.runV (As := []) (rest := [.ref o0]) ⟨hx, hb, hml, hown, hts⟩ (kX10_all l dC dI o0 x_th mwo mim mhi mlu mtp x_td mfv x_sz x_at x_fr x_to x_va x_fk x_fp mfr mwt x_wt x_op x_jo mfg mpl x_dr mtm mfa mqu mmo mwy mwn mma mwi mnu mmv c_wo w_wo ln bs tk lw li b_ln b_bs b_tk b_lw (hw0) (hw1) (hw2) (hw3) (hw4) (hwz)) (cwV 0 hts gX10_holds__X10_all_V277 rfl rfl rfl hd_yX10_all ⟨lel 1 2 rfl, lel 20 40 rfl⟩) ⟨pw_fb, rcv_X10 hK hP (q0 := 0) rfl, (pw_use hP hK hN [0, 1] rfl [0] rfl)⟩ rfl rfl hl.1 rfl (lv_room (Nat.le_of_ble_eq_true rfl)) dX10_holds_171 ⟨lel 0 0 rfl, lel 0 0 rfl⟩) (fun r_78 h_r_78 => ?_)
    refine vp_callSi (W.runV (As := [.int r_78]) (rest := []) ⟨hx, hb, hml, hown, hts⟩ (kX10_sumOf l dC dI o0 x_th mwo mim mhi mlu mtp x_td mfv x_sz x_at x_fr x_to x_va x_fk x_fp mfr mwt x_wt x_op x_jo mfg mpl x_dr mtm mfa mqu mmo mwy mwn mma mwi mnu mmv c_wo c_fg w_wo w_fg ln bs tk lw li r_78 b_ln b_bs b_tk b_lw ha_mfg (hw0) (hw1) (hw2) (hw3) (hw4) (hwz)) (cwV 1 hts gX10_holds__X10_sumOf_V280 rfl rfl rfl hd_yX10_sumOf ⟨lel 1 2 rfl, lel 23 40 rfl⟩) ⟨pw_fb, rcv_X10 hK hP (q0 := 0) rfl, (pw_use hP hK hN [0, 1, 2] rfl [0, 1] rfl)⟩ rfl rfl hl.1 rfl (lv_room (Nat.le_of_ble_eq_true rfl)) dX10_holds_174 ⟨lel 0 0 rfl, lel 0 0 rfl⟩) (fun r_79 h_r_79 => ?_)
    have b_r_79 := h_r_79
    have b_r_79 : (0 : Int) ≤ r_79.toInt ∧ r_79.toInt ≤ 180 := b_r_79
    refine vp_callSi (W.runS (As := [.int r_79]) (rest := []) ⟨hx, hb, hml, hown, hts⟩ (kX10_isSquare l dC dI r_79 (rg_w b_r_79 (by decide) (by decide))) (va_cwS 1 hts gX10_holds__X10_isSquare_S295 rfl rfl rfl hd_yX10_isSquare.2 ⟨lel 1 2 rfl, lel 21 40 rfl⟩) ⟨pn_fb, pn_use⟩ rfl rfl hl.1 rfl (lv_room (Nat.le_of_ble_eq_true rfl)) dX10_holds_177 ⟨lel 0 0 rfl, lel 0 0 rfl⟩) (fun r_80 h_r_80 => ?_)
    have b_r_80 := h_r_80
    have b_r_80 : (0 : Int) ≤ r_80.toInt ∧ r_80.toInt ≤ 1 := b_r_80
    exact W.zret (v := r_80) hx hb hr (zn_b b_r_80) (fun t ht hW => ⟨r_80, rfl, b_r_80, ht⟩) t_nil dX10_holds_180
  ·
    refine lv_tableIn (off := 141) (tgt := 181) hx hb dX10_holds_40 (by omega) (by omega) (by rw [c_57]; rfl) (by decide) ?_
    have b_z_56 : (5 : Int) ≤ z_56.toInt ∧ z_56.toInt ≤ 5 := ⟨by omega, by omega⟩
    refine lv_aload_n hx hb dX10_holds_181 rfl (lv_at hl 2 rfl) ?_
    refine lv_aload_n hx hb dX10_holds_182 rfl (lv_at hl 2 rfl) ?_
    refine vp_callSi (W.runV (As := []) (rest := [.ref o0]) ⟨hx, hb, hml, hown, hts⟩ (kX10_all l dC dI o0 x_th mwo mim mhi mlu mtp x_td mfv x_sz x_at x_fr x_to x_va x_fk x_fp mfr mwt x_wt x_op x_jo mfg mpl x_dr mtm mfa mqu mmo mwy mwn mma mwi mnu mmv c_wo w_wo ln bs tk lw li b_ln b_bs b_tk b_lw (hw0) (hw1) (hw2) (hw3) (hw4) (hwz)) (cwV 0 hts gX10_holds__X10_all_V277 rfl rfl rfl hd_yX10_all ⟨lel 1 2 rfl, lel 20 40 rfl⟩) ⟨pw_fb, rcv_X10 hK hP (q0 := 0) rfl, (pw_use hP hK hN [0, 1] rfl [0] rfl)⟩ rfl rfl hl.1 rfl (lv_room (Nat.le_of_ble_eq_true rfl)) dX10_holds_183 ⟨lel 0 0 rfl, lel 0 0 rfl⟩) (fun r_81 h_r_81 => ?_)
    refine vp_callSi (W.runV (As := [.int r_81]) (rest := []) ⟨hx, hb, hml, hown, hts⟩ (kX10_sumOf l dC dI o0 x_th mwo mim mhi mlu mtp x_td mfv x_sz x_at x_fr x_to x_va x_fk x_fp mfr mwt x_wt x_op x_jo mfg mpl x_dr mtm mfa mqu mmo mwy mwn mma mwi mnu mmv c_wo c_fg w_wo w_fg ln bs tk lw li r_81 b_ln b_bs b_tk b_lw ha_mfg (hw0) (hw1) (hw2) (hw3) (hw4) (hwz)) (cwV 1 hts gX10_holds__X10_sumOf_V280 rfl rfl rfl hd_yX10_sumOf ⟨lel 1 2 rfl, lel 23 40 rfl⟩) ⟨pw_fb, rcv_X10 hK hP (q0 := 0) rfl, (pw_use hP hK hN [0, 1, 2] rfl [0, 1] rfl)⟩ rfl rfl hl.1 rfl (lv_room (Nat.le_of_ble_eq_true rfl)) dX10_holds_186 ⟨lel 0 0 rfl, lel 0 0 rfl⟩) (fun r_82 h_r_82 => ?_)
    have b_r_82 := h_r_82
    have b_r_82 : (0 : Int) ≤ r_82.toInt ∧ r_82.toInt ≤ 180 := b_r_82
    refine lv_iload_n hx hb dX10_holds_189 rfl (lv_at hl 1 rfl) ?_
    refine lv_icmp_ne (tgt := 197) hx hb dX10_holds_190 (by decide) (fun c_83 => ?_) (fun c_83 => ?_)
    ·
      have n_c_83 : (r_82.toInt : Int) ≠ z_49.toInt := c_ne rfl rfl c_83
      refine lv_iconst (v := 0) hx hb dX10_holds_197 (by decide) ?_
      exact W.zret (v := 0) hx hb hr rfl (fun t ht hW => ⟨0, rfl, (rg_w (by decide : (0 : Int) ≤ (0 : Int32).toInt ∧ (0 : Int32).toInt ≤ 0) (by decide) (by decide)), ht⟩) t_nil dX10_holds_198
    ·
      have n_c_83 : (r_82.toInt : Int) = z_49.toInt := c_eq rfl rfl c_83
      have b_z_49 : (0 : Int) ≤ z_49.toInt ∧ z_49.toInt ≤ 180 := r_eq2 b_r_82 (ti_rng z_49) n_c_83 (by decide)
      refine lv_iconst (v := 1) hx hb dX10_holds_193 (by decide) ?_
      refine lv_goto (tgt := 198) hx hb dX10_holds_194 (by decide) ?_
      exact W.zret (v := 1) hx hb hr rfl (fun t ht hW => ⟨1, rfl, (rg_w (by decide : (1 : Int) ≤ (1 : Int32).toInt ∧ (1 : Int32).toInt ≤ 1) (by decide) (by decide)), ht⟩) t_nil dX10_holds_198
  ·
    refine lv_tableIn (off := 159) (tgt := 199) hx hb dX10_holds_40 (by omega) (by omega) (by rw [c_57]; rfl) (by decide) ?_
    have b_z_56 : (6 : Int) ≤ z_56.toInt ∧ z_56.toInt ≤ 6 := ⟨by omega, by omega⟩
    refine lv_aload_n hx hb dX10_holds_199 rfl (lv_at hl 2 rfl) ?_
    refine lv_aload_n hx hb dX10_holds_200 rfl (lv_at hl 2 rfl) ?_
    refine vp_callSi (W.runV (As := []) (rest := [.ref o0]) ⟨hx, hb, hml, hown, hts⟩ (kX10_all l dC dI o0 x_th mwo mim mhi mlu mtp x_td mfv x_sz x_at x_fr x_to x_va x_fk x_fp mfr mwt x_wt x_op x_jo mfg mpl x_dr mtm mfa mqu mmo mwy mwn mma mwi mnu mmv c_wo w_wo ln bs tk lw li b_ln b_bs b_tk b_lw (hw0) (hw1) (hw2) (hw3) (hw4) (hwz)) (cwV 0 hts gX10_holds__X10_all_V277 rfl rfl rfl hd_yX10_all ⟨lel 1 2 rfl, lel 20 40 rfl⟩) ⟨pw_fb, rcv_X10 hK hP (q0 := 0) rfl, (pw_use hP hK hN [0, 1] rfl [0] rfl)⟩ rfl rfl hl.1 rfl (lv_room (Nat.le_of_ble_eq_true rfl)) dX10_holds_201 ⟨lel 0 0 rfl, lel 0 0 rfl⟩) (fun r_84 h_r_84 => ?_)
    refine vp_callSi (W.runV (As := [.int r_84]) (rest := []) ⟨hx, hb, hml, hown, hts⟩ (kX10_sumOf l dC dI o0 x_th mwo mim mhi mlu mtp x_td mfv x_sz x_at x_fr x_to x_va x_fk x_fp mfr mwt x_wt x_op x_jo mfg mpl x_dr mtm mfa mqu mmo mwy mwn mma mwi mnu mmv c_wo c_fg w_wo w_fg ln bs tk lw li r_84 b_ln b_bs b_tk b_lw ha_mfg (hw0) (hw1) (hw2) (hw3) (hw4) (hwz)) (cwV 1 hts gX10_holds__X10_sumOf_V280 rfl rfl rfl hd_yX10_sumOf ⟨lel 1 2 rfl, lel 23 40 rfl⟩) ⟨pw_fb, rcv_X10 hK hP (q0 := 0) rfl, (pw_use hP hK hN [0, 1, 2] rfl [0, 1] rfl)⟩ rfl rfl hl.1 rfl (lv_room (Nat.le_of_ble_eq_true rfl)) dX10_holds_204 ⟨lel 0 0 rfl, lel 0 0 rfl⟩) (fun r_85 h_r_85 => ?_)
    have b_r_85 := h_r_85
    have b_r_85 : (0 : Int) ≤ r_85.toInt ∧ r_85.toInt ≤ 180 := b_r_85
    refine lv_iload hx hb dX10_holds_207 (lv_at hl 0 rfl) ?_
    have b_z_53 : (1 : Int) ≤ z_53.toInt ∧ z_53.toInt ≤ 2147483647 := ⟨by omega, ((ti_rng z_53)).2⟩
    refine lv_irem hx hb dX10_holds_209 (ti_ne b_z_53 (by decide)) ?_
    refine lv_topi (fun z_86 e_z_86 => ?_)
    obtain ⟨q_z_86, b_z_86⟩ := ti_rem (hi := 180) e_z_86 rfl rfl b_r_85 b_z_53 (by decide)
    refine lv_iload_n hx hb dX10_holds_210 rfl (lv_at hl 1 rfl) ?_
    refine lv_icmp_ne (tgt := 218) hx hb dX10_holds_211 (by decide) (fun c_87 => ?_) (fun c_87 => ?_)
    ·
      have n_c_87 : (z_86.toInt : Int) ≠ z_49.toInt := c_ne rfl rfl c_87
      refine lv_iconst (v := 0) hx hb dX10_holds_218 (by decide) ?_
      exact W.zret (v := 0) hx hb hr rfl (fun t ht hW => ⟨0, rfl, (rg_w (by decide : (0 : Int) ≤ (0 : Int32).toInt ∧ (0 : Int32).toInt ≤ 0) (by decide) (by decide)), ht⟩) t_nil dX10_holds_219
    ·
      have n_c_87 : (z_86.toInt : Int) = z_49.toInt := c_eq rfl rfl c_87
      have b_z_49 : (0 : Int) ≤ z_49.toInt ∧ z_49.toInt ≤ 180 := r_eq2 b_z_86 (ti_rng z_49) n_c_87 (by decide)
      refine lv_iconst (v := 1) hx hb dX10_holds_214 (by decide) ?_
      refine lv_goto (tgt := 219) hx hb dX10_holds_215 (by decide) ?_
      exact W.zret (v := 1) hx hb hr rfl (fun t ht hW => ⟨1, rfl, (rg_w (by decide : (1 : Int) ≤ (1 : Int32).toInt ∧ (1 : Int32).toInt ≤ 1) (by decide) (by decide)), ht⟩) t_nil dX10_holds_219
  ·
    refine lv_tableIn (off := 180) (tgt := 220) hx hb dX10_holds_40 (by omega) (by omega) (by rw [c_57]; rfl) (by decide) ?_
    have b_z_56 : (7 : Int) ≤ z_56.toInt ∧ z_56.toInt ≤ 7 := ⟨by omega, by omega⟩
    refine lv_iload_n hx hb dX10_holds_220 rfl (lv_at hl 4 rfl) ?_
    refine lv_iload_n hx hb dX10_holds_221 rfl (lv_at hl 1 rfl) ?_
    refine lv_ishr hx hb dX10_holds_222 ?_
    refine lv_topi (fun z_88 e_z_88 => ?_)
    refine lv_iconst (v := 1) hx hb dX10_holds_223 (by decide) ?_
    refine lv_iand hx hb dX10_holds_224 ?_
    refine lv_topi (fun z_89 e_z_89 => ?_)
    have b_z_89 : (0 : Int) ≤ z_89.toInt ∧ z_89.toInt ≤ 1 := ti_and (k := 1) e_z_89 (by decide) (by decide) (by decide)
    refine lv_iconst (v := 1) hx hb dX10_holds_225 (by decide) ?_
    refine lv_icmp_ne (tgt := 233) hx hb dX10_holds_226 (by decide) (fun c_90 => ?_) (fun c_90 => ?_)
    ·
      have n_c_90 : (z_89.toInt : Int) ≠ 1 := c_ne rfl (by decide) c_90
      have b_z_89 : (0 : Int) ≤ z_89.toInt ∧ z_89.toInt ≤ 0 := r_ne2 b_z_89 (by decide : (1 : Int) ≤ (1 : Int32).toInt ∧ (1 : Int32).toInt ≤ 1) n_c_90 (by decide)
      refine lv_iconst (v := 0) hx hb dX10_holds_233 (by decide) ?_
      exact W.zret (v := 0) hx hb hr rfl (fun t ht hW => ⟨0, rfl, (rg_w (by decide : (0 : Int) ≤ (0 : Int32).toInt ∧ (0 : Int32).toInt ≤ 0) (by decide) (by decide)), ht⟩) t_nil dX10_holds_234
    ·
      have n_c_90 : (z_89.toInt : Int) = 1 := c_eq rfl (by decide) c_90
      have b_z_89 : (1 : Int) ≤ z_89.toInt ∧ z_89.toInt ≤ 1 := r_eq1 b_z_89 (by decide : (1 : Int) ≤ (1 : Int32).toInt ∧ (1 : Int32).toInt ≤ 1) n_c_90 (by decide)
      refine lv_iconst (v := 1) hx hb dX10_holds_229 (by decide) ?_
      refine lv_goto (tgt := 234) hx hb dX10_holds_230 (by decide) ?_
      exact W.zret (v := 1) hx hb hr rfl (fun t ht hW => ⟨1, rfl, (rg_w (by decide : (1 : Int) ≤ (1 : Int32).toInt ∧ (1 : Int32).toInt ≤ 1) (by decide) (by decide)), ht⟩) t_nil dX10_holds_234
theorem dX10_isBy_0 : decode cX10_isBy 0 = .ok (.iconst 0, 1) := by decide +kernel
theorem dX10_isBy_1 : decode cX10_isBy 1 = .ok (.istore_n 3, 1) := by decide +kernel
theorem dX10_isBy_2 : decode cX10_isBy 2 = .ok (.aload_n 0, 1) := by decide +kernel
theorem dX10_isBy_3 : decode cX10_isBy 3 = .ok (.getfield 9, 3) := by decide +kernel
theorem dX10_isBy_6 : decode cX10_isBy 6 = .ok (.iconst 5, 1) := by decide +kernel
theorem dX10_isBy_7 : decode cX10_isBy 7 = .ok (.iload_n 1, 1) := by decide +kernel
theorem dX10_isBy_8 : decode cX10_isBy 8 = .ok (.iadd, 1) := by decide +kernel
theorem dX10_isBy_9 : decode cX10_isBy 9 = .ok (.iaload, 1) := by decide +kernel
theorem dX10_isBy_10 : decode cX10_isBy 10 = .ok (.istore 4, 2) := by decide +kernel
theorem dX10_isBy_12 : decode cX10_isBy 12 = .ok (.iload 4, 2) := by decide +kernel
theorem dX10_isBy_14 : decode cX10_isBy 14 = .ok (.aload_n 0, 1) := by decide +kernel
theorem dX10_isBy_15 : decode cX10_isBy 15 = .ok (.getfield 9, 3) := by decide +kernel
theorem dX10_isBy_18 : decode cX10_isBy 18 = .ok (.iconst 5, 1) := by decide +kernel
theorem dX10_isBy_19 : decode cX10_isBy 19 = .ok (.iload_n 1, 1) := by decide +kernel
theorem dX10_isBy_20 : decode cX10_isBy 20 = .ok (.iadd, 1) := by decide +kernel
theorem dX10_isBy_21 : decode cX10_isBy 21 = .ok (.iconst 1, 1) := by decide +kernel
theorem dX10_isBy_22 : decode cX10_isBy 22 = .ok (.iadd, 1) := by decide +kernel
theorem dX10_isBy_23 : decode cX10_isBy 23 = .ok (.iaload, 1) := by decide +kernel
theorem dX10_isBy_24 : decode cX10_isBy 24 = .ok (.if_icmp .ge 161, 3) := by decide +kernel
theorem dX10_isBy_27 : decode cX10_isBy 27 = .ok (.aload_n 0, 1) := by decide +kernel
theorem dX10_isBy_28 : decode cX10_isBy 28 = .ok (.getfield 9, 3) := by decide +kernel
theorem dX10_isBy_31 : decode cX10_isBy 31 = .ok (.bipush 15, 2) := by decide +kernel
theorem dX10_isBy_33 : decode cX10_isBy 33 = .ok (.iconst 3, 1) := by decide +kernel
theorem dX10_isBy_34 : decode cX10_isBy 34 = .ok (.iload 4, 2) := by decide +kernel
theorem dX10_isBy_36 : decode cX10_isBy 36 = .ok (.imul, 1) := by decide +kernel
theorem dX10_isBy_37 : decode cX10_isBy 37 = .ok (.iadd, 1) := by decide +kernel
theorem dX10_isBy_38 : decode cX10_isBy 38 = .ok (.iaload, 1) := by decide +kernel
theorem dX10_isBy_39 : decode cX10_isBy 39 = .ok (.istore 5, 2) := by decide +kernel
theorem dX10_isBy_41 : decode cX10_isBy 41 = .ok (.iload 5, 2) := by decide +kernel
theorem dX10_isBy_43 : decode cX10_isBy 43 = .ok (.bipush 9, 2) := by decide +kernel
theorem dX10_isBy_45 : decode cX10_isBy 45 = .ok (.if_icmp .ne 30, 3) := by decide +kernel
theorem dX10_isBy_48 : decode cX10_isBy 48 = .ok (.aload_n 0, 1) := by decide +kernel
theorem dX10_isBy_49 : decode cX10_isBy 49 = .ok (.getfield 43, 3) := by decide +kernel
theorem dX10_isBy_52 : decode cX10_isBy 52 = .ok (.iload_n 3, 1) := by decide +kernel
theorem dX10_isBy_53 : decode cX10_isBy 53 = .ok (.iconst 1, 1) := by decide +kernel
theorem dX10_isBy_54 : decode cX10_isBy 54 = .ok (.isub, 1) := by decide +kernel
theorem dX10_isBy_55 : decode cX10_isBy 55 = .ok (.aload_n 0, 1) := by decide +kernel
theorem dX10_isBy_56 : decode cX10_isBy 56 = .ok (.getfield 43, 3) := by decide +kernel
theorem dX10_isBy_59 : decode cX10_isBy 59 = .ok (.iload_n 3, 1) := by decide +kernel
theorem dX10_isBy_60 : decode cX10_isBy 60 = .ok (.iconst 1, 1) := by decide +kernel
theorem dX10_isBy_61 : decode cX10_isBy 61 = .ok (.isub, 1) := by decide +kernel
theorem dX10_isBy_62 : decode cX10_isBy 62 = .ok (.baload, 1) := by decide +kernel
theorem dX10_isBy_63 : decode cX10_isBy 63 = .ok (.ifCond .ne 7, 3) := by decide +kernel
theorem dX10_isBy_66 : decode cX10_isBy 66 = .ok (.iconst 1, 1) := by decide +kernel
theorem dX10_isBy_67 : decode cX10_isBy 67 = .ok (.goto 4, 3) := by decide +kernel
theorem dX10_isBy_70 : decode cX10_isBy 70 = .ok (.iconst 0, 1) := by decide +kernel
theorem dX10_isBy_71 : decode cX10_isBy 71 = .ok (.bastore, 1) := by decide +kernel
theorem dX10_isBy_72 : decode cX10_isBy 72 = .ok (.goto 107, 3) := by decide +kernel
theorem dX10_isBy_75 : decode cX10_isBy 75 = .ok (.iload 5, 2) := by decide +kernel
theorem dX10_isBy_77 : decode cX10_isBy 77 = .ok (.bipush 10, 2) := by decide +kernel
theorem dX10_isBy_79 : decode cX10_isBy 79 = .ok (.if_icmp .eq 10, 3) := by decide +kernel
theorem dX10_isBy_82 : decode cX10_isBy 82 = .ok (.iload 5, 2) := by decide +kernel
theorem dX10_isBy_84 : decode cX10_isBy 84 = .ok (.bipush 11, 2) := by decide +kernel
theorem dX10_isBy_86 : decode cX10_isBy 86 = .ok (.if_icmp .ne 77, 3) := by decide +kernel
theorem dX10_isBy_89 : decode cX10_isBy 89 = .ok (.iinc 3 (-1), 3) := by decide +kernel
theorem dX10_isBy_92 : decode cX10_isBy 92 = .ok (.aload_n 0, 1) := by decide +kernel
theorem dX10_isBy_93 : decode cX10_isBy 93 = .ok (.getfield 43, 3) := by decide +kernel
theorem dX10_isBy_96 : decode cX10_isBy 96 = .ok (.iload_n 3, 1) := by decide +kernel
theorem dX10_isBy_97 : decode cX10_isBy 97 = .ok (.iconst 1, 1) := by decide +kernel
theorem dX10_isBy_98 : decode cX10_isBy 98 = .ok (.isub, 1) := by decide +kernel
theorem dX10_isBy_99 : decode cX10_isBy 99 = .ok (.iload 5, 2) := by decide +kernel
theorem dX10_isBy_101 : decode cX10_isBy 101 = .ok (.bipush 10, 2) := by decide +kernel
theorem dX10_isBy_103 : decode cX10_isBy 103 = .ok (.if_icmp .ne 31, 3) := by decide +kernel
theorem dX10_isBy_106 : decode cX10_isBy 106 = .ok (.aload_n 0, 1) := by decide +kernel
theorem dX10_isBy_107 : decode cX10_isBy 107 = .ok (.getfield 43, 3) := by decide +kernel
theorem dX10_isBy_110 : decode cX10_isBy 110 = .ok (.iload_n 3, 1) := by decide +kernel
theorem dX10_isBy_111 : decode cX10_isBy 111 = .ok (.iconst 1, 1) := by decide +kernel
theorem dX10_isBy_112 : decode cX10_isBy 112 = .ok (.isub, 1) := by decide +kernel
theorem dX10_isBy_113 : decode cX10_isBy 113 = .ok (.baload, 1) := by decide +kernel
theorem dX10_isBy_114 : decode cX10_isBy 114 = .ok (.ifCond .eq 16, 3) := by decide +kernel
theorem dX10_isBy_117 : decode cX10_isBy 117 = .ok (.aload_n 0, 1) := by decide +kernel
theorem dX10_isBy_118 : decode cX10_isBy 118 = .ok (.getfield 43, 3) := by decide +kernel
theorem dX10_isBy_121 : decode cX10_isBy 121 = .ok (.iload_n 3, 1) := by decide +kernel
theorem dX10_isBy_122 : decode cX10_isBy 122 = .ok (.baload, 1) := by decide +kernel
theorem dX10_isBy_123 : decode cX10_isBy 123 = .ok (.ifCond .eq 7, 3) := by decide +kernel
theorem dX10_isBy_126 : decode cX10_isBy 126 = .ok (.iconst 1, 1) := by decide +kernel
theorem dX10_isBy_127 : decode cX10_isBy 127 = .ok (.goto 32, 3) := by decide +kernel
theorem dX10_isBy_130 : decode cX10_isBy 130 = .ok (.iconst 0, 1) := by decide +kernel
theorem dX10_isBy_131 : decode cX10_isBy 131 = .ok (.goto 28, 3) := by decide +kernel
theorem dX10_isBy_134 : decode cX10_isBy 134 = .ok (.aload_n 0, 1) := by decide +kernel
theorem dX10_isBy_135 : decode cX10_isBy 135 = .ok (.getfield 43, 3) := by decide +kernel
theorem dX10_isBy_138 : decode cX10_isBy 138 = .ok (.iload_n 3, 1) := by decide +kernel
theorem dX10_isBy_139 : decode cX10_isBy 139 = .ok (.iconst 1, 1) := by decide +kernel
theorem dX10_isBy_140 : decode cX10_isBy 140 = .ok (.isub, 1) := by decide +kernel
theorem dX10_isBy_141 : decode cX10_isBy 141 = .ok (.baload, 1) := by decide +kernel
theorem dX10_isBy_142 : decode cX10_isBy 142 = .ok (.ifCond .ne 12, 3) := by decide +kernel
theorem dX10_isBy_145 : decode cX10_isBy 145 = .ok (.aload_n 0, 1) := by decide +kernel
theorem dX10_isBy_146 : decode cX10_isBy 146 = .ok (.getfield 43, 3) := by decide +kernel
theorem dX10_isBy_149 : decode cX10_isBy 149 = .ok (.iload_n 3, 1) := by decide +kernel
theorem dX10_isBy_150 : decode cX10_isBy 150 = .ok (.baload, 1) := by decide +kernel
theorem dX10_isBy_151 : decode cX10_isBy 151 = .ok (.ifCond .eq 7, 3) := by decide +kernel
theorem dX10_isBy_154 : decode cX10_isBy 154 = .ok (.iconst 1, 1) := by decide +kernel
theorem dX10_isBy_155 : decode cX10_isBy 155 = .ok (.goto 4, 3) := by decide +kernel
theorem dX10_isBy_158 : decode cX10_isBy 158 = .ok (.iconst 0, 1) := by decide +kernel
theorem dX10_isBy_159 : decode cX10_isBy 159 = .ok (.bastore, 1) := by decide +kernel
theorem dX10_isBy_160 : decode cX10_isBy 160 = .ok (.goto 19, 3) := by decide +kernel
theorem dX10_isBy_163 : decode cX10_isBy 163 = .ok (.aload_n 0, 1) := by decide +kernel
theorem dX10_isBy_164 : decode cX10_isBy 164 = .ok (.getfield 43, 3) := by decide +kernel
theorem dX10_isBy_167 : decode cX10_isBy 167 = .ok (.iload_n 3, 1) := by decide +kernel
theorem dX10_isBy_168 : decode cX10_isBy 168 = .ok (.aload_n 0, 1) := by decide +kernel
theorem dX10_isBy_169 : decode cX10_isBy 169 = .ok (.iload 4, 2) := by decide +kernel
theorem dX10_isBy_171 : decode cX10_isBy 171 = .ok (.iload_n 2, 1) := by decide +kernel
theorem dX10_isBy_172 : decode cX10_isBy 172 = .ok (.invokevirtual 298, 3) := by decide +kernel
theorem dX10_isBy_175 : decode cX10_isBy 175 = .ok (.bastore, 1) := by decide +kernel
theorem dX10_isBy_176 : decode cX10_isBy 176 = .ok (.iinc 3 1, 3) := by decide +kernel
theorem dX10_isBy_179 : decode cX10_isBy 179 = .ok (.iinc 4 1, 3) := by decide +kernel
theorem dX10_isBy_182 : decode cX10_isBy 182 = .ok (.goto (-170), 3) := by decide +kernel
theorem dX10_isBy_185 : decode cX10_isBy 185 = .ok (.aload_n 0, 1) := by decide +kernel
theorem dX10_isBy_186 : decode cX10_isBy 186 = .ok (.getfield 43, 3) := by decide +kernel
theorem dX10_isBy_189 : decode cX10_isBy 189 = .ok (.iconst 0, 1) := by decide +kernel
theorem dX10_isBy_190 : decode cX10_isBy 190 = .ok (.baload, 1) := by decide +kernel
theorem dX10_isBy_191 : decode cX10_isBy 191 = .ok (.ireturn, 1) := by decide +kernel
theorem hd_yX10_isBy : yX10_isBy.cls = RX10 ∧ yX10_isBy.cls ≠ "java/lang/invoke/MethodHandle" ∧ yX10_isBy.cls ≠ "java/lang/invoke/VarHandle" ∧ (parseMethodDescriptor yX10_isBy.desc).map (fun d => d.parameters.length) = some 2 := by decide +kernel
def uX10_isBy : List Cond := List.cons (.code yX10_isBy cX10_isBy 6 (some .boolean)) (HAppend.hAppend ([.fieldLink RX10 9 "LuckyTicketModel" "world" "[I", .fieldLink RX10 43 "LuckyTicketModel" "pile" "[Z", .methodLink RX10 298 yX10_holds, .instanceMethod yX10_holds, .selects RX10 yX10_holds yX10_holds, .initialized RX10] : List Cond) (HAppend.hAppend uX10_holds wsX100))
theorem iX10_isBy_X10 : ∀ w ∈ wsX100, w ∈ uX10_isBy := fun _ h => (List.mem_cons_of_mem _ (List.mem_append_right _ (List.mem_append_right _ h)))
theorem guX10_isBy : GU uX10_isBy := gu_cons (gu_app (by decide +kernel) (gu_ap guX10_holds gws_X10))
theorem gX10_isBy__X10_holds_V298 : GoodIn uX10_isBy (wsV RX10 298 RX10 yX10_holds uX10_holds) := gin_V (List.mem_of_getElem? (i := 3) rfl) (List.mem_of_getElem? (i := 4) rfl) (List.mem_of_getElem? (i := 5) rfl) (List.mem_of_getElem? (i := 6) rfl) (fun _ h => (List.mem_cons_of_mem _ (List.mem_append_right _ (List.mem_append_left _ h)))) guX10_holds
set_option maxHeartbeats 4000000 in
set_option maxRecDepth 100000 in
theorem kX10_isBy (l : Launch) (dC : Nat → ClassId) (dI : Nat → Nat → Nat) (o0 : Nat) (x_th : Int32) (mwo : Nat) (mim : Nat) (mhi : Nat) (mlu : Nat) (mtp : Nat) (x_td : Int32) (mfv : Nat) (x_sz : Int32) (x_at : Int32) (x_fr : Int32) (x_to : Int32) (x_va : Int32) (x_fk : Int32) (x_fp : Int32) (mfr : Nat) (mwt : Nat) (x_wt : Int32) (x_op : Int32) (x_jo : Int32) (mfg : Nat) (mpl : Nat) (x_dr : Int64) (mtm : Nat) (mfa : Nat) (mqu : Nat) (mmo : Nat) (mwy : Nat) (mwn : Nat) (mma : Nat) (mwi : Nat) (mnu : Nat) (mmv : Nat) (c_wo : ClassId) (c_fg : ClassId) (c_pl : ClassId) (w_wo : Nat → Int32) (w_fg : Nat → Int32) (w_pl : Nat → Int32) (ln : Int32) (bs : Int32) (tk : Int32) (lw : Int32) (li : Int32) (a1 : Int32) (a2 : Int32) (sz : Nat) (b_ln : (0 : Int) ≤ ln.toInt ∧ ln.toInt ≤ 12) (b_bs : (0 : Int) ≤ bs.toInt ∧ bs.toInt ≤ 16) (b_tk : (0 : Int) ≤ tk.toInt ∧ tk.toInt ≤ 20000) (b_lw : (0 : Int) ≤ lw.toInt ∧ lw.toInt ≤ 9) (b_a1 : (0 : Int) ≤ a1.toInt ∧ a1.toInt ≤ 8) (ha_mfg : rg w_fg 12 0 15) (ha_mpl : rg w_pl 26 0 1) (hw0 : w_wo 0 = ln) (hw1 : w_wo 1 = bs) (hw2 : w_wo 2 = tk) (hw3 : w_wo 3 = lw) (hw4 : w_wo 4 = li) (hwz : (ln.toInt = 0 ∧ bs.toInt = 0 ∧ tk.toInt = 0 ∧ lw.toInt = 0) ∨ (1 ≤ ln.toInt ∧ 2 ≤ bs.toInt ∧ 1 ≤ tk.toInt)) (hal : a1.toInt < lw.toInt) (hpv : pvw w_wo lw) : Met l yX10_isBy uX10_isBy ({ frames := 3, cells := 0, slots := 0, locals := 64 }) (va_Pc [.ref o0, .int a1, .int a2] (hw (dC, dI) vwCl [(o0, .inr (8, [.int x_th, .ref mwo, .ref mim, .ref mhi, .ref mlu, .ref mtp, .int x_td, .ref mfv, .int x_sz, .int x_at, .int x_fr, .int x_to, .int x_va, .int x_fk, .int x_fp, .ref mfr, .ref mwt, .int x_wt, .int x_op, .int x_jo, .ref mfg, .ref mpl, .long x_dr, .ref mtm, .ref mfa, .ref mqu, .ref mmo, .ref mwy, .ref mwn, .ref mma, .ref mwi, .ref mnu, .ref mmv])), (mwo, .inl (c_wo, 1875, .inl w_wo)), (mfg, .inl (c_fg, 12, .inl w_fg)), (mpl, .inl (c_pl, 26, .inl w_pl))] [(c_wo, .int), (c_fg, .int), (c_pl, .boolean)] sz)) (va_Qi (fun (r : Int32) (_ : Unit) => ((0 : Int) ≤ r.toInt ∧ r.toInt ≤ 1)) (fun (_ : Unit) t => ∃ (o0_ : Nat → Int32), (rg o0_ 26 0 1) ∧ va_P (dC, dI) vwCl [(o0, .inr (8, [.int x_th, .ref mwo, .ref mim, .ref mhi, .ref mlu, .ref mtp, .int x_td, .ref mfv, .int x_sz, .int x_at, .int x_fr, .int x_to, .int x_va, .int x_fk, .int x_fp, .ref mfr, .ref mwt, .int x_wt, .int x_op, .int x_jo, .ref mfg, .ref mpl, .long x_dr, .ref mtm, .ref mfa, .ref mqu, .ref mmo, .ref mwy, .ref mwn, .ref mma, .ref mwi, .ref mnu, .ref mmv])), (mwo, .inl (c_wo, 1875, .inl w_wo)), (mfg, .inl (c_fg, 12, .inl w_fg)), (mpl, .inl (c_pl, 26, .inl o0_))] t.heap ∧ va_K (dC, dI) vwCl [(c_wo, .int), (c_fg, .int), (c_pl, .boolean)] t ∧ va_D (va_A [(o0, .inr (8, [.int x_th, .ref mwo, .ref mim, .ref mhi, .ref mlu, .ref mtp, .int x_td, .ref mfv, .int x_sz, .int x_at, .int x_fr, .int x_to, .int x_va, .int x_fk, .int x_fp, .ref mfr, .ref mwt, .int x_wt, .int x_op, .int x_jo, .ref mfg, .ref mpl, .long x_dr, .ref mtm, .ref mfa, .ref mqu, .ref mmo, .ref mwy, .ref mwn, .ref mma, .ref mwi, .ref mnu, .ref mmv])), (mwo, .inl (c_wo, 1875, .inl w_wo)), (mfg, .inl (c_fg, 12, .inl w_fg)), (mpl, .inl (c_pl, 26, .inl w_pl))] sz) [(o0, .inr (8, [.int x_th, .ref mwo, .ref mim, .ref mhi, .ref mlu, .ref mtp, .int x_td, .ref mfv, .int x_sz, .int x_at, .int x_fr, .int x_to, .int x_va, .int x_fk, .int x_fp, .ref mfr, .ref mwt, .int x_wt, .int x_op, .int x_jo, .ref mfg, .ref mpl, .long x_dr, .ref mtm, .ref mfa, .ref mqu, .ref mmo, .ref mwy, .ref mwn, .ref mma, .ref mwi, .ref mnu, .ref mmv])), (mwo, .inl (c_wo, 1875, .inl w_wo)), (mfg, .inl (c_fg, 12, .inl w_fg)), (mpl, .inl (c_pl, 26, .inl o0_))]) (va_A [(o0, .inr (8, [.int x_th, .ref mwo, .ref mim, .ref mhi, .ref mlu, .ref mtp, .int x_td, .ref mfv, .int x_sz, .int x_at, .int x_fr, .int x_to, .int x_va, .int x_fk, .int x_fp, .ref mfr, .ref mwt, .int x_wt, .int x_op, .int x_jo, .ref mfg, .ref mpl, .long x_dr, .ref mtm, .ref mfa, .ref mqu, .ref mmo, .ref mwy, .ref mwn, .ref mma, .ref mwi, .ref mnu, .ref mmv])), (mwo, .inl (c_wo, 1875, .inl w_wo)), (mfg, .inl (c_fg, 12, .inl w_fg)), (mpl, .inl (c_pl, 26, .inl w_pl))] sz)) 0 0 (va_A [(o0, .inr (8, [.int x_th, .ref mwo, .ref mim, .ref mhi, .ref mlu, .ref mtp, .int x_td, .ref mfv, .int x_sz, .int x_at, .int x_fr, .int x_to, .int x_va, .int x_fk, .int x_fp, .ref mfr, .ref mwt, .int x_wt, .int x_op, .int x_jo, .ref mfg, .ref mpl, .long x_dr, .ref mtm, .ref mfa, .ref mqu, .ref mmo, .ref mwy, .ref mwn, .ref mma, .ref mwi, .ref mnu, .ref mmv])), (mwo, .inl (c_wo, 1875, .inl w_wo)), (mfg, .inl (c_fg, 12, .inl w_fg)), (mpl, .inl (c_pl, 26, .inl w_pl))] sz) := by
  refine Met.ofW (cc := cX10_isBy) (maxL := 6) (ret := (some .boolean)) pn_X10 rfl ?_
  intro p e s m args below meth c s₁ B hml hv
  obtain ⟨rfl, hsz, hP, hK, hD0, hN⟩ := hv
  have hx := B.exec
  have hb := B.bytes
  have hr := B.returns
  have hts := atoms_spec (ws := uX10_isBy) B.pre
  have hown : s.vm.findClass RX10 = some m.cls := hown_of B.named rfl
  have hlocks := B.notSynchronized
  subst hsz
  have hD := hD0.self (sz := s.heap.size)
  generalize hAe : va_A [(o0, .inr (8, [.int x_th, .ref mwo, .ref mim, .ref mhi, .ref mlu, .ref mtp, .int x_td, .ref mfv, .int x_sz, .int x_at, .int x_fr, .int x_to, .int x_va, .int x_fk, .int x_fp, .ref mfr, .ref mwt, .int x_wt, .int x_op, .int x_jo, .ref mfg, .ref mpl, .long x_dr, .ref mtm, .ref mfa, .ref mqu, .ref mmo, .ref mwy, .ref mwn, .ref mma, .ref mwi, .ref mnu, .ref mmv])), (mwo, .inl (c_wo, 1875, .inl w_wo)), (mfg, .inl (c_fg, 12, .inl w_fg)), (mpl, .inl (c_pl, 26, .inl w_pl))] s.heap.size = A at hD ⊢
  have hA : ∀ q : Nat, s.heap.size ≤ q → A q := fun q h => by rw [← hAe]; exact Or.inr h
  have hS : va_S A s.heap s.heap [] := va_S.rf
  have hP : va_P (dC, dI) vwCl [(o0, .inr (8, [.int x_th, .ref mwo, .ref mim, .ref mhi, .ref mlu, .ref mtp, .int x_td, .ref mfv, .int x_sz, .int x_at, .int x_fr, .int x_to, .int x_va, .int x_fk, .int x_fp, .ref mfr, .ref mwt, .int x_wt, .int x_op, .int x_jo, .ref mfg, .ref mpl, .long x_dr, .ref mtm, .ref mfa, .ref mqu, .ref mmo, .ref mwy, .ref mwn, .ref mma, .ref mwi, .ref mnu, .ref mmv])), (mwo, .inl (c_wo, 1875, .inl w_wo)), (mfg, .inl (c_fg, 12, .inl w_fg)), (mpl, .inl (c_pl, 26, .inl w_pl))] s.heap := hP
  have hl := lv_entry ([.ref o0, .int a1, .int a2]) (n := 6) (Nat.le_of_ble_eq_true rfl)
  rw [lg_entry_eq]
  generalize (lg_sl ([.ref o0, .int a1, .int a2]) ++ List.replicate (6 - (lg_sl ([.ref o0, .int a1, .int a2])).length) Slot.unset).toArray = ls at hl ⊢
  have hl : lv_has ls 6 [(0, .ref o0), (1, .int a1), (2, .int a2)] := hl
  obtain ⟨D, hb0, hb1, hb2, hd0, hdp⟩ := hpv a1.toInt.toNat (by omega)
  refine lv_iconst (v := 0) hx hb dX10_isBy_0 (by decide) ?_
  refine lv_istore_n (lv' := [(3, .int 0), (0, .ref o0), (1, .int a1), (2, .int a2)]) hx hb dX10_isBy_1 rfl hl (by decide) rfl (fun ls hl => ?_)
  refine lv_aload_n hx hb dX10_isBy_2 rfl (lv_at hl 1 rfl) ?_
  refine va_get (D := (dC, dI)) (ci := 8) (v := .ref mwo) (C := RX10) (T := TX10) (N := 33) hx hb hts iX10_isBy_X10 hown hK hP 0 rfl rfl 1 (by decide) (hts (.fieldLink RX10 9 "LuckyTicketModel" "world" "[I") (List.mem_of_getElem? (i := 1) rfl)) (fun _ h9 => h9) rfl dX10_isBy_3 ?_
  refine lv_iconst (v := 5) hx hb dX10_isBy_6 (by decide) ?_
  refine lv_iload_n hx hb dX10_isBy_7 rfl (lv_at hl 2 rfl) ?_
  refine lv_iadd hx hb dX10_isBy_8 ?_
  refine lv_topi (fun z_366 e_z_366 => ?_)
  obtain ⟨q_z_366, b_z_366⟩ := ti_add (lo := 5) (hi := 13) e_z_366 (by decide : (5 : Int32).toInt = 5) rfl (by decide : (5 : Int) ≤ (5 : Int32).toInt ∧ (5 : Int32).toInt ≤ 5) b_a1 (by decide)
  refine va_iald hx hb hK hP 1 0 rfl rfl (vp_in_b b_z_366 (by decide) (by decide)) dX10_isBy_9 ?_
  refine lv_topi (fun z_367 e_z_367 => ?_)
  have ei_z_367 : (z_366 : Int32).toNatClampNeg = 5 + a1.toInt.toNat := by show (z_366 : Int32).toInt.toNat = _; omega
  rw [ei_z_367] at e_z_367
  have qe_z_367 : z_367.toInt = (w_wo (5 + a1.toInt.toNat)).toInt := congrArg Int32.toInt e_z_367
  have b_z_367 : (0 : Int) ≤ z_367.toInt ∧ z_367.toInt ≤ 620 := ⟨by omega, by omega⟩
  refine lv_istore (lv' := [(4, .int z_367), (3, .int 0), (0, .ref o0), (1, .int a1), (2, .int a2)]) hx hb dX10_isBy_10 hl (by decide) rfl (fun ls hl => ?_)
  refine loopW (σ := Int32 × Int32 × (Nat → Int32)) (fun v => (620 - v.1.toInt).toNat) (fun v H locs ls => ((0 : Int) ≤ v.1.toInt ∧ v.1.toInt ≤ 620) ∧ ((0 : Int) ≤ v.2.1.toInt ∧ v.2.1.toInt ≤ 26) ∧ (rg v.2.2 26 0 1) ∧ (v.2.1.toInt = (D v.1.toInt.toNat : Int)) ∧ ((w_wo (5 + a1.toInt.toNat)).toInt ≤ v.1.toInt) ∧ va_P (dC, dI) vwCl [(o0, .inr (8, [.int x_th, .ref mwo, .ref mim, .ref mhi, .ref mlu, .ref mtp, .int x_td, .ref mfv, .int x_sz, .int x_at, .int x_fr, .int x_to, .int x_va, .int x_fk, .int x_fp, .ref mfr, .ref mwt, .int x_wt, .int x_op, .int x_jo, .ref mfg, .ref mpl, .long x_dr, .ref mtm, .ref mfa, .ref mqu, .ref mmo, .ref mwy, .ref mwn, .ref mma, .ref mwi, .ref mnu, .ref mmv])), (mwo, .inl (c_wo, 1875, .inl w_wo)), (mfg, .inl (c_fg, 12, .inl w_fg)), (mpl, .inl (c_pl, 26, .inl v.2.2))] H ∧ va_D A [(o0, .inr (8, [.int x_th, .ref mwo, .ref mim, .ref mhi, .ref mlu, .ref mtp, .int x_td, .ref mfv, .int x_sz, .int x_at, .int x_fr, .int x_to, .int x_va, .int x_fk, .int x_fp, .ref mfr, .ref mwt, .int x_wt, .int x_op, .int x_jo, .ref mfg, .ref mpl, .long x_dr, .ref mtm, .ref mfa, .ref mqu, .ref mmo, .ref mwy, .ref mwn, .ref mma, .ref mwi, .ref mnu, .ref mmv])), (mwo, .inl (c_wo, 1875, .inl w_wo)), (mfg, .inl (c_fg, 12, .inl w_fg)), (mpl, .inl (c_pl, 26, .inl v.2.2))] ∧ va_S A s.heap H locs ∧ lv_has ls 6 [(4, .int v.1), (3, .int v.2.1), (0, .ref o0), (1, .int a1), (2, .int a2)]) (fun v H locs ls hI ih_12_640 => ?_) (z_367, (0 : Int32), w_pl) ⟨(show (0 : Int) ≤ z_367.toInt ∧ z_367.toInt ≤ 620 from b_z_367), (show (0 : Int) ≤ (0 : Int32).toInt ∧ (0 : Int32).toInt ≤ 26 from (rg_w (by decide : (0 : Int) ≤ (0 : Int32).toInt ∧ (0 : Int32).toInt ≤ 0) (by decide) (by decide))), (show rg w_pl 26 0 1 from ha_mpl), (show (0 : Int32).toInt = (D z_367.toInt.toNat : Int) from (by have zl : (0 : Int32).toInt = 0 := (by decide); rw [qe_z_367, hd0]; rfl)), (show (w_wo (5 + a1.toInt.toNat)).toInt ≤ z_367.toInt from (by have zl : (0 : Int32).toInt = 0 := (by decide); omega)), hP, hD, hS, lv_sub hl [0, 1, 2, 3, 4] rfl⟩
  obtain ⟨y_458, y_459, f_460⟩ := v
  obtain ⟨b_y_458, b_y_459, ha_f_460, hp0, hp1, hP, hD, hS, hl⟩ := hI
  have b_y_458 : (0 : Int) ≤ y_458.toInt ∧ y_458.toInt ≤ 620 := b_y_458
  have b_y_459 : (0 : Int) ≤ y_459.toInt ∧ y_459.toInt ≤ 26 := b_y_459
  have ha_f_460 : rg f_460 26 0 1 := ha_f_460
  have hp0 : y_459.toInt = (D y_458.toInt.toNat : Int) := hp0
  have hp1 : (w_wo (5 + a1.toInt.toNat)).toInt ≤ y_458.toInt := hp1
  have hP : va_P (dC, dI) vwCl [(o0, .inr (8, [.int x_th, .ref mwo, .ref mim, .ref mhi, .ref mlu, .ref mtp, .int x_td, .ref mfv, .int x_sz, .int x_at, .int x_fr, .int x_to, .int x_va, .int x_fk, .int x_fp, .ref mfr, .ref mwt, .int x_wt, .int x_op, .int x_jo, .ref mfg, .ref mpl, .long x_dr, .ref mtm, .ref mfa, .ref mqu, .ref mmo, .ref mwy, .ref mwn, .ref mma, .ref mwi, .ref mnu, .ref mmv])), (mwo, .inl (c_wo, 1875, .inl w_wo)), (mfg, .inl (c_fg, 12, .inl w_fg)), (mpl, .inl (c_pl, 26, .inl f_460))] H := hP
  have hD : va_D A [(o0, .inr (8, [.int x_th, .ref mwo, .ref mim, .ref mhi, .ref mlu, .ref mtp, .int x_td, .ref mfv, .int x_sz, .int x_at, .int x_fr, .int x_to, .int x_va, .int x_fk, .int x_fp, .ref mfr, .ref mwt, .int x_wt, .int x_op, .int x_jo, .ref mfg, .ref mpl, .long x_dr, .ref mtm, .ref mfa, .ref mqu, .ref mmo, .ref mwy, .ref mwn, .ref mma, .ref mwi, .ref mnu, .ref mmv])), (mwo, .inl (c_wo, 1875, .inl w_wo)), (mfg, .inl (c_fg, 12, .inl w_fg)), (mpl, .inl (c_pl, 26, .inl f_460))] := hD
  have hl : lv_has ls 6 [(4, .int y_458), (3, .int y_459), (0, .ref o0), (1, .int a1), (2, .int a2)] := hl
  refine lv_iload hx hb dX10_isBy_12 (lv_at hl 0 rfl) ?_
  refine lv_aload_n hx hb dX10_isBy_14 rfl (lv_at hl 2 rfl) ?_
  refine va_get (D := (dC, dI)) (ci := 8) (v := .ref mwo) (C := RX10) (T := TX10) (N := 33) hx hb hts iX10_isBy_X10 hown hK hP 0 rfl rfl 1 (by decide) (hts (.fieldLink RX10 9 "LuckyTicketModel" "world" "[I") (List.mem_of_getElem? (i := 1) rfl)) (fun _ h9 => h9) rfl dX10_isBy_15 ?_
  refine lv_iconst (v := 5) hx hb dX10_isBy_18 (by decide) ?_
  refine lv_iload_n hx hb dX10_isBy_19 rfl (lv_at hl 3 rfl) ?_
  refine lv_iadd hx hb dX10_isBy_20 ?_
  refine lv_topi (fun z_641 e_z_641 => ?_)
  obtain ⟨q_z_641, b_z_641⟩ := ti_add (lo := 5) (hi := 13) e_z_641 (by decide : (5 : Int32).toInt = 5) rfl (by decide : (5 : Int) ≤ (5 : Int32).toInt ∧ (5 : Int32).toInt ≤ 5) b_a1 (by decide)
  refine lv_iconst (v := 1) hx hb dX10_isBy_21 (by decide) ?_
  refine lv_iadd hx hb dX10_isBy_22 ?_
  refine lv_topi (fun z_642 e_z_642 => ?_)
  obtain ⟨q_z_642, b_z_642⟩ := ti_add (lo := 6) (hi := 14) e_z_642 rfl (by decide : (1 : Int32).toInt = 1) b_z_641 (by decide : (1 : Int) ≤ (1 : Int32).toInt ∧ (1 : Int32).toInt ≤ 1) (by decide)
  refine va_iald hx hb hK hP 1 0 rfl rfl (vp_in_b b_z_642 (by decide) (by decide)) dX10_isBy_23 ?_
  refine lv_topi (fun z_643 e_z_643 => ?_)
  have ei_z_643 : (z_642 : Int32).toNatClampNeg = 6 + a1.toInt.toNat := by show (z_642 : Int32).toInt.toNat = _; omega
  rw [ei_z_643] at e_z_643
  have qe_z_643 : z_643.toInt = (w_wo (6 + a1.toInt.toNat)).toInt := congrArg Int32.toInt e_z_643
  have b_z_643 : (0 : Int) ≤ z_643.toInt ∧ z_643.toInt ≤ 620 := ⟨by omega, by omega⟩
  refine lv_icmp_ge (tgt := 185) hx hb dX10_isBy_24 (by decide) (fun c_644 => ?_) (fun c_644 => ?_)
  ·
    have n_c_644 : (z_643.toInt : Int) ≤ y_458.toInt := c_ge rfl rfl c_644
    refine lv_aload_n hx hb dX10_isBy_185 rfl (lv_at hl 2 rfl) ?_
    refine va_get (D := (dC, dI)) (ci := 8) (v := .ref mpl) (C := RX10) (T := TX10) (N := 33) hx hb hts iX10_isBy_X10 hown hK hP 0 rfl rfl 21 (by decide) (hts (.fieldLink RX10 43 "LuckyTicketModel" "pile" "[Z") (List.mem_of_getElem? (i := 2) rfl)) (fun _ h9 => h9) rfl dX10_isBy_186 ?_
    refine lv_iconst (v := 0) hx hb dX10_isBy_189 (by decide) ?_
    refine va_zald hx hb hK hP 3 2 rfl rfl (vp_in_b (by decide : (0 : Int) ≤ (0 : Int32).toInt ∧ (0 : Int32).toInt ≤ 0) (by decide) (by decide)) dX10_isBy_190 ?_
    refine lv_topi (fun z_645 e_z_645 => ?_)
    have b_z_645 : (0 : Int) ≤ z_645.toInt ∧ z_645.toInt ≤ 1 := rg_at ha_f_460 (vp_in_b (by decide : (0 : Int) ≤ (0 : Int32).toInt ∧ (0 : Int32).toInt ≤ 0) (by decide) (by decide)) e_z_645
    have hP9 := hP.sub (ws' := [(o0, .inr (8, [.int x_th, .ref mwo, .ref mim, .ref mhi, .ref mlu, .ref mtp, .int x_td, .ref mfv, .int x_sz, .int x_at, .int x_fr, .int x_to, .int x_va, .int x_fk, .int x_fp, .ref mfr, .ref mwt, .int x_wt, .int x_op, .int x_jo, .ref mfg, .ref mpl, .long x_dr, .ref mtm, .ref mfa, .ref mqu, .ref mmo, .ref mwy, .ref mwn, .ref mma, .ref mwi, .ref mnu, .ref mmv])), (mwo, .inl (c_wo, 1875, .inl w_wo)), (mfg, .inl (c_fg, 12, .inl w_fg)), (mpl, .inl (c_pl, 26, .inl f_460))]) [0, 1, 2, 3] rfl
    have hD9 := hD.sub (ws' := [(o0, .inr (8, [.int x_th, .ref mwo, .ref mim, .ref mhi, .ref mlu, .ref mtp, .int x_td, .ref mfv, .int x_sz, .int x_at, .int x_fr, .int x_to, .int x_va, .int x_fk, .int x_fp, .ref mfr, .ref mwt, .int x_wt, .int x_op, .int x_jo, .ref mfg, .ref mpl, .long x_dr, .ref mtm, .ref mfa, .ref mqu, .ref mmo, .ref mwy, .ref mwn, .ref mma, .ref mwi, .ref mnu, .ref mmv])), (mwo, .inl (c_wo, 1875, .inl w_wo)), (mfg, .inl (c_fg, 12, .inl w_fg)), (mpl, .inl (c_pl, 26, .inl f_460))]) [0, 1, 2, 3] (by decide) rfl
    have hK9 := hK.sub (tys' := [(c_wo, .int), (c_fg, .int), (c_pl, .boolean)]) [0, 1, 2] rfl
    exact W.zret (v := z_645) hx hb hr (zn_b b_z_645) (fun t ht hW => ⟨⟨z_645, (), rfl, b_z_645, f_460, ha_f_460, by rw [ht]; exact hP9, va_K.moved hW.alike hK9, hD9⟩, hS.F ht⟩) hS.2.2 dX10_isBy_191
  ·
    have n_c_644 : (y_458.toInt : Int) < z_643.toInt := c_nge rfl rfl c_644
    have b_y_458 : (0 : Int) ≤ y_458.toInt ∧ y_458.toInt ≤ 619 := r_lt1 b_y_458 b_z_643 n_c_644 (by decide)
    have b_z_643 : (1 : Int) ≤ z_643.toInt ∧ z_643.toInt ≤ 620 := r_lt2 b_y_458 b_z_643 n_c_644 (by decide)
    refine lv_aload_n hx hb dX10_isBy_27 rfl (lv_at hl 2 rfl) ?_
    refine va_get (D := (dC, dI)) (ci := 8) (v := .ref mwo) (C := RX10) (T := TX10) (N := 33) hx hb hts iX10_isBy_X10 hown hK hP 0 rfl rfl 1 (by decide) (hts (.fieldLink RX10 9 "LuckyTicketModel" "world" "[I") (List.mem_of_getElem? (i := 1) rfl)) (fun _ h9 => h9) rfl dX10_isBy_28 ?_
    refine lv_bipush (v := 15) hx hb dX10_isBy_31 (by decide) ?_
    refine lv_iconst (v := 3) hx hb dX10_isBy_33 (by decide) ?_
    refine lv_iload hx hb dX10_isBy_34 (lv_at hl 0 rfl) ?_
    refine lv_imul hx hb dX10_isBy_36 ?_
    refine lv_topi (fun z_646 e_z_646 => ?_)
    obtain ⟨q_z_646, b_z_646⟩ := ti_mul (lo := 0) (hi := 1857) e_z_646 (by decide : (3 : Int32).toInt = 3) rfl (by decide : (3 : Int) ≤ (3 : Int32).toInt ∧ (3 : Int32).toInt ≤ 3) b_y_458 (by decide)
    refine lv_iadd hx hb dX10_isBy_37 ?_
    refine lv_topi (fun z_647 e_z_647 => ?_)
    obtain ⟨q_z_647, b_z_647⟩ := ti_add (lo := 15) (hi := 1872) e_z_647 (by decide : (15 : Int32).toInt = 15) rfl (by decide : (15 : Int) ≤ (15 : Int32).toInt ∧ (15 : Int32).toInt ≤ 15) b_z_646 (by decide)
    refine va_iald hx hb hK hP 1 0 rfl rfl (vp_in_b b_z_647 (by decide) (by decide)) dX10_isBy_38 ?_
    refine lv_topi (fun z_648 e_z_648 => ?_)
    have ei_z_648 : (z_647 : Int32).toNatClampNeg = 15 + 3 * y_458.toInt.toNat := by show (z_647 : Int32).toInt.toNat = _; omega
    rw [ei_z_648] at e_z_648
    have qe_z_648 : z_648.toInt = (w_wo (15 + 3 * y_458.toInt.toNat)).toInt := congrArg Int32.toInt e_z_648
    obtain ⟨s1, s2, s3, s4⟩ := hdp y_458.toInt.toNat (by omega) (by omega)
    rw [← e_z_648] at s1 s2 s3
    refine lv_istore (lv' := [(5, .int z_648), (4, .int y_458), (3, .int y_459), (0, .ref o0), (1, .int a1), (2, .int a2)]) hx hb dX10_isBy_39 hl (by decide) rfl (fun ls hl => ?_)
    refine lv_iload hx hb dX10_isBy_41 (lv_at hl 0 rfl) ?_
    refine lv_bipush (v := 9) hx hb dX10_isBy_43 (by decide) ?_
    refine cutW (σ := Int32 × (Nat → Int32)) (pc2 := 179) (st2 := fun v => []) (cells2 := 0) (slots2 := 0) (fun v H locs ls => ((-1 : Int) ≤ v.1.toInt ∧ v.1.toInt ≤ 27) ∧ (rg v.2 26 0 1) ∧ (v.1.toInt = (D (y_458.toInt.toNat + 1) : Int)) ∧ va_P (dC, dI) vwCl [(o0, .inr (8, [.int x_th, .ref mwo, .ref mim, .ref mhi, .ref mlu, .ref mtp, .int x_td, .ref mfv, .int x_sz, .int x_at, .int x_fr, .int x_to, .int x_va, .int x_fk, .int x_fp, .ref mfr, .ref mwt, .int x_wt, .int x_op, .int x_jo, .ref mfg, .ref mpl, .long x_dr, .ref mtm, .ref mfa, .ref mqu, .ref mmo, .ref mwy, .ref mwn, .ref mma, .ref mwi, .ref mnu, .ref mmv])), (mwo, .inl (c_wo, 1875, .inl w_wo)), (mfg, .inl (c_fg, 12, .inl w_fg)), (mpl, .inl (c_pl, 26, .inl v.2))] H ∧ va_D A [(o0, .inr (8, [.int x_th, .ref mwo, .ref mim, .ref mhi, .ref mlu, .ref mtp, .int x_td, .ref mfv, .int x_sz, .int x_at, .int x_fr, .int x_to, .int x_va, .int x_fk, .int x_fp, .ref mfr, .ref mwt, .int x_wt, .int x_op, .int x_jo, .ref mfg, .ref mpl, .long x_dr, .ref mtm, .ref mfa, .ref mqu, .ref mmo, .ref mwy, .ref mwn, .ref mma, .ref mwi, .ref mnu, .ref mmv])), (mwo, .inl (c_wo, 1875, .inl w_wo)), (mfg, .inl (c_fg, 12, .inl w_fg)), (mpl, .inl (c_pl, 26, .inl v.2))] ∧ va_S A s.heap H locs ∧ lv_has ls 6 [(3, .int v.1), (5, .int z_648), (4, .int y_458), (0, .ref o0), (1, .int a1), (2, .int a2)]) (fun v H locs ls hI => ?_) (fun hj_179_690 => ?_)
    ·
      obtain ⟨y_689, f_690⟩ := v
      obtain ⟨b_y_689, ha_f_690, hj9, hP, hD, hS, hl⟩ := hI
      have b_y_689 : (-1 : Int) ≤ y_689.toInt ∧ y_689.toInt ≤ 27 := b_y_689
      have ha_f_690 : rg f_690 26 0 1 := ha_f_690
      have hj9 : y_689.toInt = (D (y_458.toInt.toNat + 1) : Int) := hj9
      have hP : va_P (dC, dI) vwCl [(o0, .inr (8, [.int x_th, .ref mwo, .ref mim, .ref mhi, .ref mlu, .ref mtp, .int x_td, .ref mfv, .int x_sz, .int x_at, .int x_fr, .int x_to, .int x_va, .int x_fk, .int x_fp, .ref mfr, .ref mwt, .int x_wt, .int x_op, .int x_jo, .ref mfg, .ref mpl, .long x_dr, .ref mtm, .ref mfa, .ref mqu, .ref mmo, .ref mwy, .ref mwn, .ref mma, .ref mwi, .ref mnu, .ref mmv])), (mwo, .inl (c_wo, 1875, .inl w_wo)), (mfg, .inl (c_fg, 12, .inl w_fg)), (mpl, .inl (c_pl, 26, .inl f_690))] H := hP
      have hD : va_D A [(o0, .inr (8, [.int x_th, .ref mwo, .ref mim, .ref mhi, .ref mlu, .ref mtp, .int x_td, .ref mfv, .int x_sz, .int x_at, .int x_fr, .int x_to, .int x_va, .int x_fk, .int x_fp, .ref mfr, .ref mwt, .int x_wt, .int x_op, .int x_jo, .ref mfg, .ref mpl, .long x_dr, .ref mtm, .ref mfa, .ref mqu, .ref mmo, .ref mwy, .ref mwn, .ref mma, .ref mwi, .ref mnu, .ref mmv])), (mwo, .inl (c_wo, 1875, .inl w_wo)), (mfg, .inl (c_fg, 12, .inl w_fg)), (mpl, .inl (c_pl, 26, .inl f_690))] := hD
      have hl : lv_has ls 6 [(3, .int y_689), (5, .int z_648), (4, .int y_458), (0, .ref o0), (1, .int a1), (2, .int a2)] := hl
      obtain ⟨z_691, e_z_691⟩ : ∃ y : Int32, y = y_458 + 1 := ⟨_, rfl⟩
      refine lv_iinc (v := z_691) (lv' := [(4, .int z_691), (3, .int y_689), (5, .int z_648), (0, .ref o0), (1, .int a1), (2, .int a2)]) hx hb dX10_isBy_179 hl (k := 2) rfl (by rw [e_z_691]; rfl) (by decide) rfl (fun ls hl => ?_)
      obtain ⟨q_z_691, b_z_691⟩ := ti_add (lo := 1) (hi := 620) e_z_691 rfl (by decide : (1 : Int32).toInt = 1) b_y_458 (by decide : (1 : Int) ≤ (1 : Int32).toInt ∧ (1 : Int32).toInt ≤ 1) (by decide)
      refine lv_goto (tgt := 12) hx hb dX10_isBy_182 (by decide) ?_
      exact ih_12_640 (z_691, y_689, f_690) _ _ _ ⟨(show (0 : Int) ≤ z_691.toInt ∧ z_691.toInt ≤ 620 from (rg_w b_z_691 (by decide) (by decide))), (show (0 : Int) ≤ y_689.toInt ∧ y_689.toInt ≤ 26 from ⟨by omega, by omega⟩), (show rg f_690 26 0 1 from ha_f_690), (show y_689.toInt = (D z_691.toInt.toNat : Int) from (by rw [show z_691.toInt.toNat = y_458.toInt.toNat + 1 from by omega]; omega)), (show (w_wo (5 + a1.toInt.toNat)).toInt ≤ z_691.toInt from (by omega)), hP, hD, hS, lv_sub hl [0, 1, 3, 4, 5] rfl⟩ (show (620 - z_691.toInt).toNat < (620 - y_458.toInt).toNat by omega)
    ·
      refine lv_icmp_ne (tgt := 75) hx hb dX10_isBy_45 (by decide) (fun c_649 => ?_) (fun c_649 => ?_)
      ·
        have n_c_649 : (z_648.toInt : Int) ≠ 9 := c_ne rfl (by decide) c_649
        refine lv_iload hx hb dX10_isBy_75 (lv_at hl 0 rfl) ?_
        refine lv_bipush (v := 10) hx hb dX10_isBy_77 (by decide) ?_
        refine lv_icmp_eq (tgt := 89) hx hb dX10_isBy_79 (by decide) (fun c_692 => ?_) (fun c_692 => ?_)
        ·
          have n_c_692 : (z_648.toInt : Int) = 10 := c_eq rfl (by decide) c_692
          have b_z_648 : (10 : Int) ≤ z_648.toInt ∧ z_648.toInt ≤ 10 := r_eq1 (ti_rng z_648) (by decide : (10 : Int) ≤ (10 : Int32).toInt ∧ (10 : Int32).toInt ≤ 10) n_c_692 (by decide)
          obtain ⟨z_693, e_z_693⟩ : ∃ y : Int32, y = y_459 + (-1) := ⟨_, rfl⟩
          refine lv_iinc (v := z_693) (lv' := [(3, .int z_693), (5, .int z_648), (4, .int y_458), (0, .ref o0), (1, .int a1), (2, .int a2)]) hx hb dX10_isBy_89 hl (k := 2) rfl (by rw [e_z_693]; rfl) (by decide) rfl (fun ls hl => ?_)
          obtain ⟨q_z_693, b_z_693⟩ := ti_add (lo := -1) (hi := 25) e_z_693 rfl (by decide : ((-1) : Int32).toInt = -1) b_y_459 (by decide : (-1 : Int) ≤ ((-1) : Int32).toInt ∧ ((-1) : Int32).toInt ≤ -1) (by decide)
          refine lv_aload_n hx hb dX10_isBy_92 rfl (lv_at hl 3 rfl) ?_
          refine va_get (D := (dC, dI)) (ci := 8) (v := .ref mpl) (C := RX10) (T := TX10) (N := 33) hx hb hts iX10_isBy_X10 hown hK hP 0 rfl rfl 21 (by decide) (hts (.fieldLink RX10 43 "LuckyTicketModel" "pile" "[Z") (List.mem_of_getElem? (i := 2) rfl)) (fun _ h9 => h9) rfl dX10_isBy_93 ?_
          refine lv_iload_n hx hb dX10_isBy_96 rfl (lv_at hl 0 rfl) ?_
          refine lv_iconst (v := 1) hx hb dX10_isBy_97 (by decide) ?_
          refine lv_isub hx hb dX10_isBy_98 ?_
          refine lv_topi (fun z_694 e_z_694 => ?_)
          obtain ⟨q_z_694, b_z_694⟩ := ti_sub (lo := -2) (hi := 24) e_z_694 rfl (by decide : (1 : Int32).toInt = 1) b_z_693 (by decide : (1 : Int) ≤ (1 : Int32).toInt ∧ (1 : Int32).toInt ≤ 1) (by decide)
          refine lv_iload hx hb dX10_isBy_99 (lv_at hl 1 rfl) ?_
          refine lv_bipush (v := 10) hx hb dX10_isBy_101 (by decide) ?_
          refine lv_icmp_ne (tgt := 134) hx hb dX10_isBy_103 (by decide) (fun c_695 => absurd (show (z_648.toInt : Int) ≠ 10 from c_ne rfl (by decide) c_695) (by have q1 := b_z_648; have q2 := (by decide : (10 : Int) ≤ (10 : Int32).toInt ∧ (10 : Int32).toInt ≤ 10); omega)) (fun c_695 => ?_)
          refine lv_aload_n hx hb dX10_isBy_106 rfl (lv_at hl 3 rfl) ?_
          refine va_get (D := (dC, dI)) (ci := 8) (v := .ref mpl) (C := RX10) (T := TX10) (N := 33) hx hb hts iX10_isBy_X10 hown hK hP 0 rfl rfl 21 (by decide) (hts (.fieldLink RX10 43 "LuckyTicketModel" "pile" "[Z") (List.mem_of_getElem? (i := 2) rfl)) (fun _ h9 => h9) rfl dX10_isBy_107 ?_
          refine lv_iload_n hx hb dX10_isBy_110 rfl (lv_at hl 0 rfl) ?_
          refine lv_iconst (v := 1) hx hb dX10_isBy_111 (by decide) ?_
          refine lv_isub hx hb dX10_isBy_112 ?_
          refine lv_topi (fun z_696 e_z_696 => ?_)
          obtain ⟨q_z_696, b_z_696⟩ := ti_sub (lo := -2) (hi := 24) e_z_696 rfl (by decide : (1 : Int32).toInt = 1) b_z_693 (by decide : (1 : Int) ≤ (1 : Int32).toInt ∧ (1 : Int32).toInt ≤ 1) (by decide)
          refine va_zald hx hb hK hP 3 2 rfl rfl (vp_in_iff.mpr ⟨by omega, by omega⟩) dX10_isBy_113 ?_
          refine lv_topi (fun z_697 e_z_697 => ?_)
          have b_z_697 : (0 : Int) ≤ z_697.toInt ∧ z_697.toInt ≤ 1 := rg_at ha_f_460 (vp_in_iff.mpr ⟨by omega, by omega⟩) e_z_697
          refine cutW (σ := Int32) (pc2 := 159) (st2 := fun v => [.int v, .int z_694, .ref mpl]) (cells2 := 0) (slots2 := 0) (fun v H locs ls => ((0 : Int) ≤ v.toInt ∧ v.toInt ≤ 1) ∧ va_P (dC, dI) vwCl [(o0, .inr (8, [.int x_th, .ref mwo, .ref mim, .ref mhi, .ref mlu, .ref mtp, .int x_td, .ref mfv, .int x_sz, .int x_at, .int x_fr, .int x_to, .int x_va, .int x_fk, .int x_fp, .ref mfr, .ref mwt, .int x_wt, .int x_op, .int x_jo, .ref mfg, .ref mpl, .long x_dr, .ref mtm, .ref mfa, .ref mqu, .ref mmo, .ref mwy, .ref mwn, .ref mma, .ref mwi, .ref mnu, .ref mmv])), (mwo, .inl (c_wo, 1875, .inl w_wo)), (mfg, .inl (c_fg, 12, .inl w_fg)), (mpl, .inl (c_pl, 26, .inl f_460))] H ∧ va_D A [(o0, .inr (8, [.int x_th, .ref mwo, .ref mim, .ref mhi, .ref mlu, .ref mtp, .int x_td, .ref mfv, .int x_sz, .int x_at, .int x_fr, .int x_to, .int x_va, .int x_fk, .int x_fp, .ref mfr, .ref mwt, .int x_wt, .int x_op, .int x_jo, .ref mfg, .ref mpl, .long x_dr, .ref mtm, .ref mfa, .ref mqu, .ref mmo, .ref mwy, .ref mwn, .ref mma, .ref mwi, .ref mnu, .ref mmv])), (mwo, .inl (c_wo, 1875, .inl w_wo)), (mfg, .inl (c_fg, 12, .inl w_fg)), (mpl, .inl (c_pl, 26, .inl f_460))] ∧ va_S A s.heap H locs ∧ lv_has ls 6 [(3, .int z_693), (5, .int z_648), (4, .int y_458), (0, .ref o0), (1, .int a1), (2, .int a2)]) (fun v H locs ls hI => ?_) (fun hj_159_701 => ?_)
          ·
            obtain ⟨y_701, rfl⟩ : ∃ z, z = v := ⟨_, rfl⟩
            obtain ⟨b_y_701, hP, hD, hS, hl⟩ := hI
            have b_y_701 : (0 : Int) ≤ y_701.toInt ∧ y_701.toInt ≤ 1 := b_y_701
            have hP : va_P (dC, dI) vwCl [(o0, .inr (8, [.int x_th, .ref mwo, .ref mim, .ref mhi, .ref mlu, .ref mtp, .int x_td, .ref mfv, .int x_sz, .int x_at, .int x_fr, .int x_to, .int x_va, .int x_fk, .int x_fp, .ref mfr, .ref mwt, .int x_wt, .int x_op, .int x_jo, .ref mfg, .ref mpl, .long x_dr, .ref mtm, .ref mfa, .ref mqu, .ref mmo, .ref mwy, .ref mwn, .ref mma, .ref mwi, .ref mnu, .ref mmv])), (mwo, .inl (c_wo, 1875, .inl w_wo)), (mfg, .inl (c_fg, 12, .inl w_fg)), (mpl, .inl (c_pl, 26, .inl f_460))] H := hP
            have hD : va_D A [(o0, .inr (8, [.int x_th, .ref mwo, .ref mim, .ref mhi, .ref mlu, .ref mtp, .int x_td, .ref mfv, .int x_sz, .int x_at, .int x_fr, .int x_to, .int x_va, .int x_fk, .int x_fp, .ref mfr, .ref mwt, .int x_wt, .int x_op, .int x_jo, .ref mfg, .ref mpl, .long x_dr, .ref mtm, .ref mfa, .ref mqu, .ref mmo, .ref mwy, .ref mwn, .ref mma, .ref mwi, .ref mnu, .ref mmv])), (mwo, .inl (c_wo, 1875, .inl w_wo)), (mfg, .inl (c_fg, 12, .inl w_fg)), (mpl, .inl (c_pl, 26, .inl f_460))] := hD
            have hl : lv_has ls 6 [(3, .int z_693), (5, .int z_648), (4, .int y_458), (0, .ref o0), (1, .int a1), (2, .int a2)] := hl
            refine va_zast hx hb hK hP hD hS 3 2 rfl rfl (vp_in_iff.mpr ⟨by omega, by omega⟩) dX10_isBy_159 (fun H locs hP hD hS => ?_)
            have hP : va_P (dC, dI) vwCl [(o0, .inr (8, [.int x_th, .ref mwo, .ref mim, .ref mhi, .ref mlu, .ref mtp, .int x_td, .ref mfv, .int x_sz, .int x_at, .int x_fr, .int x_to, .int x_va, .int x_fk, .int x_fp, .ref mfr, .ref mwt, .int x_wt, .int x_op, .int x_jo, .ref mfg, .ref mpl, .long x_dr, .ref mtm, .ref mfa, .ref mqu, .ref mmo, .ref mwy, .ref mwn, .ref mma, .ref mwi, .ref mnu, .ref mmv])), (mwo, .inl (c_wo, 1875, .inl w_wo)), (mfg, .inl (c_fg, 12, .inl w_fg)), (mpl, .inl (c_pl, 26, .inl (upd f_460 (z_694 : Int32).toNatClampNeg (vp_nar .boolean y_701))))] H := hP
            have hD : va_D A [(o0, .inr (8, [.int x_th, .ref mwo, .ref mim, .ref mhi, .ref mlu, .ref mtp, .int x_td, .ref mfv, .int x_sz, .int x_at, .int x_fr, .int x_to, .int x_va, .int x_fk, .int x_fp, .ref mfr, .ref mwt, .int x_wt, .int x_op, .int x_jo, .ref mfg, .ref mpl, .long x_dr, .ref mtm, .ref mfa, .ref mqu, .ref mmo, .ref mwy, .ref mwn, .ref mma, .ref mwi, .ref mnu, .ref mmv])), (mwo, .inl (c_wo, 1875, .inl w_wo)), (mfg, .inl (c_fg, 12, .inl w_fg)), (mpl, .inl (c_pl, 26, .inl (upd f_460 (z_694 : Int32).toNatClampNeg (vp_nar .boolean y_701))))] := hD
            have ha_703 : rg (upd f_460 (z_694 : Int32).toNatClampNeg (vp_nar .boolean y_701)) 26 0 1 := rg_upd ha_f_460 (nar_b _)
            generalize (upd f_460 (z_694 : Int32).toNatClampNeg (vp_nar .boolean y_701)) = f_702 at hP hD ha_703
            have hP : va_P (dC, dI) vwCl [(o0, .inr (8, [.int x_th, .ref mwo, .ref mim, .ref mhi, .ref mlu, .ref mtp, .int x_td, .ref mfv, .int x_sz, .int x_at, .int x_fr, .int x_to, .int x_va, .int x_fk, .int x_fp, .ref mfr, .ref mwt, .int x_wt, .int x_op, .int x_jo, .ref mfg, .ref mpl, .long x_dr, .ref mtm, .ref mfa, .ref mqu, .ref mmo, .ref mwy, .ref mwn, .ref mma, .ref mwi, .ref mnu, .ref mmv])), (mwo, .inl (c_wo, 1875, .inl w_wo)), (mfg, .inl (c_fg, 12, .inl w_fg)), (mpl, .inl (c_pl, 26, .inl f_702))] H := hP
            have hD : va_D A [(o0, .inr (8, [.int x_th, .ref mwo, .ref mim, .ref mhi, .ref mlu, .ref mtp, .int x_td, .ref mfv, .int x_sz, .int x_at, .int x_fr, .int x_to, .int x_va, .int x_fk, .int x_fp, .ref mfr, .ref mwt, .int x_wt, .int x_op, .int x_jo, .ref mfg, .ref mpl, .long x_dr, .ref mtm, .ref mfa, .ref mqu, .ref mmo, .ref mwy, .ref mwn, .ref mma, .ref mwi, .ref mnu, .ref mmv])), (mwo, .inl (c_wo, 1875, .inl w_wo)), (mfg, .inl (c_fg, 12, .inl w_fg)), (mpl, .inl (c_pl, 26, .inl f_702))] := hD
            refine lv_goto (tgt := 179) hx hb dX10_isBy_160 (by decide) ?_
            exact hj_179_690 (z_693, f_702) _ _ _ ⟨(show (-1 : Int) ≤ z_693.toInt ∧ z_693.toInt ≤ 27 from (rg_w b_z_693 (by decide) (by decide))), (show rg f_702 26 0 1 from ha_703), (show z_693.toInt = (D (y_458.toInt.toNat + 1) : Int) from (by omega)), hP, hD, hS, lv_sub hl [0, 1, 2, 3, 4, 5] rfl⟩
          ·
            refine lv_if_eq (tgt := 130) hx hb dX10_isBy_114 (by decide) (fun c_698 => ?_) (fun c_698 => ?_)
            ·
              have n_c_698 : (z_697.toInt : Int) = 0 := c_eq rfl (by decide) c_698
              have b_z_697 : (0 : Int) ≤ z_697.toInt ∧ z_697.toInt ≤ 0 := r_eq1 b_z_697 (by decide : (0 : Int) ≤ (0 : Int32).toInt ∧ (0 : Int32).toInt ≤ 0) n_c_698 (by decide)
              refine lv_iconst (v := 0) hx hb dX10_isBy_130 (by decide) ?_
              refine lv_goto (tgt := 159) hx hb dX10_isBy_131 (by decide) ?_
              exact hj_159_701 (0 : Int32) _ _ _ ⟨(show (0 : Int) ≤ (0 : Int32).toInt ∧ (0 : Int32).toInt ≤ 1 from (rg_w (by decide : (0 : Int) ≤ (0 : Int32).toInt ∧ (0 : Int32).toInt ≤ 0) (by decide) (by decide))), hP, hD, hS, lv_sub hl [0, 1, 2, 3, 4, 5] rfl⟩
            ·
              have n_c_698 : (z_697.toInt : Int) ≠ 0 := c_ne rfl (by decide) c_698
              have b_z_697 : (1 : Int) ≤ z_697.toInt ∧ z_697.toInt ≤ 1 := r_ne1 b_z_697 (by decide : (0 : Int) ≤ (0 : Int32).toInt ∧ (0 : Int32).toInt ≤ 0) n_c_698 (by decide)
              refine lv_aload_n hx hb dX10_isBy_117 rfl (lv_at hl 3 rfl) ?_
              refine va_get (D := (dC, dI)) (ci := 8) (v := .ref mpl) (C := RX10) (T := TX10) (N := 33) hx hb hts iX10_isBy_X10 hown hK hP 0 rfl rfl 21 (by decide) (hts (.fieldLink RX10 43 "LuckyTicketModel" "pile" "[Z") (List.mem_of_getElem? (i := 2) rfl)) (fun _ h9 => h9) rfl dX10_isBy_118 ?_
              refine lv_iload_n hx hb dX10_isBy_121 rfl (lv_at hl 0 rfl) ?_
              refine va_zald hx hb hK hP 3 2 rfl rfl (vp_in_iff.mpr ⟨by omega, by omega⟩) dX10_isBy_122 ?_
              refine lv_topi (fun z_704 e_z_704 => ?_)
              have b_z_704 : (0 : Int) ≤ z_704.toInt ∧ z_704.toInt ≤ 1 := rg_at ha_f_460 (vp_in_iff.mpr ⟨by omega, by omega⟩) e_z_704
              refine lv_if_eq (tgt := 130) hx hb dX10_isBy_123 (by decide) (fun c_705 => ?_) (fun c_705 => ?_)
              ·
                have n_c_705 : (z_704.toInt : Int) = 0 := c_eq rfl (by decide) c_705
                have b_z_704 : (0 : Int) ≤ z_704.toInt ∧ z_704.toInt ≤ 0 := r_eq1 b_z_704 (by decide : (0 : Int) ≤ (0 : Int32).toInt ∧ (0 : Int32).toInt ≤ 0) n_c_705 (by decide)
                refine lv_iconst (v := 0) hx hb dX10_isBy_130 (by decide) ?_
                refine lv_goto (tgt := 159) hx hb dX10_isBy_131 (by decide) ?_
                exact hj_159_701 (0 : Int32) _ _ _ ⟨(show (0 : Int) ≤ (0 : Int32).toInt ∧ (0 : Int32).toInt ≤ 1 from (rg_w (by decide : (0 : Int) ≤ (0 : Int32).toInt ∧ (0 : Int32).toInt ≤ 0) (by decide) (by decide))), hP, hD, hS, lv_sub hl [0, 1, 2, 3, 4, 5] rfl⟩
              ·
                have n_c_705 : (z_704.toInt : Int) ≠ 0 := c_ne rfl (by decide) c_705
                have b_z_704 : (1 : Int) ≤ z_704.toInt ∧ z_704.toInt ≤ 1 := r_ne1 b_z_704 (by decide : (0 : Int) ≤ (0 : Int32).toInt ∧ (0 : Int32).toInt ≤ 0) n_c_705 (by decide)
                refine lv_iconst (v := 1) hx hb dX10_isBy_126 (by decide) ?_
                refine lv_goto (tgt := 159) hx hb dX10_isBy_127 (by decide) ?_
                exact hj_159_701 (1 : Int32) _ _ _ ⟨(show (0 : Int) ≤ (1 : Int32).toInt ∧ (1 : Int32).toInt ≤ 1 from (rg_w (by decide : (1 : Int) ≤ (1 : Int32).toInt ∧ (1 : Int32).toInt ≤ 1) (by decide) (by decide))), hP, hD, hS, lv_sub hl [0, 1, 2, 3, 4, 5] rfl⟩
        ·
          have n_c_692 : (z_648.toInt : Int) ≠ 10 := c_ne rfl (by decide) c_692
          refine lv_iload hx hb dX10_isBy_82 (lv_at hl 0 rfl) ?_
          refine lv_bipush (v := 11) hx hb dX10_isBy_84 (by decide) ?_
          refine lv_icmp_ne (tgt := 163) hx hb dX10_isBy_86 (by decide) (fun c_706 => ?_) (fun c_706 => ?_)
          ·
            have n_c_706 : (z_648.toInt : Int) ≠ 11 := c_ne rfl (by decide) c_706
            refine lv_aload_n hx hb dX10_isBy_163 rfl (lv_at hl 3 rfl) ?_
            refine va_get (D := (dC, dI)) (ci := 8) (v := .ref mpl) (C := RX10) (T := TX10) (N := 33) hx hb hts iX10_isBy_X10 hown hK hP 0 rfl rfl 21 (by decide) (hts (.fieldLink RX10 43 "LuckyTicketModel" "pile" "[Z") (List.mem_of_getElem? (i := 2) rfl)) (fun _ h9 => h9) rfl dX10_isBy_164 ?_
            refine lv_iload_n hx hb dX10_isBy_167 rfl (lv_at hl 2 rfl) ?_
            refine lv_aload_n hx hb dX10_isBy_168 rfl (lv_at hl 3 rfl) ?_
            refine lv_iload hx hb dX10_isBy_169 (lv_at hl 1 rfl) ?_
            refine lv_iload_n hx hb dX10_isBy_171 rfl (lv_at hl 5 rfl) ?_
            refine vp_callSi (W.runV (As := [.int y_458, .int a2]) (rest := [.int y_459, .ref mpl]) ⟨hx, hb, hml, hown, hts⟩ (kX10_holds l dC dI o0 x_th mwo mim mhi mlu mtp x_td mfv x_sz x_at x_fr x_to x_va x_fk x_fp mfr mwt x_wt x_op x_jo mfg mpl x_dr mtm mfa mqu mmo mwy mwn mma mwi mnu mmv c_wo c_fg w_wo w_fg ln bs tk lw li y_458 a2 b_ln b_bs b_tk b_lw b_y_458 ha_mfg (hw0) (hw1) (hw2) (hw3) (hw4) (hwz) (s4)) (cwV 2 hts gX10_isBy__X10_holds_V298 rfl rfl rfl hd_yX10_holds ⟨lel 3 3 rfl, lel 64 64 rfl⟩) ⟨pw_fb, rcv_X10 hK hP (q0 := 0) rfl, (pw_use hP hK hN [0, 1, 2] rfl [0, 1] rfl)⟩ rfl rfl hl.1 rfl (lv_room (Nat.le_of_ble_eq_true rfl)) dX10_isBy_172 ⟨lel 0 0 rfl, lel 0 0 rfl⟩) (fun r_707 h_r_707 => ?_)
            have b_r_707 := h_r_707
            have b_r_707 : (0 : Int) ≤ r_707.toInt ∧ r_707.toInt ≤ 1 := b_r_707
            refine va_zast hx hb hK hP hD hS 3 2 rfl rfl (vp_in_iff.mpr ⟨by omega, by omega⟩) dX10_isBy_175 (fun H locs hP hD hS => ?_)
            have hP : va_P (dC, dI) vwCl [(o0, .inr (8, [.int x_th, .ref mwo, .ref mim, .ref mhi, .ref mlu, .ref mtp, .int x_td, .ref mfv, .int x_sz, .int x_at, .int x_fr, .int x_to, .int x_va, .int x_fk, .int x_fp, .ref mfr, .ref mwt, .int x_wt, .int x_op, .int x_jo, .ref mfg, .ref mpl, .long x_dr, .ref mtm, .ref mfa, .ref mqu, .ref mmo, .ref mwy, .ref mwn, .ref mma, .ref mwi, .ref mnu, .ref mmv])), (mwo, .inl (c_wo, 1875, .inl w_wo)), (mfg, .inl (c_fg, 12, .inl w_fg)), (mpl, .inl (c_pl, 26, .inl (upd f_460 (y_459 : Int32).toNatClampNeg (vp_nar .boolean r_707))))] H := hP
            have hD : va_D A [(o0, .inr (8, [.int x_th, .ref mwo, .ref mim, .ref mhi, .ref mlu, .ref mtp, .int x_td, .ref mfv, .int x_sz, .int x_at, .int x_fr, .int x_to, .int x_va, .int x_fk, .int x_fp, .ref mfr, .ref mwt, .int x_wt, .int x_op, .int x_jo, .ref mfg, .ref mpl, .long x_dr, .ref mtm, .ref mfa, .ref mqu, .ref mmo, .ref mwy, .ref mwn, .ref mma, .ref mwi, .ref mnu, .ref mmv])), (mwo, .inl (c_wo, 1875, .inl w_wo)), (mfg, .inl (c_fg, 12, .inl w_fg)), (mpl, .inl (c_pl, 26, .inl (upd f_460 (y_459 : Int32).toNatClampNeg (vp_nar .boolean r_707))))] := hD
            have ha_709 : rg (upd f_460 (y_459 : Int32).toNatClampNeg (vp_nar .boolean r_707)) 26 0 1 := rg_upd ha_f_460 (nar_b _)
            generalize (upd f_460 (y_459 : Int32).toNatClampNeg (vp_nar .boolean r_707)) = f_708 at hP hD ha_709
            have hP : va_P (dC, dI) vwCl [(o0, .inr (8, [.int x_th, .ref mwo, .ref mim, .ref mhi, .ref mlu, .ref mtp, .int x_td, .ref mfv, .int x_sz, .int x_at, .int x_fr, .int x_to, .int x_va, .int x_fk, .int x_fp, .ref mfr, .ref mwt, .int x_wt, .int x_op, .int x_jo, .ref mfg, .ref mpl, .long x_dr, .ref mtm, .ref mfa, .ref mqu, .ref mmo, .ref mwy, .ref mwn, .ref mma, .ref mwi, .ref mnu, .ref mmv])), (mwo, .inl (c_wo, 1875, .inl w_wo)), (mfg, .inl (c_fg, 12, .inl w_fg)), (mpl, .inl (c_pl, 26, .inl f_708))] H := hP
            have hD : va_D A [(o0, .inr (8, [.int x_th, .ref mwo, .ref mim, .ref mhi, .ref mlu, .ref mtp, .int x_td, .ref mfv, .int x_sz, .int x_at, .int x_fr, .int x_to, .int x_va, .int x_fk, .int x_fp, .ref mfr, .ref mwt, .int x_wt, .int x_op, .int x_jo, .ref mfg, .ref mpl, .long x_dr, .ref mtm, .ref mfa, .ref mqu, .ref mmo, .ref mwy, .ref mwn, .ref mma, .ref mwi, .ref mnu, .ref mmv])), (mwo, .inl (c_wo, 1875, .inl w_wo)), (mfg, .inl (c_fg, 12, .inl w_fg)), (mpl, .inl (c_pl, 26, .inl f_708))] := hD
            obtain ⟨z_710, e_z_710⟩ : ∃ y : Int32, y = y_459 + 1 := ⟨_, rfl⟩
            refine lv_iinc (v := z_710) (lv' := [(3, .int z_710), (5, .int z_648), (4, .int y_458), (0, .ref o0), (1, .int a1), (2, .int a2)]) hx hb dX10_isBy_176 hl (k := 2) rfl (by rw [e_z_710]; rfl) (by decide) rfl (fun ls hl => ?_)
            obtain ⟨q_z_710, b_z_710⟩ := ti_add (lo := 1) (hi := 27) e_z_710 rfl (by decide : (1 : Int32).toInt = 1) b_y_459 (by decide : (1 : Int) ≤ (1 : Int32).toInt ∧ (1 : Int32).toInt ≤ 1) (by decide)
            exact hj_179_690 (z_710, f_708) _ _ _ ⟨(show (-1 : Int) ≤ z_710.toInt ∧ z_710.toInt ≤ 27 from (rg_w b_z_710 (by decide) (by decide))), (show rg f_708 26 0 1 from ha_709), (show z_710.toInt = (D (y_458.toInt.toNat + 1) : Int) from (by omega)), hP, hD, hS, lv_sub hl [0, 1, 2, 3, 4, 5] rfl⟩
          ·
            have n_c_706 : (z_648.toInt : Int) = 11 := c_eq rfl (by decide) c_706
            have b_z_648 : (11 : Int) ≤ z_648.toInt ∧ z_648.toInt ≤ 11 := r_eq1 (ti_rng z_648) (by decide : (11 : Int) ≤ (11 : Int32).toInt ∧ (11 : Int32).toInt ≤ 11) n_c_706 (by decide)
            obtain ⟨z_711, e_z_711⟩ : ∃ y : Int32, y = y_459 + (-1) := ⟨_, rfl⟩
            refine lv_iinc (v := z_711) (lv' := [(3, .int z_711), (5, .int z_648), (4, .int y_458), (0, .ref o0), (1, .int a1), (2, .int a2)]) hx hb dX10_isBy_89 hl (k := 2) rfl (by rw [e_z_711]; rfl) (by decide) rfl (fun ls hl => ?_)
            obtain ⟨q_z_711, b_z_711⟩ := ti_add (lo := -1) (hi := 25) e_z_711 rfl (by decide : ((-1) : Int32).toInt = -1) b_y_459 (by decide : (-1 : Int) ≤ ((-1) : Int32).toInt ∧ ((-1) : Int32).toInt ≤ -1) (by decide)
            refine lv_aload_n hx hb dX10_isBy_92 rfl (lv_at hl 3 rfl) ?_
            refine va_get (D := (dC, dI)) (ci := 8) (v := .ref mpl) (C := RX10) (T := TX10) (N := 33) hx hb hts iX10_isBy_X10 hown hK hP 0 rfl rfl 21 (by decide) (hts (.fieldLink RX10 43 "LuckyTicketModel" "pile" "[Z") (List.mem_of_getElem? (i := 2) rfl)) (fun _ h9 => h9) rfl dX10_isBy_93 ?_
            refine lv_iload_n hx hb dX10_isBy_96 rfl (lv_at hl 0 rfl) ?_
            refine lv_iconst (v := 1) hx hb dX10_isBy_97 (by decide) ?_
            refine lv_isub hx hb dX10_isBy_98 ?_
            refine lv_topi (fun z_712 e_z_712 => ?_)
            obtain ⟨q_z_712, b_z_712⟩ := ti_sub (lo := -2) (hi := 24) e_z_712 rfl (by decide : (1 : Int32).toInt = 1) b_z_711 (by decide : (1 : Int) ≤ (1 : Int32).toInt ∧ (1 : Int32).toInt ≤ 1) (by decide)
            refine lv_iload hx hb dX10_isBy_99 (lv_at hl 1 rfl) ?_
            refine lv_bipush (v := 10) hx hb dX10_isBy_101 (by decide) ?_
            refine lv_icmp_ne (tgt := 134) hx hb dX10_isBy_103 (by decide) (fun c_713 => ?_) (fun c_713 => absurd (show (z_648.toInt : Int) = 10 from c_eq rfl (by decide) c_713) (by have q1 := b_z_648; have q2 := (by decide : (10 : Int) ≤ (10 : Int32).toInt ∧ (10 : Int32).toInt ≤ 10); omega))
            refine lv_aload_n hx hb dX10_isBy_134 rfl (lv_at hl 3 rfl) ?_
            refine va_get (D := (dC, dI)) (ci := 8) (v := .ref mpl) (C := RX10) (T := TX10) (N := 33) hx hb hts iX10_isBy_X10 hown hK hP 0 rfl rfl 21 (by decide) (hts (.fieldLink RX10 43 "LuckyTicketModel" "pile" "[Z") (List.mem_of_getElem? (i := 2) rfl)) (fun _ h9 => h9) rfl dX10_isBy_135 ?_
            refine lv_iload_n hx hb dX10_isBy_138 rfl (lv_at hl 0 rfl) ?_
            refine lv_iconst (v := 1) hx hb dX10_isBy_139 (by decide) ?_
            refine lv_isub hx hb dX10_isBy_140 ?_
            refine lv_topi (fun z_714 e_z_714 => ?_)
            obtain ⟨q_z_714, b_z_714⟩ := ti_sub (lo := -2) (hi := 24) e_z_714 rfl (by decide : (1 : Int32).toInt = 1) b_z_711 (by decide : (1 : Int) ≤ (1 : Int32).toInt ∧ (1 : Int32).toInt ≤ 1) (by decide)
            refine va_zald hx hb hK hP 3 2 rfl rfl (vp_in_iff.mpr ⟨by omega, by omega⟩) dX10_isBy_141 ?_
            refine lv_topi (fun z_715 e_z_715 => ?_)
            have b_z_715 : (0 : Int) ≤ z_715.toInt ∧ z_715.toInt ≤ 1 := rg_at ha_f_460 (vp_in_iff.mpr ⟨by omega, by omega⟩) e_z_715
            refine cutW (σ := Int32) (pc2 := 159) (st2 := fun v => [.int v, .int z_712, .ref mpl]) (cells2 := 0) (slots2 := 0) (fun v H locs ls => ((0 : Int) ≤ v.toInt ∧ v.toInt ≤ 1) ∧ va_P (dC, dI) vwCl [(o0, .inr (8, [.int x_th, .ref mwo, .ref mim, .ref mhi, .ref mlu, .ref mtp, .int x_td, .ref mfv, .int x_sz, .int x_at, .int x_fr, .int x_to, .int x_va, .int x_fk, .int x_fp, .ref mfr, .ref mwt, .int x_wt, .int x_op, .int x_jo, .ref mfg, .ref mpl, .long x_dr, .ref mtm, .ref mfa, .ref mqu, .ref mmo, .ref mwy, .ref mwn, .ref mma, .ref mwi, .ref mnu, .ref mmv])), (mwo, .inl (c_wo, 1875, .inl w_wo)), (mfg, .inl (c_fg, 12, .inl w_fg)), (mpl, .inl (c_pl, 26, .inl f_460))] H ∧ va_D A [(o0, .inr (8, [.int x_th, .ref mwo, .ref mim, .ref mhi, .ref mlu, .ref mtp, .int x_td, .ref mfv, .int x_sz, .int x_at, .int x_fr, .int x_to, .int x_va, .int x_fk, .int x_fp, .ref mfr, .ref mwt, .int x_wt, .int x_op, .int x_jo, .ref mfg, .ref mpl, .long x_dr, .ref mtm, .ref mfa, .ref mqu, .ref mmo, .ref mwy, .ref mwn, .ref mma, .ref mwi, .ref mnu, .ref mmv])), (mwo, .inl (c_wo, 1875, .inl w_wo)), (mfg, .inl (c_fg, 12, .inl w_fg)), (mpl, .inl (c_pl, 26, .inl f_460))] ∧ va_S A s.heap H locs ∧ lv_has ls 6 [(3, .int z_711), (5, .int z_648), (4, .int y_458), (0, .ref o0), (1, .int a1), (2, .int a2)]) (fun v H locs ls hI => ?_) (fun hj_159_719 => ?_)
            ·
              obtain ⟨y_719, rfl⟩ : ∃ z, z = v := ⟨_, rfl⟩
              obtain ⟨b_y_719, hP, hD, hS, hl⟩ := hI
              have b_y_719 : (0 : Int) ≤ y_719.toInt ∧ y_719.toInt ≤ 1 := b_y_719
              have hP : va_P (dC, dI) vwCl [(o0, .inr (8, [.int x_th, .ref mwo, .ref mim, .ref mhi, .ref mlu, .ref mtp, .int x_td, .ref mfv, .int x_sz, .int x_at, .int x_fr, .int x_to, .int x_va, .int x_fk, .int x_fp, .ref mfr, .ref mwt, .int x_wt, .int x_op, .int x_jo, .ref mfg, .ref mpl, .long x_dr, .ref mtm, .ref mfa, .ref mqu, .ref mmo, .ref mwy, .ref mwn, .ref mma, .ref mwi, .ref mnu, .ref mmv])), (mwo, .inl (c_wo, 1875, .inl w_wo)), (mfg, .inl (c_fg, 12, .inl w_fg)), (mpl, .inl (c_pl, 26, .inl f_460))] H := hP
              have hD : va_D A [(o0, .inr (8, [.int x_th, .ref mwo, .ref mim, .ref mhi, .ref mlu, .ref mtp, .int x_td, .ref mfv, .int x_sz, .int x_at, .int x_fr, .int x_to, .int x_va, .int x_fk, .int x_fp, .ref mfr, .ref mwt, .int x_wt, .int x_op, .int x_jo, .ref mfg, .ref mpl, .long x_dr, .ref mtm, .ref mfa, .ref mqu, .ref mmo, .ref mwy, .ref mwn, .ref mma, .ref mwi, .ref mnu, .ref mmv])), (mwo, .inl (c_wo, 1875, .inl w_wo)), (mfg, .inl (c_fg, 12, .inl w_fg)), (mpl, .inl (c_pl, 26, .inl f_460))] := hD
              have hl : lv_has ls 6 [(3, .int z_711), (5, .int z_648), (4, .int y_458), (0, .ref o0), (1, .int a1), (2, .int a2)] := hl
              refine va_zast hx hb hK hP hD hS 3 2 rfl rfl (vp_in_iff.mpr ⟨by omega, by omega⟩) dX10_isBy_159 (fun H locs hP hD hS => ?_)
              have hP : va_P (dC, dI) vwCl [(o0, .inr (8, [.int x_th, .ref mwo, .ref mim, .ref mhi, .ref mlu, .ref mtp, .int x_td, .ref mfv, .int x_sz, .int x_at, .int x_fr, .int x_to, .int x_va, .int x_fk, .int x_fp, .ref mfr, .ref mwt, .int x_wt, .int x_op, .int x_jo, .ref mfg, .ref mpl, .long x_dr, .ref mtm, .ref mfa, .ref mqu, .ref mmo, .ref mwy, .ref mwn, .ref mma, .ref mwi, .ref mnu, .ref mmv])), (mwo, .inl (c_wo, 1875, .inl w_wo)), (mfg, .inl (c_fg, 12, .inl w_fg)), (mpl, .inl (c_pl, 26, .inl (upd f_460 (z_712 : Int32).toNatClampNeg (vp_nar .boolean y_719))))] H := hP
              have hD : va_D A [(o0, .inr (8, [.int x_th, .ref mwo, .ref mim, .ref mhi, .ref mlu, .ref mtp, .int x_td, .ref mfv, .int x_sz, .int x_at, .int x_fr, .int x_to, .int x_va, .int x_fk, .int x_fp, .ref mfr, .ref mwt, .int x_wt, .int x_op, .int x_jo, .ref mfg, .ref mpl, .long x_dr, .ref mtm, .ref mfa, .ref mqu, .ref mmo, .ref mwy, .ref mwn, .ref mma, .ref mwi, .ref mnu, .ref mmv])), (mwo, .inl (c_wo, 1875, .inl w_wo)), (mfg, .inl (c_fg, 12, .inl w_fg)), (mpl, .inl (c_pl, 26, .inl (upd f_460 (z_712 : Int32).toNatClampNeg (vp_nar .boolean y_719))))] := hD
              have ha_721 : rg (upd f_460 (z_712 : Int32).toNatClampNeg (vp_nar .boolean y_719)) 26 0 1 := rg_upd ha_f_460 (nar_b _)
              generalize (upd f_460 (z_712 : Int32).toNatClampNeg (vp_nar .boolean y_719)) = f_720 at hP hD ha_721
              have hP : va_P (dC, dI) vwCl [(o0, .inr (8, [.int x_th, .ref mwo, .ref mim, .ref mhi, .ref mlu, .ref mtp, .int x_td, .ref mfv, .int x_sz, .int x_at, .int x_fr, .int x_to, .int x_va, .int x_fk, .int x_fp, .ref mfr, .ref mwt, .int x_wt, .int x_op, .int x_jo, .ref mfg, .ref mpl, .long x_dr, .ref mtm, .ref mfa, .ref mqu, .ref mmo, .ref mwy, .ref mwn, .ref mma, .ref mwi, .ref mnu, .ref mmv])), (mwo, .inl (c_wo, 1875, .inl w_wo)), (mfg, .inl (c_fg, 12, .inl w_fg)), (mpl, .inl (c_pl, 26, .inl f_720))] H := hP
              have hD : va_D A [(o0, .inr (8, [.int x_th, .ref mwo, .ref mim, .ref mhi, .ref mlu, .ref mtp, .int x_td, .ref mfv, .int x_sz, .int x_at, .int x_fr, .int x_to, .int x_va, .int x_fk, .int x_fp, .ref mfr, .ref mwt, .int x_wt, .int x_op, .int x_jo, .ref mfg, .ref mpl, .long x_dr, .ref mtm, .ref mfa, .ref mqu, .ref mmo, .ref mwy, .ref mwn, .ref mma, .ref mwi, .ref mnu, .ref mmv])), (mwo, .inl (c_wo, 1875, .inl w_wo)), (mfg, .inl (c_fg, 12, .inl w_fg)), (mpl, .inl (c_pl, 26, .inl f_720))] := hD
              refine lv_goto (tgt := 179) hx hb dX10_isBy_160 (by decide) ?_
              exact hj_179_690 (z_711, f_720) _ _ _ ⟨(show (-1 : Int) ≤ z_711.toInt ∧ z_711.toInt ≤ 27 from (rg_w b_z_711 (by decide) (by decide))), (show rg f_720 26 0 1 from ha_721), (show z_711.toInt = (D (y_458.toInt.toNat + 1) : Int) from (by omega)), hP, hD, hS, lv_sub hl [0, 1, 2, 3, 4, 5] rfl⟩
            ·
              refine lv_if_ne (tgt := 154) hx hb dX10_isBy_142 (by decide) (fun c_716 => ?_) (fun c_716 => ?_)
              ·
                have n_c_716 : (z_715.toInt : Int) ≠ 0 := c_ne rfl (by decide) c_716
                have b_z_715 : (1 : Int) ≤ z_715.toInt ∧ z_715.toInt ≤ 1 := r_ne1 b_z_715 (by decide : (0 : Int) ≤ (0 : Int32).toInt ∧ (0 : Int32).toInt ≤ 0) n_c_716 (by decide)
                refine lv_iconst (v := 1) hx hb dX10_isBy_154 (by decide) ?_
                refine lv_goto (tgt := 159) hx hb dX10_isBy_155 (by decide) ?_
                exact hj_159_719 (1 : Int32) _ _ _ ⟨(show (0 : Int) ≤ (1 : Int32).toInt ∧ (1 : Int32).toInt ≤ 1 from (rg_w (by decide : (1 : Int) ≤ (1 : Int32).toInt ∧ (1 : Int32).toInt ≤ 1) (by decide) (by decide))), hP, hD, hS, lv_sub hl [0, 1, 2, 3, 4, 5] rfl⟩
              ·
                have n_c_716 : (z_715.toInt : Int) = 0 := c_eq rfl (by decide) c_716
                have b_z_715 : (0 : Int) ≤ z_715.toInt ∧ z_715.toInt ≤ 0 := r_eq1 b_z_715 (by decide : (0 : Int) ≤ (0 : Int32).toInt ∧ (0 : Int32).toInt ≤ 0) n_c_716 (by decide)
                refine lv_aload_n hx hb dX10_isBy_145 rfl (lv_at hl 3 rfl) ?_
                refine va_get (D := (dC, dI)) (ci := 8) (v := .ref mpl) (C := RX10) (T := TX10) (N := 33) hx hb hts iX10_isBy_X10 hown hK hP 0 rfl rfl 21 (by decide) (hts (.fieldLink RX10 43 "LuckyTicketModel" "pile" "[Z") (List.mem_of_getElem? (i := 2) rfl)) (fun _ h9 => h9) rfl dX10_isBy_146 ?_
                refine lv_iload_n hx hb dX10_isBy_149 rfl (lv_at hl 0 rfl) ?_
                refine va_zald hx hb hK hP 3 2 rfl rfl (vp_in_iff.mpr ⟨by omega, by omega⟩) dX10_isBy_150 ?_
                refine lv_topi (fun z_722 e_z_722 => ?_)
                have b_z_722 : (0 : Int) ≤ z_722.toInt ∧ z_722.toInt ≤ 1 := rg_at ha_f_460 (vp_in_iff.mpr ⟨by omega, by omega⟩) e_z_722
                refine lv_if_eq (tgt := 158) hx hb dX10_isBy_151 (by decide) (fun c_723 => ?_) (fun c_723 => ?_)
                ·
                  have n_c_723 : (z_722.toInt : Int) = 0 := c_eq rfl (by decide) c_723
                  have b_z_722 : (0 : Int) ≤ z_722.toInt ∧ z_722.toInt ≤ 0 := r_eq1 b_z_722 (by decide : (0 : Int) ≤ (0 : Int32).toInt ∧ (0 : Int32).toInt ≤ 0) n_c_723 (by decide)
                  refine lv_iconst (v := 0) hx hb dX10_isBy_158 (by decide) ?_
                  exact hj_159_719 (0 : Int32) _ _ _ ⟨(show (0 : Int) ≤ (0 : Int32).toInt ∧ (0 : Int32).toInt ≤ 1 from (rg_w (by decide : (0 : Int) ≤ (0 : Int32).toInt ∧ (0 : Int32).toInt ≤ 0) (by decide) (by decide))), hP, hD, hS, lv_sub hl [0, 1, 2, 3, 4, 5] rfl⟩
                ·
                  have n_c_723 : (z_722.toInt : Int) ≠ 0 := c_ne rfl (by decide) c_723
                  have b_z_722 : (1 : Int) ≤ z_722.toInt ∧ z_722.toInt ≤ 1 := r_ne1 b_z_722 (by decide : (0 : Int) ≤ (0 : Int32).toInt ∧ (0 : Int32).toInt ≤ 0) n_c_723 (by decide)
                  refine lv_iconst (v := 1) hx hb dX10_isBy_154 (by decide) ?_
                  refine lv_goto (tgt := 159) hx hb dX10_isBy_155 (by decide) ?_
                  exact hj_159_719 (1 : Int32) _ _ _ ⟨(show (0 : Int) ≤ (1 : Int32).toInt ∧ (1 : Int32).toInt ≤ 1 from (rg_w (by decide : (1 : Int) ≤ (1 : Int32).toInt ∧ (1 : Int32).toInt ≤ 1) (by decide) (by decide))), hP, hD, hS, lv_sub hl [0, 1, 2, 3, 4, 5] rfl⟩
      ·
        have n_c_649 : (z_648.toInt : Int) = 9 := c_eq rfl (by decide) c_649
        have b_z_648 : (9 : Int) ≤ z_648.toInt ∧ z_648.toInt ≤ 9 := r_eq1 (ti_rng z_648) (by decide : (9 : Int) ≤ (9 : Int32).toInt ∧ (9 : Int32).toInt ≤ 9) n_c_649 (by decide)
        refine lv_aload_n hx hb dX10_isBy_48 rfl (lv_at hl 3 rfl) ?_
        refine va_get (D := (dC, dI)) (ci := 8) (v := .ref mpl) (C := RX10) (T := TX10) (N := 33) hx hb hts iX10_isBy_X10 hown hK hP 0 rfl rfl 21 (by decide) (hts (.fieldLink RX10 43 "LuckyTicketModel" "pile" "[Z") (List.mem_of_getElem? (i := 2) rfl)) (fun _ h9 => h9) rfl dX10_isBy_49 ?_
        refine lv_iload_n hx hb dX10_isBy_52 rfl (lv_at hl 2 rfl) ?_
        refine lv_iconst (v := 1) hx hb dX10_isBy_53 (by decide) ?_
        refine lv_isub hx hb dX10_isBy_54 ?_
        refine lv_topi (fun z_724 e_z_724 => ?_)
        obtain ⟨q_z_724, b_z_724⟩ := ti_sub (lo := -1) (hi := 25) e_z_724 rfl (by decide : (1 : Int32).toInt = 1) b_y_459 (by decide : (1 : Int) ≤ (1 : Int32).toInt ∧ (1 : Int32).toInt ≤ 1) (by decide)
        refine lv_aload_n hx hb dX10_isBy_55 rfl (lv_at hl 3 rfl) ?_
        refine va_get (D := (dC, dI)) (ci := 8) (v := .ref mpl) (C := RX10) (T := TX10) (N := 33) hx hb hts iX10_isBy_X10 hown hK hP 0 rfl rfl 21 (by decide) (hts (.fieldLink RX10 43 "LuckyTicketModel" "pile" "[Z") (List.mem_of_getElem? (i := 2) rfl)) (fun _ h9 => h9) rfl dX10_isBy_56 ?_
        refine lv_iload_n hx hb dX10_isBy_59 rfl (lv_at hl 2 rfl) ?_
        refine lv_iconst (v := 1) hx hb dX10_isBy_60 (by decide) ?_
        refine lv_isub hx hb dX10_isBy_61 ?_
        refine lv_topi (fun z_725 e_z_725 => ?_)
        obtain ⟨q_z_725, b_z_725⟩ := ti_sub (lo := -1) (hi := 25) e_z_725 rfl (by decide : (1 : Int32).toInt = 1) b_y_459 (by decide : (1 : Int) ≤ (1 : Int32).toInt ∧ (1 : Int32).toInt ≤ 1) (by decide)
        refine va_zald hx hb hK hP 3 2 rfl rfl (vp_in_iff.mpr ⟨by omega, by omega⟩) dX10_isBy_62 ?_
        refine lv_topi (fun z_726 e_z_726 => ?_)
        have b_z_726 : (0 : Int) ≤ z_726.toInt ∧ z_726.toInt ≤ 1 := rg_at ha_f_460 (vp_in_iff.mpr ⟨by omega, by omega⟩) e_z_726
        refine cutW (σ := Int32) (pc2 := 71) (st2 := fun v => [.int v, .int z_724, .ref mpl]) (cells2 := 0) (slots2 := 0) (fun v H locs ls => ((0 : Int) ≤ v.toInt ∧ v.toInt ≤ 1) ∧ va_P (dC, dI) vwCl [(o0, .inr (8, [.int x_th, .ref mwo, .ref mim, .ref mhi, .ref mlu, .ref mtp, .int x_td, .ref mfv, .int x_sz, .int x_at, .int x_fr, .int x_to, .int x_va, .int x_fk, .int x_fp, .ref mfr, .ref mwt, .int x_wt, .int x_op, .int x_jo, .ref mfg, .ref mpl, .long x_dr, .ref mtm, .ref mfa, .ref mqu, .ref mmo, .ref mwy, .ref mwn, .ref mma, .ref mwi, .ref mnu, .ref mmv])), (mwo, .inl (c_wo, 1875, .inl w_wo)), (mfg, .inl (c_fg, 12, .inl w_fg)), (mpl, .inl (c_pl, 26, .inl f_460))] H ∧ va_D A [(o0, .inr (8, [.int x_th, .ref mwo, .ref mim, .ref mhi, .ref mlu, .ref mtp, .int x_td, .ref mfv, .int x_sz, .int x_at, .int x_fr, .int x_to, .int x_va, .int x_fk, .int x_fp, .ref mfr, .ref mwt, .int x_wt, .int x_op, .int x_jo, .ref mfg, .ref mpl, .long x_dr, .ref mtm, .ref mfa, .ref mqu, .ref mmo, .ref mwy, .ref mwn, .ref mma, .ref mwi, .ref mnu, .ref mmv])), (mwo, .inl (c_wo, 1875, .inl w_wo)), (mfg, .inl (c_fg, 12, .inl w_fg)), (mpl, .inl (c_pl, 26, .inl f_460))] ∧ va_S A s.heap H locs ∧ lv_has ls 6 [(5, .int z_648), (4, .int y_458), (3, .int y_459), (0, .ref o0), (1, .int a1), (2, .int a2)]) (fun v H locs ls hI => ?_) (fun hj_71_728 => ?_)
        ·
          obtain ⟨y_728, rfl⟩ : ∃ z, z = v := ⟨_, rfl⟩
          obtain ⟨b_y_728, hP, hD, hS, hl⟩ := hI
          have b_y_728 : (0 : Int) ≤ y_728.toInt ∧ y_728.toInt ≤ 1 := b_y_728
          have hP : va_P (dC, dI) vwCl [(o0, .inr (8, [.int x_th, .ref mwo, .ref mim, .ref mhi, .ref mlu, .ref mtp, .int x_td, .ref mfv, .int x_sz, .int x_at, .int x_fr, .int x_to, .int x_va, .int x_fk, .int x_fp, .ref mfr, .ref mwt, .int x_wt, .int x_op, .int x_jo, .ref mfg, .ref mpl, .long x_dr, .ref mtm, .ref mfa, .ref mqu, .ref mmo, .ref mwy, .ref mwn, .ref mma, .ref mwi, .ref mnu, .ref mmv])), (mwo, .inl (c_wo, 1875, .inl w_wo)), (mfg, .inl (c_fg, 12, .inl w_fg)), (mpl, .inl (c_pl, 26, .inl f_460))] H := hP
          have hD : va_D A [(o0, .inr (8, [.int x_th, .ref mwo, .ref mim, .ref mhi, .ref mlu, .ref mtp, .int x_td, .ref mfv, .int x_sz, .int x_at, .int x_fr, .int x_to, .int x_va, .int x_fk, .int x_fp, .ref mfr, .ref mwt, .int x_wt, .int x_op, .int x_jo, .ref mfg, .ref mpl, .long x_dr, .ref mtm, .ref mfa, .ref mqu, .ref mmo, .ref mwy, .ref mwn, .ref mma, .ref mwi, .ref mnu, .ref mmv])), (mwo, .inl (c_wo, 1875, .inl w_wo)), (mfg, .inl (c_fg, 12, .inl w_fg)), (mpl, .inl (c_pl, 26, .inl f_460))] := hD
          have hl : lv_has ls 6 [(5, .int z_648), (4, .int y_458), (3, .int y_459), (0, .ref o0), (1, .int a1), (2, .int a2)] := hl
          refine va_zast hx hb hK hP hD hS 3 2 rfl rfl (vp_in_iff.mpr ⟨by omega, by omega⟩) dX10_isBy_71 (fun H locs hP hD hS => ?_)
          have hP : va_P (dC, dI) vwCl [(o0, .inr (8, [.int x_th, .ref mwo, .ref mim, .ref mhi, .ref mlu, .ref mtp, .int x_td, .ref mfv, .int x_sz, .int x_at, .int x_fr, .int x_to, .int x_va, .int x_fk, .int x_fp, .ref mfr, .ref mwt, .int x_wt, .int x_op, .int x_jo, .ref mfg, .ref mpl, .long x_dr, .ref mtm, .ref mfa, .ref mqu, .ref mmo, .ref mwy, .ref mwn, .ref mma, .ref mwi, .ref mnu, .ref mmv])), (mwo, .inl (c_wo, 1875, .inl w_wo)), (mfg, .inl (c_fg, 12, .inl w_fg)), (mpl, .inl (c_pl, 26, .inl (upd f_460 (z_724 : Int32).toNatClampNeg (vp_nar .boolean y_728))))] H := hP
          have hD : va_D A [(o0, .inr (8, [.int x_th, .ref mwo, .ref mim, .ref mhi, .ref mlu, .ref mtp, .int x_td, .ref mfv, .int x_sz, .int x_at, .int x_fr, .int x_to, .int x_va, .int x_fk, .int x_fp, .ref mfr, .ref mwt, .int x_wt, .int x_op, .int x_jo, .ref mfg, .ref mpl, .long x_dr, .ref mtm, .ref mfa, .ref mqu, .ref mmo, .ref mwy, .ref mwn, .ref mma, .ref mwi, .ref mnu, .ref mmv])), (mwo, .inl (c_wo, 1875, .inl w_wo)), (mfg, .inl (c_fg, 12, .inl w_fg)), (mpl, .inl (c_pl, 26, .inl (upd f_460 (z_724 : Int32).toNatClampNeg (vp_nar .boolean y_728))))] := hD
          have ha_730 : rg (upd f_460 (z_724 : Int32).toNatClampNeg (vp_nar .boolean y_728)) 26 0 1 := rg_upd ha_f_460 (nar_b _)
          generalize (upd f_460 (z_724 : Int32).toNatClampNeg (vp_nar .boolean y_728)) = f_729 at hP hD ha_730
          have hP : va_P (dC, dI) vwCl [(o0, .inr (8, [.int x_th, .ref mwo, .ref mim, .ref mhi, .ref mlu, .ref mtp, .int x_td, .ref mfv, .int x_sz, .int x_at, .int x_fr, .int x_to, .int x_va, .int x_fk, .int x_fp, .ref mfr, .ref mwt, .int x_wt, .int x_op, .int x_jo, .ref mfg, .ref mpl, .long x_dr, .ref mtm, .ref mfa, .ref mqu, .ref mmo, .ref mwy, .ref mwn, .ref mma, .ref mwi, .ref mnu, .ref mmv])), (mwo, .inl (c_wo, 1875, .inl w_wo)), (mfg, .inl (c_fg, 12, .inl w_fg)), (mpl, .inl (c_pl, 26, .inl f_729))] H := hP
          have hD : va_D A [(o0, .inr (8, [.int x_th, .ref mwo, .ref mim, .ref mhi, .ref mlu, .ref mtp, .int x_td, .ref mfv, .int x_sz, .int x_at, .int x_fr, .int x_to, .int x_va, .int x_fk, .int x_fp, .ref mfr, .ref mwt, .int x_wt, .int x_op, .int x_jo, .ref mfg, .ref mpl, .long x_dr, .ref mtm, .ref mfa, .ref mqu, .ref mmo, .ref mwy, .ref mwn, .ref mma, .ref mwi, .ref mnu, .ref mmv])), (mwo, .inl (c_wo, 1875, .inl w_wo)), (mfg, .inl (c_fg, 12, .inl w_fg)), (mpl, .inl (c_pl, 26, .inl f_729))] := hD
          refine lv_goto (tgt := 179) hx hb dX10_isBy_72 (by decide) ?_
          exact hj_179_690 (y_459, f_729) _ _ _ ⟨(show (-1 : Int) ≤ y_459.toInt ∧ y_459.toInt ≤ 27 from (rg_w b_y_459 (by decide) (by decide))), (show rg f_729 26 0 1 from ha_730), (show y_459.toInt = (D (y_458.toInt.toNat + 1) : Int) from (by omega)), hP, hD, hS, lv_sub hl [2, 0, 1, 3, 4, 5] rfl⟩
        ·
          refine lv_if_ne (tgt := 70) hx hb dX10_isBy_63 (by decide) (fun c_727 => ?_) (fun c_727 => ?_)
          ·
            have n_c_727 : (z_726.toInt : Int) ≠ 0 := c_ne rfl (by decide) c_727
            have b_z_726 : (1 : Int) ≤ z_726.toInt ∧ z_726.toInt ≤ 1 := r_ne1 b_z_726 (by decide : (0 : Int) ≤ (0 : Int32).toInt ∧ (0 : Int32).toInt ≤ 0) n_c_727 (by decide)
            refine lv_iconst (v := 0) hx hb dX10_isBy_70 (by decide) ?_
            exact hj_71_728 (0 : Int32) _ _ _ ⟨(show (0 : Int) ≤ (0 : Int32).toInt ∧ (0 : Int32).toInt ≤ 1 from (rg_w (by decide : (0 : Int) ≤ (0 : Int32).toInt ∧ (0 : Int32).toInt ≤ 0) (by decide) (by decide))), hP, hD, hS, lv_sub hl [0, 1, 2, 3, 4, 5] rfl⟩
          ·
            have n_c_727 : (z_726.toInt : Int) = 0 := c_eq rfl (by decide) c_727
            have b_z_726 : (0 : Int) ≤ z_726.toInt ∧ z_726.toInt ≤ 0 := r_eq1 b_z_726 (by decide : (0 : Int) ≤ (0 : Int32).toInt ∧ (0 : Int32).toInt ≤ 0) n_c_727 (by decide)
            refine lv_iconst (v := 1) hx hb dX10_isBy_66 (by decide) ?_
            refine lv_goto (tgt := 71) hx hb dX10_isBy_67 (by decide) ?_
            exact hj_71_728 (1 : Int32) _ _ _ ⟨(show (0 : Int) ≤ (1 : Int32).toInt ∧ (1 : Int32).toInt ≤ 1 from (rg_w (by decide : (1 : Int) ≤ (1 : Int32).toInt ∧ (1 : Int32).toInt ≤ 1) (by decide) (by decide))), hP, hD, hS, lv_sub hl [0, 1, 2, 3, 4, 5] rfl⟩
theorem dX10_fillLuck_0 : decode cX10_fillLuck 0 = .ok (.iconst 0, 1) := by decide +kernel
theorem dX10_fillLuck_1 : decode cX10_fillLuck 1 = .ok (.istore_n 1, 1) := by decide +kernel
theorem dX10_fillLuck_2 : decode cX10_fillLuck 2 = .ok (.iload_n 1, 1) := by decide +kernel
theorem dX10_fillLuck_3 : decode cX10_fillLuck 3 = .ok (.aload_n 0, 1) := by decide +kernel
theorem dX10_fillLuck_4 : decode cX10_fillLuck 4 = .ok (.getfield 9, 3) := by decide +kernel
theorem dX10_fillLuck_7 : decode cX10_fillLuck 7 = .ok (.iconst 2, 1) := by decide +kernel
theorem dX10_fillLuck_8 : decode cX10_fillLuck 8 = .ok (.iaload, 1) := by decide +kernel
theorem dX10_fillLuck_9 : decode cX10_fillLuck 9 = .ok (.if_icmp .ge 60, 3) := by decide +kernel
theorem dX10_fillLuck_12 : decode cX10_fillLuck 12 = .ok (.aload_n 0, 1) := by decide +kernel
theorem dX10_fillLuck_13 : decode cX10_fillLuck 13 = .ok (.iload_n 1, 1) := by decide +kernel
theorem dX10_fillLuck_14 : decode cX10_fillLuck 14 = .ok (.invokevirtual 302, 3) := by decide +kernel
theorem dX10_fillLuck_17 : decode cX10_fillLuck 17 = .ok (.iconst 0, 1) := by decide +kernel
theorem dX10_fillLuck_18 : decode cX10_fillLuck 18 = .ok (.istore_n 2, 1) := by decide +kernel
theorem dX10_fillLuck_19 : decode cX10_fillLuck 19 = .ok (.iconst 0, 1) := by decide +kernel
theorem dX10_fillLuck_20 : decode cX10_fillLuck 20 = .ok (.istore_n 3, 1) := by decide +kernel
theorem dX10_fillLuck_21 : decode cX10_fillLuck 21 = .ok (.iload_n 3, 1) := by decide +kernel
theorem dX10_fillLuck_22 : decode cX10_fillLuck 22 = .ok (.aload_n 0, 1) := by decide +kernel
theorem dX10_fillLuck_23 : decode cX10_fillLuck 23 = .ok (.getfield 9, 3) := by decide +kernel
theorem dX10_fillLuck_26 : decode cX10_fillLuck 26 = .ok (.iconst 3, 1) := by decide +kernel
theorem dX10_fillLuck_27 : decode cX10_fillLuck 27 = .ok (.iaload, 1) := by decide +kernel
theorem dX10_fillLuck_28 : decode cX10_fillLuck 28 = .ok (.if_icmp .ge 28, 3) := by decide +kernel
theorem dX10_fillLuck_31 : decode cX10_fillLuck 31 = .ok (.iload_n 2, 1) := by decide +kernel
theorem dX10_fillLuck_32 : decode cX10_fillLuck 32 = .ok (.aload_n 0, 1) := by decide +kernel
theorem dX10_fillLuck_33 : decode cX10_fillLuck 33 = .ok (.iload_n 3, 1) := by decide +kernel
theorem dX10_fillLuck_34 : decode cX10_fillLuck 34 = .ok (.iload_n 2, 1) := by decide +kernel
theorem dX10_fillLuck_35 : decode cX10_fillLuck 35 = .ok (.invokevirtual 305, 3) := by decide +kernel
theorem dX10_fillLuck_38 : decode cX10_fillLuck 38 = .ok (.ifCond .eq 9, 3) := by decide +kernel
theorem dX10_fillLuck_41 : decode cX10_fillLuck 41 = .ok (.iconst 1, 1) := by decide +kernel
theorem dX10_fillLuck_42 : decode cX10_fillLuck 42 = .ok (.iload_n 3, 1) := by decide +kernel
theorem dX10_fillLuck_43 : decode cX10_fillLuck 43 = .ok (.ishl, 1) := by decide +kernel
theorem dX10_fillLuck_44 : decode cX10_fillLuck 44 = .ok (.goto 4, 3) := by decide +kernel
theorem dX10_fillLuck_47 : decode cX10_fillLuck 47 = .ok (.iconst 0, 1) := by decide +kernel
theorem dX10_fillLuck_48 : decode cX10_fillLuck 48 = .ok (.ior, 1) := by decide +kernel
theorem dX10_fillLuck_49 : decode cX10_fillLuck 49 = .ok (.istore_n 2, 1) := by decide +kernel
theorem dX10_fillLuck_50 : decode cX10_fillLuck 50 = .ok (.iinc 3 1, 3) := by decide +kernel
theorem dX10_fillLuck_53 : decode cX10_fillLuck 53 = .ok (.goto (-32), 3) := by decide +kernel
theorem dX10_fillLuck_56 : decode cX10_fillLuck 56 = .ok (.aload_n 0, 1) := by decide +kernel
theorem dX10_fillLuck_57 : decode cX10_fillLuck 57 = .ok (.getfield 20, 3) := by decide +kernel
theorem dX10_fillLuck_60 : decode cX10_fillLuck 60 = .ok (.iload_n 1, 1) := by decide +kernel
theorem dX10_fillLuck_61 : decode cX10_fillLuck 61 = .ok (.iload_n 2, 1) := by decide +kernel
theorem dX10_fillLuck_62 : decode cX10_fillLuck 62 = .ok (.iastore, 1) := by decide +kernel
theorem dX10_fillLuck_63 : decode cX10_fillLuck 63 = .ok (.iinc 1 1, 3) := by decide +kernel
theorem dX10_fillLuck_66 : decode cX10_fillLuck 66 = .ok (.goto (-64), 3) := by decide +kernel
theorem dX10_fillLuck_69 : decode cX10_fillLuck 69 = .ok (.return_, 1) := by decide +kernel
theorem hd_yX10_fillLuck : yX10_fillLuck.cls = RX10 ∧ yX10_fillLuck.cls ≠ "java/lang/invoke/MethodHandle" ∧ yX10_fillLuck.cls ≠ "java/lang/invoke/VarHandle" ∧ (parseMethodDescriptor yX10_fillLuck.desc).map (fun d => d.parameters.length) = some 0 := by decide +kernel
def uX10_fillLuck : List Cond := List.cons (.code yX10_fillLuck cX10_fillLuck 4 none) (HAppend.hAppend ([.fieldLink RX10 9 "LuckyTicketModel" "world" "[I", .methodLink RX10 302 yX10_fillFigures, .instanceMethod yX10_fillFigures, .selects RX10 yX10_fillFigures yX10_fillFigures, .initialized RX10, .methodLink RX10 305 yX10_isBy, .instanceMethod yX10_isBy, .selects RX10 yX10_isBy yX10_isBy, .fieldLink RX10 20 "LuckyTicketModel" "luck" "[I"] : List Cond) (HAppend.hAppend uX10_fillFigures (HAppend.hAppend uX10_isBy wsX100)))
theorem iX10_fillLuck_X10 : ∀ w ∈ wsX100, w ∈ uX10_fillLuck := fun _ h => (List.mem_cons_of_mem _ (List.mem_append_right _ (List.mem_append_right _ (List.mem_append_right _ h))))
theorem guX10_fillLuck : GU uX10_fillLuck := gu_cons (gu_app (by decide +kernel) (gu_ap guX10_fillFigures (gu_ap guX10_isBy gws_X10)))
theorem gX10_fillLuck__X10_fillFigures_V302 : GoodIn uX10_fillLuck (wsV RX10 302 RX10 yX10_fillFigures uX10_fillFigures) := gin_V (List.mem_of_getElem? (i := 2) rfl) (List.mem_of_getElem? (i := 3) rfl) (List.mem_of_getElem? (i := 4) rfl) (List.mem_of_getElem? (i := 5) rfl) (fun _ h => (List.mem_cons_of_mem _ (List.mem_append_right _ (List.mem_append_left _ h)))) guX10_fillFigures
theorem gX10_fillLuck__X10_isBy_V305 : GoodIn uX10_fillLuck (wsV RX10 305 RX10 yX10_isBy uX10_isBy) := gin_V (List.mem_of_getElem? (i := 6) rfl) (List.mem_of_getElem? (i := 7) rfl) (List.mem_of_getElem? (i := 8) rfl) (List.mem_of_getElem? (i := 5) rfl) (fun _ h => (List.mem_cons_of_mem _ (List.mem_append_right _ (List.mem_append_right _ (List.mem_append_left _ h))))) guX10_isBy
set_option maxHeartbeats 4000000 in
set_option maxRecDepth 100000 in
theorem kX10_fillLuck (l : Launch) (dC : Nat → ClassId) (dI : Nat → Nat → Nat) (o0 : Nat) (x_th : Int32) (mwo : Nat) (mim : Nat) (mhi : Nat) (mlu : Nat) (mtp : Nat) (x_td : Int32) (mfv : Nat) (x_sz : Int32) (x_at : Int32) (x_fr : Int32) (x_to : Int32) (x_va : Int32) (x_fk : Int32) (x_fp : Int32) (mfr : Nat) (mwt : Nat) (x_wt : Int32) (x_op : Int32) (x_jo : Int32) (mfg : Nat) (mpl : Nat) (x_dr : Int64) (mtm : Nat) (mfa : Nat) (mqu : Nat) (mmo : Nat) (mwy : Nat) (mwn : Nat) (mma : Nat) (mwi : Nat) (mnu : Nat) (mmv : Nat) (c_wo : ClassId) (c_lu : ClassId) (c_fg : ClassId) (c_pl : ClassId) (w_wo : Nat → Int32) (w_lu : Nat → Int32) (w_fg : Nat → Int32) (w_pl : Nat → Int32) (ln : Int32) (bs : Int32) (tk : Int32) (lw : Int32) (li : Int32) (sz : Nat) (b_ln : (0 : Int) ≤ ln.toInt ∧ ln.toInt ≤ 12) (b_bs : (0 : Int) ≤ bs.toInt ∧ bs.toInt ≤ 16) (b_tk : (0 : Int) ≤ tk.toInt ∧ tk.toInt ≤ 20000) (b_lw : (0 : Int) ≤ lw.toInt ∧ lw.toInt ≤ 9) (ha_mfg : rg w_fg 12 0 15) (ha_mpl : rg w_pl 26 0 1) (hw0 : w_wo 0 = ln) (hw1 : w_wo 1 = bs) (hw2 : w_wo 2 = tk) (hw3 : w_wo 3 = lw) (hw4 : w_wo 4 = li) (hwz : (ln.toInt = 0 ∧ bs.toInt = 0 ∧ tk.toInt = 0 ∧ lw.toInt = 0) ∨ (1 ≤ ln.toInt ∧ 2 ≤ bs.toInt ∧ 1 ≤ tk.toInt)) (hpv : pvw w_wo lw) : Met l yX10_fillLuck uX10_fillLuck ({ frames := 4, cells := 0, slots := 0, locals := 89 }) (va_Pc [.ref o0] (hw (dC, dI) vwCl [(o0, .inr (8, [.int x_th, .ref mwo, .ref mim, .ref mhi, .ref mlu, .ref mtp, .int x_td, .ref mfv, .int x_sz, .int x_at, .int x_fr, .int x_to, .int x_va, .int x_fk, .int x_fp, .ref mfr, .ref mwt, .int x_wt, .int x_op, .int x_jo, .ref mfg, .ref mpl, .long x_dr, .ref mtm, .ref mfa, .ref mqu, .ref mmo, .ref mwy, .ref mwn, .ref mma, .ref mwi, .ref mnu, .ref mmv])), (mwo, .inl (c_wo, 1875, .inl w_wo)), (mlu, .inl (c_lu, 20000, .inl w_lu)), (mfg, .inl (c_fg, 12, .inl w_fg)), (mpl, .inl (c_pl, 26, .inl w_pl))] [(c_wo, .int), (c_lu, .int), (c_fg, .int), (c_pl, .boolean)] sz)) (va_Qv (fun (_ : Unit) => True) (fun (_ : Unit) t => ∃ (o0_ : Nat → Int32) (o1_ : Nat → Int32) (o2_ : Nat → Int32), (rg o1_ 12 0 15) ∧ (rg o2_ 26 0 1) ∧ va_P (dC, dI) vwCl [(o0, .inr (8, [.int x_th, .ref mwo, .ref mim, .ref mhi, .ref mlu, .ref mtp, .int x_td, .ref mfv, .int x_sz, .int x_at, .int x_fr, .int x_to, .int x_va, .int x_fk, .int x_fp, .ref mfr, .ref mwt, .int x_wt, .int x_op, .int x_jo, .ref mfg, .ref mpl, .long x_dr, .ref mtm, .ref mfa, .ref mqu, .ref mmo, .ref mwy, .ref mwn, .ref mma, .ref mwi, .ref mnu, .ref mmv])), (mwo, .inl (c_wo, 1875, .inl w_wo)), (mlu, .inl (c_lu, 20000, .inl o0_)), (mfg, .inl (c_fg, 12, .inl o1_)), (mpl, .inl (c_pl, 26, .inl o2_))] t.heap ∧ va_K (dC, dI) vwCl [(c_wo, .int), (c_lu, .int), (c_fg, .int), (c_pl, .boolean)] t ∧ va_D (va_A [(o0, .inr (8, [.int x_th, .ref mwo, .ref mim, .ref mhi, .ref mlu, .ref mtp, .int x_td, .ref mfv, .int x_sz, .int x_at, .int x_fr, .int x_to, .int x_va, .int x_fk, .int x_fp, .ref mfr, .ref mwt, .int x_wt, .int x_op, .int x_jo, .ref mfg, .ref mpl, .long x_dr, .ref mtm, .ref mfa, .ref mqu, .ref mmo, .ref mwy, .ref mwn, .ref mma, .ref mwi, .ref mnu, .ref mmv])), (mwo, .inl (c_wo, 1875, .inl w_wo)), (mlu, .inl (c_lu, 20000, .inl w_lu)), (mfg, .inl (c_fg, 12, .inl w_fg)), (mpl, .inl (c_pl, 26, .inl w_pl))] sz) [(o0, .inr (8, [.int x_th, .ref mwo, .ref mim, .ref mhi, .ref mlu, .ref mtp, .int x_td, .ref mfv, .int x_sz, .int x_at, .int x_fr, .int x_to, .int x_va, .int x_fk, .int x_fp, .ref mfr, .ref mwt, .int x_wt, .int x_op, .int x_jo, .ref mfg, .ref mpl, .long x_dr, .ref mtm, .ref mfa, .ref mqu, .ref mmo, .ref mwy, .ref mwn, .ref mma, .ref mwi, .ref mnu, .ref mmv])), (mwo, .inl (c_wo, 1875, .inl w_wo)), (mlu, .inl (c_lu, 20000, .inl o0_)), (mfg, .inl (c_fg, 12, .inl o1_)), (mpl, .inl (c_pl, 26, .inl o2_))]) (va_A [(o0, .inr (8, [.int x_th, .ref mwo, .ref mim, .ref mhi, .ref mlu, .ref mtp, .int x_td, .ref mfv, .int x_sz, .int x_at, .int x_fr, .int x_to, .int x_va, .int x_fk, .int x_fp, .ref mfr, .ref mwt, .int x_wt, .int x_op, .int x_jo, .ref mfg, .ref mpl, .long x_dr, .ref mtm, .ref mfa, .ref mqu, .ref mmo, .ref mwy, .ref mwn, .ref mma, .ref mwi, .ref mnu, .ref mmv])), (mwo, .inl (c_wo, 1875, .inl w_wo)), (mlu, .inl (c_lu, 20000, .inl w_lu)), (mfg, .inl (c_fg, 12, .inl w_fg)), (mpl, .inl (c_pl, 26, .inl w_pl))] sz)) 0 0 (va_A [(o0, .inr (8, [.int x_th, .ref mwo, .ref mim, .ref mhi, .ref mlu, .ref mtp, .int x_td, .ref mfv, .int x_sz, .int x_at, .int x_fr, .int x_to, .int x_va, .int x_fk, .int x_fp, .ref mfr, .ref mwt, .int x_wt, .int x_op, .int x_jo, .ref mfg, .ref mpl, .long x_dr, .ref mtm, .ref mfa, .ref mqu, .ref mmo, .ref mwy, .ref mwn, .ref mma, .ref mwi, .ref mnu, .ref mmv])), (mwo, .inl (c_wo, 1875, .inl w_wo)), (mlu, .inl (c_lu, 20000, .inl w_lu)), (mfg, .inl (c_fg, 12, .inl w_fg)), (mpl, .inl (c_pl, 26, .inl w_pl))] sz) := by
  refine Met.ofW (cc := cX10_fillLuck) (maxL := 4) (ret := none) pn_X10 rfl ?_
  intro p e s m args below meth c s₁ B hml hv
  obtain ⟨rfl, hsz, hP, hK, hD0, hN⟩ := hv
  have hx := B.exec
  have hb := B.bytes
  have hr := B.returns
  have hts := atoms_spec (ws := uX10_fillLuck) B.pre
  have hown : s.vm.findClass RX10 = some m.cls := hown_of B.named rfl
  have hlocks := B.notSynchronized
  subst hsz
  have hD := hD0.self (sz := s.heap.size)
  generalize hAe : va_A [(o0, .inr (8, [.int x_th, .ref mwo, .ref mim, .ref mhi, .ref mlu, .ref mtp, .int x_td, .ref mfv, .int x_sz, .int x_at, .int x_fr, .int x_to, .int x_va, .int x_fk, .int x_fp, .ref mfr, .ref mwt, .int x_wt, .int x_op, .int x_jo, .ref mfg, .ref mpl, .long x_dr, .ref mtm, .ref mfa, .ref mqu, .ref mmo, .ref mwy, .ref mwn, .ref mma, .ref mwi, .ref mnu, .ref mmv])), (mwo, .inl (c_wo, 1875, .inl w_wo)), (mlu, .inl (c_lu, 20000, .inl w_lu)), (mfg, .inl (c_fg, 12, .inl w_fg)), (mpl, .inl (c_pl, 26, .inl w_pl))] s.heap.size = A at hD ⊢
  have hA : ∀ q : Nat, s.heap.size ≤ q → A q := fun q h => by rw [← hAe]; exact Or.inr h
  have hS : va_S A s.heap s.heap [] := va_S.rf
  have hP : va_P (dC, dI) vwCl [(o0, .inr (8, [.int x_th, .ref mwo, .ref mim, .ref mhi, .ref mlu, .ref mtp, .int x_td, .ref mfv, .int x_sz, .int x_at, .int x_fr, .int x_to, .int x_va, .int x_fk, .int x_fp, .ref mfr, .ref mwt, .int x_wt, .int x_op, .int x_jo, .ref mfg, .ref mpl, .long x_dr, .ref mtm, .ref mfa, .ref mqu, .ref mmo, .ref mwy, .ref mwn, .ref mma, .ref mwi, .ref mnu, .ref mmv])), (mwo, .inl (c_wo, 1875, .inl w_wo)), (mlu, .inl (c_lu, 20000, .inl w_lu)), (mfg, .inl (c_fg, 12, .inl w_fg)), (mpl, .inl (c_pl, 26, .inl w_pl))] s.heap := hP
  have hl := lv_entry ([.ref o0]) (n := 4) (Nat.le_of_ble_eq_true rfl)
  rw [lg_entry_eq]
  generalize (lg_sl ([.ref o0]) ++ List.replicate (4 - (lg_sl ([.ref o0])).length) Slot.unset).toArray = ls at hl ⊢
  have hl : lv_has ls 4 [(0, .ref o0)] := hl
  refine lv_iconst (v := 0) hx hb dX10_fillLuck_0 (by decide) ?_
  refine lv_istore_n (lv' := [(1, .int 0), (0, .ref o0)]) hx hb dX10_fillLuck_1 rfl hl (by decide) rfl (fun ls hl => ?_)
  refine loopW (σ := Int32 × (Nat → Int32) × (Nat → Int32) × (Nat → Int32)) (fun v => (20000 - v.1.toInt).toNat) (fun v H locs ls => ((0 : Int) ≤ v.1.toInt ∧ v.1.toInt ≤ 20000) ∧ (rg v.2.2.1 12 0 15) ∧ (rg v.2.2.2 26 0 1) ∧ va_P (dC, dI) vwCl [(o0, .inr (8, [.int x_th, .ref mwo, .ref mim, .ref mhi, .ref mlu, .ref mtp, .int x_td, .ref mfv, .int x_sz, .int x_at, .int x_fr, .int x_to, .int x_va, .int x_fk, .int x_fp, .ref mfr, .ref mwt, .int x_wt, .int x_op, .int x_jo, .ref mfg, .ref mpl, .long x_dr, .ref mtm, .ref mfa, .ref mqu, .ref mmo, .ref mwy, .ref mwn, .ref mma, .ref mwi, .ref mnu, .ref mmv])), (mwo, .inl (c_wo, 1875, .inl w_wo)), (mlu, .inl (c_lu, 20000, .inl v.2.1)), (mfg, .inl (c_fg, 12, .inl v.2.2.1)), (mpl, .inl (c_pl, 26, .inl v.2.2.2))] H ∧ va_D A [(o0, .inr (8, [.int x_th, .ref mwo, .ref mim, .ref mhi, .ref mlu, .ref mtp, .int x_td, .ref mfv, .int x_sz, .int x_at, .int x_fr, .int x_to, .int x_va, .int x_fk, .int x_fp, .ref mfr, .ref mwt, .int x_wt, .int x_op, .int x_jo, .ref mfg, .ref mpl, .long x_dr, .ref mtm, .ref mfa, .ref mqu, .ref mmo, .ref mwy, .ref mwn, .ref mma, .ref mwi, .ref mnu, .ref mmv])), (mwo, .inl (c_wo, 1875, .inl w_wo)), (mlu, .inl (c_lu, 20000, .inl v.2.1)), (mfg, .inl (c_fg, 12, .inl v.2.2.1)), (mpl, .inl (c_pl, 26, .inl v.2.2.2))] ∧ va_S A s.heap H locs ∧ lv_has ls 4 [(1, .int v.1), (0, .ref o0)]) (fun v H locs ls hI ih_2_3833 => ?_) ((0 : Int32), w_lu, w_fg, w_pl) ⟨(show (0 : Int) ≤ (0 : Int32).toInt ∧ (0 : Int32).toInt ≤ 20000 from (rg_w (by decide : (0 : Int) ≤ (0 : Int32).toInt ∧ (0 : Int32).toInt ≤ 0) (by decide) (by decide))), (show rg w_fg 12 0 15 from ha_mfg), (show rg w_pl 26 0 1 from ha_mpl), hP, hD, hS, lv_sub hl [0, 1] rfl⟩
  obtain ⟨y_2147, f_2148, f_2149, f_2150⟩ := v
  obtain ⟨b_y_2147, ha_f_2149, ha_f_2150, hP, hD, hS, hl⟩ := hI
  have b_y_2147 : (0 : Int) ≤ y_2147.toInt ∧ y_2147.toInt ≤ 20000 := b_y_2147
  have ha_f_2149 : rg f_2149 12 0 15 := ha_f_2149
  have ha_f_2150 : rg f_2150 26 0 1 := ha_f_2150
  have hP : va_P (dC, dI) vwCl [(o0, .inr (8, [.int x_th, .ref mwo, .ref mim, .ref mhi, .ref mlu, .ref mtp, .int x_td, .ref mfv, .int x_sz, .int x_at, .int x_fr, .int x_to, .int x_va, .int x_fk, .int x_fp, .ref mfr, .ref mwt, .int x_wt, .int x_op, .int x_jo, .ref mfg, .ref mpl, .long x_dr, .ref mtm, .ref mfa, .ref mqu, .ref mmo, .ref mwy, .ref mwn, .ref mma, .ref mwi, .ref mnu, .ref mmv])), (mwo, .inl (c_wo, 1875, .inl w_wo)), (mlu, .inl (c_lu, 20000, .inl f_2148)), (mfg, .inl (c_fg, 12, .inl f_2149)), (mpl, .inl (c_pl, 26, .inl f_2150))] H := hP
  have hD : va_D A [(o0, .inr (8, [.int x_th, .ref mwo, .ref mim, .ref mhi, .ref mlu, .ref mtp, .int x_td, .ref mfv, .int x_sz, .int x_at, .int x_fr, .int x_to, .int x_va, .int x_fk, .int x_fp, .ref mfr, .ref mwt, .int x_wt, .int x_op, .int x_jo, .ref mfg, .ref mpl, .long x_dr, .ref mtm, .ref mfa, .ref mqu, .ref mmo, .ref mwy, .ref mwn, .ref mma, .ref mwi, .ref mnu, .ref mmv])), (mwo, .inl (c_wo, 1875, .inl w_wo)), (mlu, .inl (c_lu, 20000, .inl f_2148)), (mfg, .inl (c_fg, 12, .inl f_2149)), (mpl, .inl (c_pl, 26, .inl f_2150))] := hD
  have hl : lv_has ls 4 [(1, .int y_2147), (0, .ref o0)] := hl
  refine lv_iload_n hx hb dX10_fillLuck_2 rfl (lv_at hl 0 rfl) ?_
  refine lv_aload_n hx hb dX10_fillLuck_3 rfl (lv_at hl 1 rfl) ?_
  refine va_get (D := (dC, dI)) (ci := 8) (v := .ref mwo) (C := RX10) (T := TX10) (N := 33) hx hb hts iX10_fillLuck_X10 hown hK hP 0 rfl rfl 1 (by decide) (hts (.fieldLink RX10 9 "LuckyTicketModel" "world" "[I") (List.mem_of_getElem? (i := 1) rfl)) (fun _ h9 => h9) rfl dX10_fillLuck_4 ?_
  refine lv_iconst (v := 2) hx hb dX10_fillLuck_7 (by decide) ?_
  refine va_iald hx hb hK hP 1 0 rfl rfl (vp_in_b (by decide : (2 : Int) ≤ (2 : Int32).toInt ∧ (2 : Int32).toInt ≤ 2) (by decide) (by decide)) dX10_fillLuck_8 ?_
  refine lv_topi (fun z_3834 e_z_3834 => ?_)
  obtain rfl : tk = z_3834 := (e_z_3834.trans hw2).symm
  refine lv_icmp_ge (tgt := 69) hx hb dX10_fillLuck_9 (by decide) (fun c_3835 => ?_) (fun c_3835 => ?_)
  ·
    have n_c_3835 : (tk.toInt : Int) ≤ y_2147.toInt := c_ge rfl rfl c_3835
    have hP9 := hP.sub (ws' := [(o0, .inr (8, [.int x_th, .ref mwo, .ref mim, .ref mhi, .ref mlu, .ref mtp, .int x_td, .ref mfv, .int x_sz, .int x_at, .int x_fr, .int x_to, .int x_va, .int x_fk, .int x_fp, .ref mfr, .ref mwt, .int x_wt, .int x_op, .int x_jo, .ref mfg, .ref mpl, .long x_dr, .ref mtm, .ref mfa, .ref mqu, .ref mmo, .ref mwy, .ref mwn, .ref mma, .ref mwi, .ref mnu, .ref mmv])), (mwo, .inl (c_wo, 1875, .inl w_wo)), (mlu, .inl (c_lu, 20000, .inl f_2148)), (mfg, .inl (c_fg, 12, .inl f_2149)), (mpl, .inl (c_pl, 26, .inl f_2150))]) [0, 1, 2, 3, 4] rfl
    have hD9 := hD.sub (ws' := [(o0, .inr (8, [.int x_th, .ref mwo, .ref mim, .ref mhi, .ref mlu, .ref mtp, .int x_td, .ref mfv, .int x_sz, .int x_at, .int x_fr, .int x_to, .int x_va, .int x_fk, .int x_fp, .ref mfr, .ref mwt, .int x_wt, .int x_op, .int x_jo, .ref mfg, .ref mpl, .long x_dr, .ref mtm, .ref mfa, .ref mqu, .ref mmo, .ref mwy, .ref mwn, .ref mma, .ref mwi, .ref mnu, .ref mmv])), (mwo, .inl (c_wo, 1875, .inl w_wo)), (mlu, .inl (c_lu, 20000, .inl f_2148)), (mfg, .inl (c_fg, 12, .inl f_2149)), (mpl, .inl (c_pl, 26, .inl f_2150))]) [0, 1, 2, 3, 4] (by decide) rfl
    have hK9 := hK.sub (tys' := [(c_wo, .int), (c_lu, .int), (c_fg, .int), (c_pl, .boolean)]) [0, 1, 2, 3] rfl
    exact W.vret hx hb hr (fun t ht hW => ⟨⟨(), rfl, trivial, f_2148, f_2149, f_2150, ha_f_2149, ha_f_2150, by rw [ht]; exact hP9, va_K.moved hW.alike hK9, hD9⟩, hS.F ht⟩) hS.2.2 dX10_fillLuck_69
  ·
    have n_c_3835 : (y_2147.toInt : Int) < tk.toInt := c_nge rfl rfl c_3835
    have b_y_2147 : (0 : Int) ≤ y_2147.toInt ∧ y_2147.toInt ≤ 19999 := r_lt1 b_y_2147 b_tk n_c_3835 (by decide)
    have b_tk : (1 : Int) ≤ tk.toInt ∧ tk.toInt ≤ 20000 := r_lt2 b_y_2147 b_tk n_c_3835 (by decide)
    refine lv_aload_n hx hb dX10_fillLuck_12 rfl (lv_at hl 1 rfl) ?_
    refine lv_iload_n hx hb dX10_fillLuck_13 rfl (lv_at hl 0 rfl) ?_
    have hFc := va_free (wc := [(o0, .inr (8, [.int x_th, .ref mwo, .ref mim, .ref mhi, .ref mlu, .ref mtp, .int x_td, .ref mfv, .int x_sz, .int x_at, .int x_fr, .int x_to, .int x_va, .int x_fk, .int x_fp, .ref mfr, .ref mwt, .int x_wt, .int x_op, .int x_jo, .ref mfg, .ref mpl, .long x_dr, .ref mtm, .ref mfa, .ref mqu, .ref mmo, .ref mwy, .ref mwn, .ref mma, .ref mwi, .ref mnu, .ref mmv])), (mwo, .inl (c_wo, 1875, .inl w_wo)), (mfg, .inl (c_fg, 12, .inl f_2149))]) hD hS hA [0, 1, 3] rfl
    refine va_callv (va_runV (As := [.int y_2147]) (rest := []) ⟨hx, hb, hml, hown, hts⟩ (kX10_fillFigures l dC dI o0 x_th mwo mim mhi mlu mtp x_td mfv x_sz x_at x_fr x_to x_va x_fk x_fp mfr mwt x_wt x_op x_jo mfg mpl x_dr mtm mfa mqu mmo mwy mwn mma mwi mnu mmv c_wo c_fg w_wo f_2149 ln bs tk lw li y_2147 (H.size) b_ln b_bs (rg_w b_tk (by decide) (by decide)) b_lw b_y_2147 ha_f_2149 (hw0) (hw1) (hw2) (hw3) (hw4) (hwz)) (cwV 1 hts gX10_fillLuck__X10_fillFigures_V302 rfl rfl rfl hd_yX10_fillFigures ⟨lel 1 4 rfl, lel 23 89 rfl⟩) ⟨hw_fb, rcv_X10 hK hP (q0 := 0) rfl, (hw_use hP hD hK hN [0, 1, 3] rfl (by decide) rfl [0, 2] rfl)⟩ rfl rfl hl.1 rfl (lv_room (Nat.le_of_ble_eq_true rfl)) dX10_fillLuck_14 ⟨lel 0 0 rfl, lel 0 0 rfl⟩) hS (fun q _ h => hFc q h) hFc (fun u_3837 t H1 locs ht hvm hw_r_3836 hB hz1 hk1 hS => ?_)
    obtain ⟨o0_3838, ha_3839, hP1, hK1, hD1⟩ := hB
    rw [ht] at hP1
    have hK1 := va_K.moved hvm.symm hK1
    obtain ⟨hP, hD⟩ := va_join (wr := [(mlu, .inl (c_lu, 20000, .inl f_2148)), (mpl, .inl (c_pl, 26, .inl f_2150))]) (w1 := [(o0, .inr (8, [.int x_th, .ref mwo, .ref mim, .ref mhi, .ref mlu, .ref mtp, .int x_td, .ref mfv, .int x_sz, .int x_at, .int x_fr, .int x_to, .int x_va, .int x_fk, .int x_fp, .ref mfr, .ref mwt, .int x_wt, .int x_op, .int x_jo, .ref mfg, .ref mpl, .long x_dr, .ref mtm, .ref mfa, .ref mqu, .ref mmo, .ref mwy, .ref mwn, .ref mma, .ref mwi, .ref mnu, .ref mmv])), (mwo, .inl (c_wo, 1875, .inl w_wo)), (mfg, .inl (c_fg, 12, .inl o0_3838))]) hP hD [0, 1, 3] [2, 4] rfl rfl (by decide) (by decide) hk1 hFc hP1 hD1
    have hK := (hK.sub (tys' := [(c_lu, .int), (c_pl, .boolean)]) [1, 3] rfl).app hK1
    generalize H1 = H at hP hS ⊢
    have hP := hP.sub (ws' := [(o0, .inr (8, [.int x_th, .ref mwo, .ref mim, .ref mhi, .ref mlu, .ref mtp, .int x_td, .ref mfv, .int x_sz, .int x_at, .int x_fr, .int x_to, .int x_va, .int x_fk, .int x_fp, .ref mfr, .ref mwt, .int x_wt, .int x_op, .int x_jo, .ref mfg, .ref mpl, .long x_dr, .ref mtm, .ref mfa, .ref mqu, .ref mmo, .ref mwy, .ref mwn, .ref mma, .ref mwi, .ref mnu, .ref mmv])), (mwo, .inl (c_wo, 1875, .inl w_wo)), (mlu, .inl (c_lu, 20000, .inl f_2148)), (mfg, .inl (c_fg, 12, .inl o0_3838)), (mpl, .inl (c_pl, 26, .inl f_2150))]) [2, 3, 0, 4, 1] rfl
    have hD := hD.sub (ws' := [(o0, .inr (8, [.int x_th, .ref mwo, .ref mim, .ref mhi, .ref mlu, .ref mtp, .int x_td, .ref mfv, .int x_sz, .int x_at, .int x_fr, .int x_to, .int x_va, .int x_fk, .int x_fp, .ref mfr, .ref mwt, .int x_wt, .int x_op, .int x_jo, .ref mfg, .ref mpl, .long x_dr, .ref mtm, .ref mfa, .ref mqu, .ref mmo, .ref mwy, .ref mwn, .ref mma, .ref mwi, .ref mnu, .ref mmv])), (mwo, .inl (c_wo, 1875, .inl w_wo)), (mlu, .inl (c_lu, 20000, .inl f_2148)), (mfg, .inl (c_fg, 12, .inl o0_3838)), (mpl, .inl (c_pl, 26, .inl f_2150))]) [2, 3, 0, 4, 1] (by decide) rfl
    have hK := hK.sub (tys' := [(c_wo, .int), (c_lu, .int), (c_fg, .int), (c_pl, .boolean)]) [2, 0, 3, 1] rfl
    have hP : va_P (dC, dI) vwCl [(o0, .inr (8, [.int x_th, .ref mwo, .ref mim, .ref mhi, .ref mlu, .ref mtp, .int x_td, .ref mfv, .int x_sz, .int x_at, .int x_fr, .int x_to, .int x_va, .int x_fk, .int x_fp, .ref mfr, .ref mwt, .int x_wt, .int x_op, .int x_jo, .ref mfg, .ref mpl, .long x_dr, .ref mtm, .ref mfa, .ref mqu, .ref mmo, .ref mwy, .ref mwn, .ref mma, .ref mwi, .ref mnu, .ref mmv])), (mwo, .inl (c_wo, 1875, .inl w_wo)), (mlu, .inl (c_lu, 20000, .inl f_2148)), (mfg, .inl (c_fg, 12, .inl o0_3838)), (mpl, .inl (c_pl, 26, .inl f_2150))] H := hP
    have hD : va_D A [(o0, .inr (8, [.int x_th, .ref mwo, .ref mim, .ref mhi, .ref mlu, .ref mtp, .int x_td, .ref mfv, .int x_sz, .int x_at, .int x_fr, .int x_to, .int x_va, .int x_fk, .int x_fp, .ref mfr, .ref mwt, .int x_wt, .int x_op, .int x_jo, .ref mfg, .ref mpl, .long x_dr, .ref mtm, .ref mfa, .ref mqu, .ref mmo, .ref mwy, .ref mwn, .ref mma, .ref mwi, .ref mnu, .ref mmv])), (mwo, .inl (c_wo, 1875, .inl w_wo)), (mlu, .inl (c_lu, 20000, .inl f_2148)), (mfg, .inl (c_fg, 12, .inl o0_3838)), (mpl, .inl (c_pl, 26, .inl f_2150))] := hD
    have hK : va_K (dC, dI) vwCl [(c_wo, .int), (c_lu, .int), (c_fg, .int), (c_pl, .boolean)] s := hK
    refine lv_iconst (v := 0) hx hb dX10_fillLuck_17 (by decide) ?_
    refine lv_istore_n (lv' := [(2, .int 0), (1, .int y_2147), (0, .ref o0)]) hx hb dX10_fillLuck_18 rfl hl (by decide) rfl (fun ls hl => ?_)
    refine lv_iconst (v := 0) hx hb dX10_fillLuck_19 (by decide) ?_
    refine lv_istore_n (lv' := [(3, .int 0), (2, .int 0), (1, .int y_2147), (0, .ref o0)]) hx hb dX10_fillLuck_20 rfl hl (by decide) rfl (fun ls hl => ?_)
    refine loopW (σ := Int32 × Int32 × (Nat → Int32)) (fun v => (9 - v.1.toInt).toNat) (fun v H locs ls => ((0 : Int) ≤ v.1.toInt ∧ v.1.toInt ≤ 9) ∧ (rg v.2.2 26 0 1) ∧ va_P (dC, dI) vwCl [(o0, .inr (8, [.int x_th, .ref mwo, .ref mim, .ref mhi, .ref mlu, .ref mtp, .int x_td, .ref mfv, .int x_sz, .int x_at, .int x_fr, .int x_to, .int x_va, .int x_fk, .int x_fp, .ref mfr, .ref mwt, .int x_wt, .int x_op, .int x_jo, .ref mfg, .ref mpl, .long x_dr, .ref mtm, .ref mfa, .ref mqu, .ref mmo, .ref mwy, .ref mwn, .ref mma, .ref mwi, .ref mnu, .ref mmv])), (mwo, .inl (c_wo, 1875, .inl w_wo)), (mlu, .inl (c_lu, 20000, .inl f_2148)), (mfg, .inl (c_fg, 12, .inl o0_3838)), (mpl, .inl (c_pl, 26, .inl v.2.2))] H ∧ va_D A [(o0, .inr (8, [.int x_th, .ref mwo, .ref mim, .ref mhi, .ref mlu, .ref mtp, .int x_td, .ref mfv, .int x_sz, .int x_at, .int x_fr, .int x_to, .int x_va, .int x_fk, .int x_fp, .ref mfr, .ref mwt, .int x_wt, .int x_op, .int x_jo, .ref mfg, .ref mpl, .long x_dr, .ref mtm, .ref mfa, .ref mqu, .ref mmo, .ref mwy, .ref mwn, .ref mma, .ref mwi, .ref mnu, .ref mmv])), (mwo, .inl (c_wo, 1875, .inl w_wo)), (mlu, .inl (c_lu, 20000, .inl f_2148)), (mfg, .inl (c_fg, 12, .inl o0_3838)), (mpl, .inl (c_pl, 26, .inl v.2.2))] ∧ va_S A s.heap H locs ∧ lv_has ls 4 [(3, .int v.1), (2, .int v.2.1), (1, .int y_2147), (0, .ref o0)]) (fun v H locs ls hI ih_21_3962 => ?_) ((0 : Int32), (0 : Int32), f_2150) ⟨(show (0 : Int) ≤ (0 : Int32).toInt ∧ (0 : Int32).toInt ≤ 9 from (rg_w (by decide : (0 : Int) ≤ (0 : Int32).toInt ∧ (0 : Int32).toInt ≤ 0) (by decide) (by decide))), (show rg f_2150 26 0 1 from ha_f_2150), hP, hD, hS, lv_sub hl [0, 1, 2, 3] rfl⟩
    obtain ⟨y_3864, y_3865, f_3866⟩ := v
    obtain ⟨b_y_3864, ha_f_3866, hP, hD, hS, hl⟩ := hI
    have b_y_3864 : (0 : Int) ≤ y_3864.toInt ∧ y_3864.toInt ≤ 9 := b_y_3864
    have ha_f_3866 : rg f_3866 26 0 1 := ha_f_3866
    have hP : va_P (dC, dI) vwCl [(o0, .inr (8, [.int x_th, .ref mwo, .ref mim, .ref mhi, .ref mlu, .ref mtp, .int x_td, .ref mfv, .int x_sz, .int x_at, .int x_fr, .int x_to, .int x_va, .int x_fk, .int x_fp, .ref mfr, .ref mwt, .int x_wt, .int x_op, .int x_jo, .ref mfg, .ref mpl, .long x_dr, .ref mtm, .ref mfa, .ref mqu, .ref mmo, .ref mwy, .ref mwn, .ref mma, .ref mwi, .ref mnu, .ref mmv])), (mwo, .inl (c_wo, 1875, .inl w_wo)), (mlu, .inl (c_lu, 20000, .inl f_2148)), (mfg, .inl (c_fg, 12, .inl o0_3838)), (mpl, .inl (c_pl, 26, .inl f_3866))] H := hP
    have hD : va_D A [(o0, .inr (8, [.int x_th, .ref mwo, .ref mim, .ref mhi, .ref mlu, .ref mtp, .int x_td, .ref mfv, .int x_sz, .int x_at, .int x_fr, .int x_to, .int x_va, .int x_fk, .int x_fp, .ref mfr, .ref mwt, .int x_wt, .int x_op, .int x_jo, .ref mfg, .ref mpl, .long x_dr, .ref mtm, .ref mfa, .ref mqu, .ref mmo, .ref mwy, .ref mwn, .ref mma, .ref mwi, .ref mnu, .ref mmv])), (mwo, .inl (c_wo, 1875, .inl w_wo)), (mlu, .inl (c_lu, 20000, .inl f_2148)), (mfg, .inl (c_fg, 12, .inl o0_3838)), (mpl, .inl (c_pl, 26, .inl f_3866))] := hD
    have hl : lv_has ls 4 [(3, .int y_3864), (2, .int y_3865), (1, .int y_2147), (0, .ref o0)] := hl
    refine lv_iload_n hx hb dX10_fillLuck_21 rfl (lv_at hl 0 rfl) ?_
    refine lv_aload_n hx hb dX10_fillLuck_22 rfl (lv_at hl 3 rfl) ?_
    refine va_get (D := (dC, dI)) (ci := 8) (v := .ref mwo) (C := RX10) (T := TX10) (N := 33) hx hb hts iX10_fillLuck_X10 hown hK hP 0 rfl rfl 1 (by decide) (hts (.fieldLink RX10 9 "LuckyTicketModel" "world" "[I") (List.mem_of_getElem? (i := 1) rfl)) (fun _ h9 => h9) rfl dX10_fillLuck_23 ?_
    refine lv_iconst (v := 3) hx hb dX10_fillLuck_26 (by decide) ?_
    refine va_iald hx hb hK hP 1 0 rfl rfl (vp_in_b (by decide : (3 : Int) ≤ (3 : Int32).toInt ∧ (3 : Int32).toInt ≤ 3) (by decide) (by decide)) dX10_fillLuck_27 ?_
    refine lv_topi (fun z_3963 e_z_3963 => ?_)
    obtain rfl : lw = z_3963 := (e_z_3963.trans hw3).symm
    refine lv_icmp_ge (tgt := 56) hx hb dX10_fillLuck_28 (by decide) (fun c_3964 => ?_) (fun c_3964 => ?_)
    ·
      have n_c_3964 : (lw.toInt : Int) ≤ y_3864.toInt := c_ge rfl rfl c_3964
      refine lv_aload_n hx hb dX10_fillLuck_56 rfl (lv_at hl 3 rfl) ?_
      refine va_get (D := (dC, dI)) (ci := 8) (v := .ref mlu) (C := RX10) (T := TX10) (N := 33) hx hb hts iX10_fillLuck_X10 hown hK hP 0 rfl rfl 4 (by decide) (hts (.fieldLink RX10 20 "LuckyTicketModel" "luck" "[I") (List.mem_of_getElem? (i := 9) rfl)) (fun _ h9 => h9) rfl dX10_fillLuck_57 ?_
      refine lv_iload_n hx hb dX10_fillLuck_60 rfl (lv_at hl 2 rfl) ?_
      refine lv_iload_n hx hb dX10_fillLuck_61 rfl (lv_at hl 1 rfl) ?_
      refine va_iast hx hb hK hP hD hS 2 1 rfl rfl (vp_in_b b_y_2147 (by decide) (by decide)) dX10_fillLuck_62 (fun H locs hP hD hS => ?_)
      have hP : va_P (dC, dI) vwCl [(o0, .inr (8, [.int x_th, .ref mwo, .ref mim, .ref mhi, .ref mlu, .ref mtp, .int x_td, .ref mfv, .int x_sz, .int x_at, .int x_fr, .int x_to, .int x_va, .int x_fk, .int x_fp, .ref mfr, .ref mwt, .int x_wt, .int x_op, .int x_jo, .ref mfg, .ref mpl, .long x_dr, .ref mtm, .ref mfa, .ref mqu, .ref mmo, .ref mwy, .ref mwn, .ref mma, .ref mwi, .ref mnu, .ref mmv])), (mwo, .inl (c_wo, 1875, .inl w_wo)), (mlu, .inl (c_lu, 20000, .inl (upd f_2148 (y_2147 : Int32).toNatClampNeg y_3865))), (mfg, .inl (c_fg, 12, .inl o0_3838)), (mpl, .inl (c_pl, 26, .inl f_3866))] H := hP
      have hD : va_D A [(o0, .inr (8, [.int x_th, .ref mwo, .ref mim, .ref mhi, .ref mlu, .ref mtp, .int x_td, .ref mfv, .int x_sz, .int x_at, .int x_fr, .int x_to, .int x_va, .int x_fk, .int x_fp, .ref mfr, .ref mwt, .int x_wt, .int x_op, .int x_jo, .ref mfg, .ref mpl, .long x_dr, .ref mtm, .ref mfa, .ref mqu, .ref mmo, .ref mwy, .ref mwn, .ref mma, .ref mwi, .ref mnu, .ref mmv])), (mwo, .inl (c_wo, 1875, .inl w_wo)), (mlu, .inl (c_lu, 20000, .inl (upd f_2148 (y_2147 : Int32).toNatClampNeg y_3865))), (mfg, .inl (c_fg, 12, .inl o0_3838)), (mpl, .inl (c_pl, 26, .inl f_3866))] := hD
      generalize (upd f_2148 (y_2147 : Int32).toNatClampNeg y_3865) = f_3975 at hP hD
      have hP : va_P (dC, dI) vwCl [(o0, .inr (8, [.int x_th, .ref mwo, .ref mim, .ref mhi, .ref mlu, .ref mtp, .int x_td, .ref mfv, .int x_sz, .int x_at, .int x_fr, .int x_to, .int x_va, .int x_fk, .int x_fp, .ref mfr, .ref mwt, .int x_wt, .int x_op, .int x_jo, .ref mfg, .ref mpl, .long x_dr, .ref mtm, .ref mfa, .ref mqu, .ref mmo, .ref mwy, .ref mwn, .ref mma, .ref mwi, .ref mnu, .ref mmv])), (mwo, .inl (c_wo, 1875, .inl w_wo)), (mlu, .inl (c_lu, 20000, .inl f_3975)), (mfg, .inl (c_fg, 12, .inl o0_3838)), (mpl, .inl (c_pl, 26, .inl f_3866))] H := hP
      have hD : va_D A [(o0, .inr (8, [.int x_th, .ref mwo, .ref mim, .ref mhi, .ref mlu, .ref mtp, .int x_td, .ref mfv, .int x_sz, .int x_at, .int x_fr, .int x_to, .int x_va, .int x_fk, .int x_fp, .ref mfr, .ref mwt, .int x_wt, .int x_op, .int x_jo, .ref mfg, .ref mpl, .long x_dr, .ref mtm, .ref mfa, .ref mqu, .ref mmo, .ref mwy, .ref mwn, .ref mma, .ref mwi, .ref mnu, .ref mmv])), (mwo, .inl (c_wo, 1875, .inl w_wo)), (mlu, .inl (c_lu, 20000, .inl f_3975)), (mfg, .inl (c_fg, 12, .inl o0_3838)), (mpl, .inl (c_pl, 26, .inl f_3866))] := hD
      obtain ⟨z_3976, e_z_3976⟩ : ∃ y : Int32, y = y_2147 + 1 := ⟨_, rfl⟩
      refine lv_iinc (v := z_3976) (lv' := [(1, .int z_3976), (3, .int y_3864), (2, .int y_3865), (0, .ref o0)]) hx hb dX10_fillLuck_63 hl (k := 2) rfl (by rw [e_z_3976]; rfl) (by decide) rfl (fun ls hl => ?_)
      obtain ⟨q_z_3976, b_z_3976⟩ := ti_add (lo := 1) (hi := 20000) e_z_3976 rfl (by decide : (1 : Int32).toInt = 1) b_y_2147 (by decide : (1 : Int) ≤ (1 : Int32).toInt ∧ (1 : Int32).toInt ≤ 1) (by decide)
      refine lv_goto (tgt := 2) hx hb dX10_fillLuck_66 (by decide) ?_
      exact ih_2_3833 (z_3976, f_3975, o0_3838, f_3866) _ _ _ ⟨(show (0 : Int) ≤ z_3976.toInt ∧ z_3976.toInt ≤ 20000 from (rg_w b_z_3976 (by decide) (by decide))), (show rg o0_3838 12 0 15 from ha_3839), (show rg f_3866 26 0 1 from ha_f_3866), hP, hD, hS, lv_sub hl [0, 3] rfl⟩ (show (20000 - z_3976.toInt).toNat < (20000 - y_2147.toInt).toNat by omega)
    ·
      have n_c_3964 : (y_3864.toInt : Int) < lw.toInt := c_nge rfl rfl c_3964
      have b_y_3864 : (0 : Int) ≤ y_3864.toInt ∧ y_3864.toInt ≤ 8 := r_lt1 b_y_3864 b_lw n_c_3964 (by decide)
      have b_lw : (1 : Int) ≤ lw.toInt ∧ lw.toInt ≤ 9 := r_lt2 b_y_3864 b_lw n_c_3964 (by decide)
      refine lv_iload_n hx hb dX10_fillLuck_31 rfl (lv_at hl 1 rfl) ?_
      refine lv_aload_n hx hb dX10_fillLuck_32 rfl (lv_at hl 3 rfl) ?_
      refine lv_iload_n hx hb dX10_fillLuck_33 rfl (lv_at hl 0 rfl) ?_
      refine lv_iload_n hx hb dX10_fillLuck_34 rfl (lv_at hl 1 rfl) ?_
      have hFc := va_free (wc := [(o0, .inr (8, [.int x_th, .ref mwo, .ref mim, .ref mhi, .ref mlu, .ref mtp, .int x_td, .ref mfv, .int x_sz, .int x_at, .int x_fr, .int x_to, .int x_va, .int x_fk, .int x_fp, .ref mfr, .ref mwt, .int x_wt, .int x_op, .int x_jo, .ref mfg, .ref mpl, .long x_dr, .ref mtm, .ref mfa, .ref mqu, .ref mmo, .ref mwy, .ref mwn, .ref mma, .ref mwi, .ref mnu, .ref mmv])), (mwo, .inl (c_wo, 1875, .inl w_wo)), (mfg, .inl (c_fg, 12, .inl o0_3838)), (mpl, .inl (c_pl, 26, .inl f_3866))]) hD hS hA [0, 1, 3, 4] rfl
      refine va_calli (va_runV (As := [.int y_3864, .int y_3865]) (rest := [.int y_3865]) ⟨hx, hb, hml, hown, hts⟩ (kX10_isBy l dC dI o0 x_th mwo mim mhi mlu mtp x_td mfv x_sz x_at x_fr x_to x_va x_fk x_fp mfr mwt x_wt x_op x_jo mfg mpl x_dr mtm mfa mqu mmo mwy mwn mma mwi mnu mmv c_wo c_fg c_pl w_wo o0_3838 f_3866 ln bs tk lw li y_3864 y_3865 (H.size) b_ln b_bs (rg_w b_tk (by decide) (by decide)) (rg_w b_lw (by decide) (by decide)) b_y_3864 ha_3839 ha_f_3866 (hw0) (hw1) (hw2) (hw3) (hw4) (hwz) (by omega) (hpv)) (cwV 2 hts gX10_fillLuck__X10_isBy_V305 rfl rfl rfl hd_yX10_isBy ⟨lel 4 4 rfl, lel 89 89 rfl⟩) ⟨hw_fb, rcv_X10 hK hP (q0 := 0) rfl, (hw_use hP hD hK hN [0, 1, 3, 4] rfl (by decide) rfl [0, 2, 3] rfl)⟩ rfl rfl hl.1 rfl (lv_room (Nat.le_of_ble_eq_true rfl)) dX10_fillLuck_35 ⟨lel 0 0 rfl, lel 0 0 rfl⟩) hS (fun q _ h => hFc q h) hFc (fun r_3977 u_3978 t H1 locs ht hvm hw_r_3977 hB hz1 hk1 hS => ?_)
      obtain ⟨o0_3979, ha_3980, hP1, hK1, hD1⟩ := hB
      rw [ht] at hP1
      have hK1 := va_K.moved hvm.symm hK1
      obtain ⟨hP, hD⟩ := va_join (wr := [(mlu, .inl (c_lu, 20000, .inl f_2148))]) (w1 := [(o0, .inr (8, [.int x_th, .ref mwo, .ref mim, .ref mhi, .ref mlu, .ref mtp, .int x_td, .ref mfv, .int x_sz, .int x_at, .int x_fr, .int x_to, .int x_va, .int x_fk, .int x_fp, .ref mfr, .ref mwt, .int x_wt, .int x_op, .int x_jo, .ref mfg, .ref mpl, .long x_dr, .ref mtm, .ref mfa, .ref mqu, .ref mmo, .ref mwy, .ref mwn, .ref mma, .ref mwi, .ref mnu, .ref mmv])), (mwo, .inl (c_wo, 1875, .inl w_wo)), (mfg, .inl (c_fg, 12, .inl o0_3838)), (mpl, .inl (c_pl, 26, .inl o0_3979))]) hP hD [0, 1, 3, 4] [2] rfl rfl (by decide) (by decide) hk1 hFc hP1 hD1
      have hK := (hK.sub (tys' := [(c_lu, .int)]) [1] rfl).app hK1
      generalize H1 = H at hP hS ⊢
      have hP := hP.sub (ws' := [(o0, .inr (8, [.int x_th, .ref mwo, .ref mim, .ref mhi, .ref mlu, .ref mtp, .int x_td, .ref mfv, .int x_sz, .int x_at, .int x_fr, .int x_to, .int x_va, .int x_fk, .int x_fp, .ref mfr, .ref mwt, .int x_wt, .int x_op, .int x_jo, .ref mfg, .ref mpl, .long x_dr, .ref mtm, .ref mfa, .ref mqu, .ref mmo, .ref mwy, .ref mwn, .ref mma, .ref mwi, .ref mnu, .ref mmv])), (mwo, .inl (c_wo, 1875, .inl w_wo)), (mlu, .inl (c_lu, 20000, .inl f_2148)), (mfg, .inl (c_fg, 12, .inl o0_3838)), (mpl, .inl (c_pl, 26, .inl o0_3979))]) [1, 2, 0, 3, 4] rfl
      have hD := hD.sub (ws' := [(o0, .inr (8, [.int x_th, .ref mwo, .ref mim, .ref mhi, .ref mlu, .ref mtp, .int x_td, .ref mfv, .int x_sz, .int x_at, .int x_fr, .int x_to, .int x_va, .int x_fk, .int x_fp, .ref mfr, .ref mwt, .int x_wt, .int x_op, .int x_jo, .ref mfg, .ref mpl, .long x_dr, .ref mtm, .ref mfa, .ref mqu, .ref mmo, .ref mwy, .ref mwn, .ref mma, .ref mwi, .ref mnu, .ref mmv])), (mwo, .inl (c_wo, 1875, .inl w_wo)), (mlu, .inl (c_lu, 20000, .inl f_2148)), (mfg, .inl (c_fg, 12, .inl o0_3838)), (mpl, .inl (c_pl, 26, .inl o0_3979))]) [1, 2, 0, 3, 4] (by decide) rfl
      have hK := hK.sub (tys' := [(c_wo, .int), (c_lu, .int), (c_fg, .int), (c_pl, .boolean)]) [1, 0, 2, 3] rfl
      have hP : va_P (dC, dI) vwCl [(o0, .inr (8, [.int x_th, .ref mwo, .ref mim, .ref mhi, .ref mlu, .ref mtp, .int x_td, .ref mfv, .int x_sz, .int x_at, .int x_fr, .int x_to, .int x_va, .int x_fk, .int x_fp, .ref mfr, .ref mwt, .int x_wt, .int x_op, .int x_jo, .ref mfg, .ref mpl, .long x_dr, .ref mtm, .ref mfa, .ref mqu, .ref mmo, .ref mwy, .ref mwn, .ref mma, .ref mwi, .ref mnu, .ref mmv])), (mwo, .inl (c_wo, 1875, .inl w_wo)), (mlu, .inl (c_lu, 20000, .inl f_2148)), (mfg, .inl (c_fg, 12, .inl o0_3838)), (mpl, .inl (c_pl, 26, .inl o0_3979))] H := hP
      have hD : va_D A [(o0, .inr (8, [.int x_th, .ref mwo, .ref mim, .ref mhi, .ref mlu, .ref mtp, .int x_td, .ref mfv, .int x_sz, .int x_at, .int x_fr, .int x_to, .int x_va, .int x_fk, .int x_fp, .ref mfr, .ref mwt, .int x_wt, .int x_op, .int x_jo, .ref mfg, .ref mpl, .long x_dr, .ref mtm, .ref mfa, .ref mqu, .ref mmo, .ref mwy, .ref mwn, .ref mma, .ref mwi, .ref mnu, .ref mmv])), (mwo, .inl (c_wo, 1875, .inl w_wo)), (mlu, .inl (c_lu, 20000, .inl f_2148)), (mfg, .inl (c_fg, 12, .inl o0_3838)), (mpl, .inl (c_pl, 26, .inl o0_3979))] := hD
      have hK : va_K (dC, dI) vwCl [(c_wo, .int), (c_lu, .int), (c_fg, .int), (c_pl, .boolean)] s := hK
      have b_r_3977 := hw_r_3977
      have b_r_3977 : (0 : Int) ≤ r_3977.toInt ∧ r_3977.toInt ≤ 1 := b_r_3977
      refine cutW (σ := Int32) (pc2 := 48) (st2 := fun v => [.int v, .int y_3865]) (cells2 := 0) (slots2 := 0) (fun v H locs ls => va_P (dC, dI) vwCl [(o0, .inr (8, [.int x_th, .ref mwo, .ref mim, .ref mhi, .ref mlu, .ref mtp, .int x_td, .ref mfv, .int x_sz, .int x_at, .int x_fr, .int x_to, .int x_va, .int x_fk, .int x_fp, .ref mfr, .ref mwt, .int x_wt, .int x_op, .int x_jo, .ref mfg, .ref mpl, .long x_dr, .ref mtm, .ref mfa, .ref mqu, .ref mmo, .ref mwy, .ref mwn, .ref mma, .ref mwi, .ref mnu, .ref mmv])), (mwo, .inl (c_wo, 1875, .inl w_wo)), (mlu, .inl (c_lu, 20000, .inl f_2148)), (mfg, .inl (c_fg, 12, .inl o0_3838)), (mpl, .inl (c_pl, 26, .inl o0_3979))] H ∧ va_D A [(o0, .inr (8, [.int x_th, .ref mwo, .ref mim, .ref mhi, .ref mlu, .ref mtp, .int x_td, .ref mfv, .int x_sz, .int x_at, .int x_fr, .int x_to, .int x_va, .int x_fk, .int x_fp, .ref mfr, .ref mwt, .int x_wt, .int x_op, .int x_jo, .ref mfg, .ref mpl, .long x_dr, .ref mtm, .ref mfa, .ref mqu, .ref mmo, .ref mwy, .ref mwn, .ref mma, .ref mwi, .ref mnu, .ref mmv])), (mwo, .inl (c_wo, 1875, .inl w_wo)), (mlu, .inl (c_lu, 20000, .inl f_2148)), (mfg, .inl (c_fg, 12, .inl o0_3838)), (mpl, .inl (c_pl, 26, .inl o0_3979))] ∧ va_S A s.heap H locs ∧ lv_has ls 4 [(3, .int y_3864), (2, .int y_3865), (1, .int y_2147), (0, .ref o0)]) (fun v H locs ls hI => ?_) (fun hj_48_3983 => ?_)
      ·
        obtain ⟨y_3983, rfl⟩ : ∃ z, z = v := ⟨_, rfl⟩
        obtain ⟨hP, hD, hS, hl⟩ := hI
        have hP : va_P (dC, dI) vwCl [(o0, .inr (8, [.int x_th, .ref mwo, .ref mim, .ref mhi, .ref mlu, .ref mtp, .int x_td, .ref mfv, .int x_sz, .int x_at, .int x_fr, .int x_to, .int x_va, .int x_fk, .int x_fp, .ref mfr, .ref mwt, .int x_wt, .int x_op, .int x_jo, .ref mfg, .ref mpl, .long x_dr, .ref mtm, .ref mfa, .ref mqu, .ref mmo, .ref mwy, .ref mwn, .ref mma, .ref mwi, .ref mnu, .ref mmv])), (mwo, .inl (c_wo, 1875, .inl w_wo)), (mlu, .inl (c_lu, 20000, .inl f_2148)), (mfg, .inl (c_fg, 12, .inl o0_3838)), (mpl, .inl (c_pl, 26, .inl o0_3979))] H := hP
        have hD : va_D A [(o0, .inr (8, [.int x_th, .ref mwo, .ref mim, .ref mhi, .ref mlu, .ref mtp, .int x_td, .ref mfv, .int x_sz, .int x_at, .int x_fr, .int x_to, .int x_va, .int x_fk, .int x_fp, .ref mfr, .ref mwt, .int x_wt, .int x_op, .int x_jo, .ref mfg, .ref mpl, .long x_dr, .ref mtm, .ref mfa, .ref mqu, .ref mmo, .ref mwy, .ref mwn, .ref mma, .ref mwi, .ref mnu, .ref mmv])), (mwo, .inl (c_wo, 1875, .inl w_wo)), (mlu, .inl (c_lu, 20000, .inl f_2148)), (mfg, .inl (c_fg, 12, .inl o0_3838)), (mpl, .inl (c_pl, 26, .inl o0_3979))] := hD
        have hl : lv_has ls 4 [(3, .int y_3864), (2, .int y_3865), (1, .int y_2147), (0, .ref o0)] := hl
        refine lv_ior hx hb dX10_fillLuck_48 ?_
        refine lv_topi (fun z_3984 e_z_3984 => ?_)
        refine lv_istore_n (lv' := [(2, .int z_3984), (3, .int y_3864), (1, .int y_2147), (0, .ref o0)]) hx hb dX10_fillLuck_49 rfl hl (by decide) rfl (fun ls hl => ?_)
        obtain ⟨z_3985, e_z_3985⟩ : ∃ y : Int32, y = y_3864 + 1 := ⟨_, rfl⟩
        refine lv_iinc (v := z_3985) (lv' := [(3, .int z_3985), (2, .int z_3984), (1, .int y_2147), (0, .ref o0)]) hx hb dX10_fillLuck_50 hl (k := 1) rfl (by rw [e_z_3985]; rfl) (by decide) rfl (fun ls hl => ?_)
        obtain ⟨q_z_3985, b_z_3985⟩ := ti_add (lo := 1) (hi := 9) e_z_3985 rfl (by decide : (1 : Int32).toInt = 1) b_y_3864 (by decide : (1 : Int) ≤ (1 : Int32).toInt ∧ (1 : Int32).toInt ≤ 1) (by decide)
        refine lv_goto (tgt := 21) hx hb dX10_fillLuck_53 (by decide) ?_
        exact ih_21_3962 (z_3985, z_3984, o0_3979) _ _ _ ⟨(show (0 : Int) ≤ z_3985.toInt ∧ z_3985.toInt ≤ 9 from (rg_w b_z_3985 (by decide) (by decide))), (show rg o0_3979 26 0 1 from ha_3980), hP, hD, hS, lv_sub hl [0, 1, 2, 3] rfl⟩ (show (9 - z_3985.toInt).toNat < (9 - y_3864.toInt).toNat by omega)
      ·
        refine lv_if_eq (tgt := 47) hx hb dX10_fillLuck_38 (by decide) (fun c_3981 => ?_) (fun c_3981 => ?_)
        ·
          have n_c_3981 : (r_3977.toInt : Int) = 0 := c_eq rfl (by decide) c_3981
          have b_r_3977 : (0 : Int) ≤ r_3977.toInt ∧ r_3977.toInt ≤ 0 := r_eq1 b_r_3977 (by decide : (0 : Int) ≤ (0 : Int32).toInt ∧ (0 : Int32).toInt ≤ 0) n_c_3981 (by decide)
          refine lv_iconst (v := 0) hx hb dX10_fillLuck_47 (by decide) ?_
          exact hj_48_3983 (0 : Int32) _ _ _ ⟨hP, hD, hS, lv_sub hl [0, 1, 2, 3] rfl⟩
        ·
          have n_c_3981 : (r_3977.toInt : Int) ≠ 0 := c_ne rfl (by decide) c_3981
          have b_r_3977 : (1 : Int) ≤ r_3977.toInt ∧ r_3977.toInt ≤ 1 := r_ne1 b_r_3977 (by decide : (0 : Int) ≤ (0 : Int32).toInt ∧ (0 : Int32).toInt ≤ 0) n_c_3981 (by decide)
          refine lv_iconst (v := 1) hx hb dX10_fillLuck_41 (by decide) ?_
          refine lv_iload_n hx hb dX10_fillLuck_42 rfl (lv_at hl 0 rfl) ?_
          refine lv_ishl hx hb dX10_fillLuck_43 ?_
          refine lv_topi (fun z_3986 e_z_3986 => ?_)
          refine lv_goto (tgt := 48) hx hb dX10_fillLuck_44 (by decide) ?_
          exact hj_48_3983 z_3986 _ _ _ ⟨hP, hD, hS, lv_sub hl [0, 1, 2, 3] rfl⟩
