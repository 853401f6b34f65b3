theorem dX1_readKind_0 : decode cX1_readKind 0 = .ok (.aload_n 0, 1) := by decide +kernel
theorem dX1_readKind_1 : decode cX1_readKind 1 = .ok (.getfield 19, 3) := by decide +kernel
theorem dX1_readKind_4 : decode cX1_readKind 4 = .ok (.getfield 74, 3) := by decide +kernel
theorem dX1_readKind_7 : decode cX1_readKind 7 = .ok (.istore_n 2, 1) := by decide +kernel
theorem dX1_readKind_8 : decode cX1_readKind 8 = .ok (.aload_n 0, 1) := by decide +kernel
theorem dX1_readKind_9 : decode cX1_readKind 9 = .ok (.bipush 40, 2) := by decide +kernel
theorem dX1_readKind_11 : decode cX1_readKind 11 = .ok (.invokevirtual 119, 3) := by decide +kernel
theorem dX1_readKind_14 : decode cX1_readKind 14 = .ok (.ifCond .ne 12, 3) := by decide +kernel
theorem dX1_readKind_17 : decode cX1_readKind 17 = .ok (.aload_n 0, 1) := by decide +kernel
theorem dX1_readKind_18 : decode cX1_readKind 18 = .ok (.ldc 123, 2) := by decide +kernel
theorem dX1_readKind_20 : decode cX1_readKind 20 = .ok (.invokevirtual 89, 3) := by decide +kernel
theorem dX1_readKind_23 : decode cX1_readKind 23 = .ok (.ifCond .eq 7, 3) := by decide +kernel
theorem dX1_readKind_26 : decode cX1_readKind 26 = .ok (.iconst 1, 1) := by decide +kernel
theorem dX1_readKind_27 : decode cX1_readKind 27 = .ok (.goto 4, 3) := by decide +kernel
theorem dX1_readKind_30 : decode cX1_readKind 30 = .ok (.iconst 0, 1) := by decide +kernel
theorem dX1_readKind_31 : decode cX1_readKind 31 = .ok (.istore_n 3, 1) := by decide +kernel
theorem dX1_readKind_32 : decode cX1_readKind 32 = .ok (.aload_n 0, 1) := by decide +kernel
theorem dX1_readKind_33 : decode cX1_readKind 33 = .ok (.getfield 23, 3) := by decide +kernel
theorem dX1_readKind_36 : decode cX1_readKind 36 = .ok (.ifCond .eq 4, 3) := by decide +kernel
theorem dX1_readKind_39 : decode cX1_readKind 39 = .ok (.return_, 1) := by decide +kernel
theorem dX1_readKind_40 : decode cX1_readKind 40 = .ok (.iload_n 3, 1) := by decide +kernel
theorem dX1_readKind_41 : decode cX1_readKind 41 = .ok (.ifCond .eq 17, 3) := by decide +kernel
theorem dX1_readKind_44 : decode cX1_readKind 44 = .ok (.iload_n 1, 1) := by decide +kernel
theorem dX1_readKind_45 : decode cX1_readKind 45 = .ok (.bipush 6, 2) := by decide +kernel
theorem dX1_readKind_47 : decode cX1_readKind 47 = .ok (.if_icmp .lt 11, 3) := by decide +kernel
theorem dX1_readKind_50 : decode cX1_readKind 50 = .ok (.aload_n 0, 1) := by decide +kernel
theorem dX1_readKind_51 : decode cX1_readKind 51 = .ok (.iconst 3, 1) := by decide +kernel
theorem dX1_readKind_52 : decode cX1_readKind 52 = .ok (.invokevirtual 96, 3) := by decide +kernel
theorem dX1_readKind_55 : decode cX1_readKind 55 = .ok (.goto 313, 3) := by decide +kernel
theorem dX1_readKind_58 : decode cX1_readKind 58 = .ok (.aload_n 0, 1) := by decide +kernel
theorem dX1_readKind_59 : decode cX1_readKind 59 = .ok (.bipush 40, 2) := by decide +kernel
theorem dX1_readKind_61 : decode cX1_readKind 61 = .ok (.invokevirtual 119, 3) := by decide +kernel
theorem dX1_readKind_64 : decode cX1_readKind 64 = .ok (.ifCond .eq 23, 3) := by decide +kernel
theorem dX1_readKind_87 : decode cX1_readKind 87 = .ok (.aload_n 0, 1) := by decide +kernel
theorem dX1_readKind_88 : decode cX1_readKind 88 = .ok (.ldc 123, 2) := by decide +kernel
theorem dX1_readKind_90 : decode cX1_readKind 90 = .ok (.invokevirtual 89, 3) := by decide +kernel
theorem dX1_readKind_93 : decode cX1_readKind 93 = .ok (.ifCond .eq 28, 3) := by decide +kernel
theorem dX1_readKind_121 : decode cX1_readKind 121 = .ok (.aload_n 0, 1) := by decide +kernel
theorem dX1_readKind_122 : decode cX1_readKind 122 = .ok (.ldc 125, 2) := by decide +kernel
theorem dX1_readKind_124 : decode cX1_readKind 124 = .ok (.invokevirtual 89, 3) := by decide +kernel
theorem dX1_readKind_127 : decode cX1_readKind 127 = .ok (.ifCond .eq 19, 3) := by decide +kernel
theorem dX1_readKind_130 : decode cX1_readKind 130 = .ok (.aload_n 0, 1) := by decide +kernel
theorem dX1_readKind_131 : decode cX1_readKind 131 = .ok (.iconst 0, 1) := by decide +kernel
theorem dX1_readKind_132 : decode cX1_readKind 132 = .ok (.iload_n 2, 1) := by decide +kernel
theorem dX1_readKind_133 : decode cX1_readKind 133 = .ok (.invokestatic 127, 3) := by decide +kernel
theorem dX1_readKind_136 : decode cX1_readKind 136 = .ok (.iload_n 2, 1) := by decide +kernel
theorem dX1_readKind_137 : decode cX1_readKind 137 = .ok (.invokestatic 133, 3) := by decide +kernel
theorem dX1_readKind_140 : decode cX1_readKind 140 = .ok (.invokevirtual 136, 3) := by decide +kernel
theorem dX1_readKind_143 : decode cX1_readKind 143 = .ok (.goto 225, 3) := by decide +kernel
theorem dX1_readKind_146 : decode cX1_readKind 146 = .ok (.aload_n 0, 1) := by decide +kernel
theorem dX1_readKind_147 : decode cX1_readKind 147 = .ok (.ldc 139, 2) := by decide +kernel
theorem dX1_readKind_149 : decode cX1_readKind 149 = .ok (.invokevirtual 89, 3) := by decide +kernel
theorem dX1_readKind_152 : decode cX1_readKind 152 = .ok (.ifCond .eq 21, 3) := by decide +kernel
theorem dX1_readKind_155 : decode cX1_readKind 155 = .ok (.aload_n 0, 1) := by decide +kernel
theorem dX1_readKind_156 : decode cX1_readKind 156 = .ok (.iconst 0, 1) := by decide +kernel
theorem dX1_readKind_157 : decode cX1_readKind 157 = .ok (.iload_n 2, 1) := by decide +kernel
theorem dX1_readKind_158 : decode cX1_readKind 158 = .ok (.iconst 0, 1) := by decide +kernel
theorem dX1_readKind_159 : decode cX1_readKind 159 = .ok (.invokestatic 141, 3) := by decide +kernel
theorem dX1_readKind_162 : decode cX1_readKind 162 = .ok (.iload_n 2, 1) := by decide +kernel
theorem dX1_readKind_163 : decode cX1_readKind 163 = .ok (.iconst 1, 1) := by decide +kernel
theorem dX1_readKind_164 : decode cX1_readKind 164 = .ok (.invokestatic 141, 3) := by decide +kernel
theorem dX1_readKind_167 : decode cX1_readKind 167 = .ok (.invokevirtual 136, 3) := by decide +kernel
theorem dX1_readKind_170 : decode cX1_readKind 170 = .ok (.goto 198, 3) := by decide +kernel
theorem dX1_readKind_173 : decode cX1_readKind 173 = .ok (.aload_n 0, 1) := by decide +kernel
theorem dX1_readKind_174 : decode cX1_readKind 174 = .ok (.ldc 145, 2) := by decide +kernel
theorem dX1_readKind_176 : decode cX1_readKind 176 = .ok (.invokevirtual 89, 3) := by decide +kernel
theorem dX1_readKind_179 : decode cX1_readKind 179 = .ok (.ifCond .eq 13, 3) := by decide +kernel
theorem dX1_readKind_182 : decode cX1_readKind 182 = .ok (.aload_n 0, 1) := by decide +kernel
theorem dX1_readKind_183 : decode cX1_readKind 183 = .ok (.iconst 1, 1) := by decide +kernel
theorem dX1_readKind_184 : decode cX1_readKind 184 = .ok (.lconst 0, 1) := by decide +kernel
theorem dX1_readKind_185 : decode cX1_readKind 185 = .ok (.lconst 0, 1) := by decide +kernel
theorem dX1_readKind_186 : decode cX1_readKind 186 = .ok (.invokevirtual 136, 3) := by decide +kernel
theorem dX1_readKind_189 : decode cX1_readKind 189 = .ok (.goto 179, 3) := by decide +kernel
theorem dX1_readKind_192 : decode cX1_readKind 192 = .ok (.aload_n 0, 1) := by decide +kernel
theorem dX1_readKind_193 : decode cX1_readKind 193 = .ok (.ldc 147, 2) := by decide +kernel
theorem dX1_readKind_195 : decode cX1_readKind 195 = .ok (.invokevirtual 89, 3) := by decide +kernel
theorem dX1_readKind_198 : decode cX1_readKind 198 = .ok (.ifCond .eq 13, 3) := by decide +kernel
theorem dX1_readKind_201 : decode cX1_readKind 201 = .ok (.aload_n 0, 1) := by decide +kernel
theorem dX1_readKind_202 : decode cX1_readKind 202 = .ok (.iconst 2, 1) := by decide +kernel
theorem dX1_readKind_203 : decode cX1_readKind 203 = .ok (.lconst 0, 1) := by decide +kernel
theorem dX1_readKind_204 : decode cX1_readKind 204 = .ok (.lconst 0, 1) := by decide +kernel
theorem dX1_readKind_205 : decode cX1_readKind 205 = .ok (.invokevirtual 136, 3) := by decide +kernel
theorem dX1_readKind_208 : decode cX1_readKind 208 = .ok (.goto 160, 3) := by decide +kernel
theorem dX1_readKind_211 : decode cX1_readKind 211 = .ok (.aload_n 0, 1) := by decide +kernel
theorem dX1_readKind_212 : decode cX1_readKind 212 = .ok (.ldc 149, 2) := by decide +kernel
theorem dX1_readKind_214 : decode cX1_readKind 214 = .ok (.invokevirtual 89, 3) := by decide +kernel
theorem dX1_readKind_217 : decode cX1_readKind 217 = .ok (.ifCond .eq 13, 3) := by decide +kernel
theorem dX1_readKind_220 : decode cX1_readKind 220 = .ok (.aload_n 0, 1) := by decide +kernel
theorem dX1_readKind_221 : decode cX1_readKind 221 = .ok (.iconst 3, 1) := by decide +kernel
theorem dX1_readKind_222 : decode cX1_readKind 222 = .ok (.lconst 0, 1) := by decide +kernel
theorem dX1_readKind_223 : decode cX1_readKind 223 = .ok (.lconst 0, 1) := by decide +kernel
theorem dX1_readKind_224 : decode cX1_readKind 224 = .ok (.invokevirtual 136, 3) := by decide +kernel
theorem dX1_readKind_227 : decode cX1_readKind 227 = .ok (.goto 141, 3) := by decide +kernel
theorem dX1_readKind_230 : decode cX1_readKind 230 = .ok (.aload_n 0, 1) := by decide +kernel
theorem dX1_readKind_231 : decode cX1_readKind 231 = .ok (.ldc 151, 2) := by decide +kernel
theorem dX1_readKind_233 : decode cX1_readKind 233 = .ok (.invokevirtual 89, 3) := by decide +kernel
theorem dX1_readKind_236 : decode cX1_readKind 236 = .ok (.ifCond .eq 28, 3) := by decide +kernel
theorem dX1_readKind_239 : decode cX1_readKind 239 = .ok (.aload_n 0, 1) := by decide +kernel
theorem dX1_readKind_240 : decode cX1_readKind 240 = .ok (.invokevirtual 34, 3) := by decide +kernel
theorem dX1_readKind_243 : decode cX1_readKind 243 = .ok (.aload_n 0, 1) := by decide +kernel
theorem dX1_readKind_244 : decode cX1_readKind 244 = .ok (.getfield 19, 3) := by decide +kernel
theorem dX1_readKind_247 : decode cX1_readKind 247 = .ok (.iconst 4, 1) := by decide +kernel
theorem dX1_readKind_248 : decode cX1_readKind 248 = .ok (.aload_n 0, 1) := by decide +kernel
theorem dX1_readKind_249 : decode cX1_readKind 249 = .ok (.iconst 0, 1) := by decide +kernel
theorem dX1_readKind_250 : decode cX1_readKind 250 = .ok (.sipush 180, 3) := by decide +kernel
theorem dX1_readKind_253 : decode cX1_readKind 253 = .ok (.invokevirtual 70, 3) := by decide +kernel
theorem dX1_readKind_256 : decode cX1_readKind 256 = .ok (.i2l, 1) := by decide +kernel
theorem dX1_readKind_257 : decode cX1_readKind 257 = .ok (.lconst 0, 1) := by decide +kernel
theorem dX1_readKind_258 : decode cX1_readKind 258 = .ok (.invokevirtual 110, 3) := by decide +kernel
theorem dX1_readKind_261 : decode cX1_readKind 261 = .ok (.goto 107, 3) := by decide +kernel
theorem dX1_readKind_264 : decode cX1_readKind 264 = .ok (.aload_n 0, 1) := by decide +kernel
theorem dX1_readKind_265 : decode cX1_readKind 265 = .ok (.ldc 155, 2) := by decide +kernel
theorem dX1_readKind_267 : decode cX1_readKind 267 = .ok (.invokevirtual 89, 3) := by decide +kernel
theorem dX1_readKind_270 : decode cX1_readKind 270 = .ok (.ifCond .eq 10, 3) := by decide +kernel
theorem dX1_readKind_273 : decode cX1_readKind 273 = .ok (.aload_n 0, 1) := by decide +kernel
theorem dX1_readKind_274 : decode cX1_readKind 274 = .ok (.invokevirtual 157, 3) := by decide +kernel
theorem dX1_readKind_277 : decode cX1_readKind 277 = .ok (.goto 91, 3) := by decide +kernel
theorem dX1_readKind_280 : decode cX1_readKind 280 = .ok (.aload_n 0, 1) := by decide +kernel
theorem dX1_readKind_281 : decode cX1_readKind 281 = .ok (.ldc 160, 2) := by decide +kernel
theorem dX1_readKind_283 : decode cX1_readKind 283 = .ok (.invokevirtual 89, 3) := by decide +kernel
theorem dX1_readKind_286 : decode cX1_readKind 286 = .ok (.ifCond .eq 35, 3) := by decide +kernel
theorem dX1_readKind_289 : decode cX1_readKind 289 = .ok (.aload_n 0, 1) := by decide +kernel
theorem dX1_readKind_290 : decode cX1_readKind 290 = .ok (.invokevirtual 34, 3) := by decide +kernel
theorem dX1_readKind_293 : decode cX1_readKind 293 = .ok (.aload_n 0, 1) := by decide +kernel
theorem dX1_readKind_294 : decode cX1_readKind 294 = .ok (.getfield 19, 3) := by decide +kernel
theorem dX1_readKind_297 : decode cX1_readKind 297 = .ok (.bipush 6, 2) := by decide +kernel
theorem dX1_readKind_299 : decode cX1_readKind 299 = .ok (.aload_n 0, 1) := by decide +kernel
theorem dX1_readKind_300 : decode cX1_readKind 300 = .ok (.iconst 0, 1) := by decide +kernel
theorem dX1_readKind_301 : decode cX1_readKind 301 = .ok (.aload_n 0, 1) := by decide +kernel
theorem dX1_readKind_302 : decode cX1_readKind 302 = .ok (.getfield 19, 3) := by decide +kernel
theorem dX1_readKind_305 : decode cX1_readKind 305 = .ok (.getfield 93, 3) := by decide +kernel
theorem dX1_readKind_308 : decode cX1_readKind 308 = .ok (.iconst 1, 1) := by decide +kernel
theorem dX1_readKind_309 : decode cX1_readKind 309 = .ok (.isub, 1) := by decide +kernel
theorem dX1_readKind_310 : decode cX1_readKind 310 = .ok (.invokevirtual 70, 3) := by decide +kernel
theorem dX1_readKind_313 : decode cX1_readKind 313 = .ok (.i2l, 1) := by decide +kernel
theorem dX1_readKind_314 : decode cX1_readKind 314 = .ok (.lconst 0, 1) := by decide +kernel
theorem dX1_readKind_315 : decode cX1_readKind 315 = .ok (.invokevirtual 110, 3) := by decide +kernel
theorem dX1_readKind_318 : decode cX1_readKind 318 = .ok (.goto 50, 3) := by decide +kernel
theorem dX1_readKind_321 : decode cX1_readKind 321 = .ok (.aload_n 0, 1) := by decide +kernel
theorem dX1_readKind_322 : decode cX1_readKind 322 = .ok (.ldc 162, 2) := by decide +kernel
theorem dX1_readKind_324 : decode cX1_readKind 324 = .ok (.invokevirtual 89, 3) := by decide +kernel
theorem dX1_readKind_327 : decode cX1_readKind 327 = .ok (.ifCond .eq 36, 3) := by decide +kernel
theorem dX1_readKind_330 : decode cX1_readKind 330 = .ok (.aload_n 0, 1) := by decide +kernel
theorem dX1_readKind_331 : decode cX1_readKind 331 = .ok (.invokevirtual 34, 3) := by decide +kernel
theorem dX1_readKind_334 : decode cX1_readKind 334 = .ok (.aload_n 0, 1) := by decide +kernel
theorem dX1_readKind_335 : decode cX1_readKind 335 = .ok (.invokevirtual 164, 3) := by decide +kernel
theorem dX1_readKind_338 : decode cX1_readKind 338 = .ok (.lstore 4, 2) := by decide +kernel
theorem dX1_readKind_340 : decode cX1_readKind 340 = .ok (.aload_n 0, 1) := by decide +kernel
theorem dX1_readKind_341 : decode cX1_readKind 341 = .ok (.ldc 168, 2) := by decide +kernel
theorem dX1_readKind_343 : decode cX1_readKind 343 = .ok (.invokevirtual 64, 3) := by decide +kernel
theorem dX1_readKind_346 : decode cX1_readKind 346 = .ok (.aload_n 0, 1) := by decide +kernel
theorem dX1_readKind_347 : decode cX1_readKind 347 = .ok (.getfield 19, 3) := by decide +kernel
theorem dX1_readKind_350 : decode cX1_readKind 350 = .ok (.iconst 0, 1) := by decide +kernel
theorem dX1_readKind_351 : decode cX1_readKind 351 = .ok (.lload 4, 2) := by decide +kernel
theorem dX1_readKind_353 : decode cX1_readKind 353 = .ok (.aload_n 0, 1) := by decide +kernel
theorem dX1_readKind_354 : decode cX1_readKind 354 = .ok (.invokevirtual 164, 3) := by decide +kernel
theorem dX1_readKind_357 : decode cX1_readKind 357 = .ok (.invokevirtual 110, 3) := by decide +kernel
theorem dX1_readKind_360 : decode cX1_readKind 360 = .ok (.goto 8, 3) := by decide +kernel
theorem dX1_readKind_363 : decode cX1_readKind 363 = .ok (.aload_n 0, 1) := by decide +kernel
theorem dX1_readKind_364 : decode cX1_readKind 364 = .ok (.iconst 1, 1) := by decide +kernel
theorem dX1_readKind_365 : decode cX1_readKind 365 = .ok (.invokevirtual 96, 3) := by decide +kernel
theorem dX1_readKind_368 : decode cX1_readKind 368 = .ok (.return_, 1) := by decide +kernel
theorem hd_yX1_readKind : yX1_readKind.cls = RX1 ∧ yX1_readKind.cls ≠ "java/lang/invoke/MethodHandle" ∧ yX1_readKind.cls ≠ "java/lang/invoke/VarHandle" ∧ (parseMethodDescriptor yX1_readKind.desc).map (fun d => d.parameters.length) = some 1 := by decide +kernel
def uX1_readKind6 : List Cond := List.cons (.code yX1_readKind cX1_readKind 6 none) (HAppend.hAppend ([.fieldLink RX1 19 "LuckyTicket$Reader" "script" "LLuckyTicket$Script;", .methodLink RX1 119 yX1_isSign, .instanceMethod yX1_isSign, .selects RX1 yX1_isSign yX1_isSign, .initialized RX1, .methodLink RX1 89 yX1_isWord, .instanceMethod yX1_isWord, .selects RX1 yX1_isWord yX1_isWord, .fieldLink RX1 23 "LuckyTicket$Reader" "fault" "I", .methodLink RX1 96 yX1_refuse, .instanceMethod yX1_refuse, .selects RX1 yX1_refuse yX1_refuse, .methodLink RX1 34 yX1_advance, .instanceMethod yX1_advance, .selects RX1 yX1_advance yX1_advance, .methodLink RX1 164 yX1_readSide, .instanceMethod yX1_readSide, .selects RX1 yX1_readSide yX1_readSide, .methodLink RX1 64 yX1_passWord, .instanceMethod yX1_passWord, .selects RX1 yX1_passWord yX1_passWord, .methodLink RX1 110 yX4_add, .instanceMethod yX4_add, .selects RX4 yX4_add yX4_add, .initialized RX4, .methodLink RX1 70 yX1_passNumber, .instanceMethod yX1_passNumber, .selects RX1 yX1_passNumber yX1_passNumber, .methodLink RX1 157 yX1_readRest, .instanceMethod yX1_readRest, .selects RX1 yX1_readRest yX1_readRest, .methodLink RX1 136 yX1_addPlain, .instanceMethod yX1_addPlain, .selects RX1 yX1_addPlain yX1_addPlain, .methodLink RX1 141 yX0_everySecond, .static yX0_everySecond, .initialized RX0, .methodLink RX1 127 yX0_firstHalf, .static yX0_firstHalf, .methodLink RX1 133 yX0_lastHalf, .static yX0_lastHalf] : List Cond) (HAppend.hAppend uX1_isSign (HAppend.hAppend uX1_isWord (HAppend.hAppend uX1_refuse (HAppend.hAppend uX1_advance (HAppend.hAppend uX1_readSide (HAppend.hAppend uX1_passWord (HAppend.hAppend uX4_add (HAppend.hAppend uX1_passNumber (HAppend.hAppend uX1_readRest (HAppend.hAppend uX1_addPlain (HAppend.hAppend uX0_everySecond (HAppend.hAppend uX0_firstHalf (HAppend.hAppend uX0_lastHalf (HAppend.hAppend wsX10 wsX40)))))))))))))))
theorem iX1_readKind6_X1 : ∀ w ∈ wsX10, w ∈ uX1_readKind6 := fun _ h => (List.mem_cons_of_mem _ (List.mem_append_right _ (List.mem_append_right _ (List.mem_append_right _ (List.mem_append_right _ (List.mem_append_right _ (List.mem_append_right _ (List.mem_append_right _ (List.mem_append_right _ (List.mem_append_right _ (List.mem_append_right _ (List.mem_append_right _ (List.mem_append_right _ (List.mem_append_right _ (List.mem_append_right _ (List.mem_append_left _ h))))))))))))))))
theorem iX1_readKind6_X4 : ∀ w ∈ wsX40, w ∈ uX1_readKind6 := fun _ h => (List.mem_cons_of_mem _ (List.mem_append_right _ (List.mem_append_right _ (List.mem_append_right _ (List.mem_append_right _ (List.mem_append_right _ (List.mem_append_right _ (List.mem_append_right _ (List.mem_append_right _ (List.mem_append_right _ (List.mem_append_right _ (List.mem_append_right _ (List.mem_append_right _ (List.mem_append_right _ (List.mem_append_right _ (List.mem_append_right _ h))))))))))))))))
theorem guX1_readKind6 : GU uX1_readKind6 := gu_cons (gu_app (by decide +kernel) (gu_ap guX1_isSign (gu_ap guX1_isWord (gu_ap guX1_refuse (gu_ap guX1_advance (gu_ap guX1_readSide (gu_ap guX1_passWord (gu_ap guX4_add (gu_ap guX1_passNumber (gu_ap guX1_readRest (gu_ap guX1_addPlain (gu_ap guX0_everySecond (gu_ap guX0_firstHalf (gu_ap guX0_lastHalf (gu_ap gws_X1 gws_X4)))))))))))))))
theorem gX1_readKind6__X1_isSign_V119 : GoodIn uX1_readKind6 (wsV RX1 119 RX1 yX1_isSign uX1_isSign) := gin_V (List.mem_of_getElem? (i := 2) rfl) (List.mem_of_getElem? (i := 3) rfl) (List.mem_of_getElem? (i := 4) rfl) (List.mem_of_getElem? (i := 5) rfl) (fun _ h => (List.mem_cons_of_mem _ (List.mem_append_right _ (List.mem_append_left _ h)))) guX1_isSign
theorem gX1_readKind6__X1_isWord_V89 : GoodIn uX1_readKind6 (wsV RX1 89 RX1 yX1_isWord uX1_isWord) := gin_V (List.mem_of_getElem? (i := 6) rfl) (List.mem_of_getElem? (i := 7) rfl) (List.mem_of_getElem? (i := 8) rfl) (List.mem_of_getElem? (i := 5) rfl) (fun _ h => (List.mem_cons_of_mem _ (List.mem_append_right _ (List.mem_append_right _ (List.mem_append_left _ h))))) guX1_isWord
theorem gX1_readKind6__X1_refuse_V96 : GoodIn uX1_readKind6 (wsV RX1 96 RX1 yX1_refuse uX1_refuse) := gin_V (List.mem_of_getElem? (i := 10) rfl) (List.mem_of_getElem? (i := 11) rfl) (List.mem_of_getElem? (i := 12) rfl) (List.mem_of_getElem? (i := 5) rfl) (fun _ h => (List.mem_cons_of_mem _ (List.mem_append_right _ (List.mem_append_right _ (List.mem_append_right _ (List.mem_append_left _ h)))))) guX1_refuse
theorem gX1_readKind6__X1_advance_V34 : GoodIn uX1_readKind6 (wsV RX1 34 RX1 yX1_advance uX1_advance) := gin_V (List.mem_of_getElem? (i := 13) rfl) (List.mem_of_getElem? (i := 14) rfl) (List.mem_of_getElem? (i := 15) rfl) (List.mem_of_getElem? (i := 5) rfl) (fun _ h => (List.mem_cons_of_mem _ (List.mem_append_right _ (List.mem_append_right _ (List.mem_append_right _ (List.mem_append_right _ (List.mem_append_left _ h))))))) guX1_advance
theorem gX1_readKind6__X1_readSide_V164 : GoodIn uX1_readKind6 (wsV RX1 164 RX1 yX1_readSide uX1_readSide) := gin_V (List.mem_of_getElem? (i := 16) rfl) (List.mem_of_getElem? (i := 17) rfl) (List.mem_of_getElem? (i := 18) rfl) (List.mem_of_getElem? (i := 5) rfl) (fun _ h => (List.mem_cons_of_mem _ (List.mem_append_right _ (List.mem_append_right _ (List.mem_append_right _ (List.mem_append_right _ (List.mem_append_right _ (List.mem_append_left _ h)))))))) guX1_readSide
theorem gX1_readKind6__X1_passWord_V64 : GoodIn uX1_readKind6 (wsV RX1 64 RX1 yX1_passWord uX1_passWord) := gin_V (List.mem_of_getElem? (i := 19) rfl) (List.mem_of_getElem? (i := 20) rfl) (List.mem_of_getElem? (i := 21) rfl) (List.mem_of_getElem? (i := 5) rfl) (fun _ h => (List.mem_cons_of_mem _ (List.mem_append_right _ (List.mem_append_right _ (List.mem_append_right _ (List.mem_append_right _ (List.mem_append_right _ (List.mem_append_right _ (List.mem_append_left _ h))))))))) guX1_passWord
theorem gX1_readKind6__X4_add_V110 : GoodIn uX1_readKind6 (wsV RX1 110 RX4 yX4_add uX4_add) := gin_V (List.mem_of_getElem? (i := 22) rfl) (List.mem_of_getElem? (i := 23) rfl) (List.mem_of_getElem? (i := 24) rfl) (List.mem_of_getElem? (i := 25) rfl) (fun _ h => (List.mem_cons_of_mem _ (List.mem_append_right _ (List.mem_append_right _ (List.mem_append_right _ (List.mem_append_right _ (List.mem_append_right _ (List.mem_append_right _ (List.mem_append_right _ (List.mem_append_left _ h)))))))))) guX4_add
theorem gX1_readKind6__X1_passNumber_V70 : GoodIn uX1_readKind6 (wsV RX1 70 RX1 yX1_passNumber uX1_passNumber) := gin_V (List.mem_of_getElem? (i := 26) rfl) (List.mem_of_getElem? (i := 27) rfl) (List.mem_of_getElem? (i := 28) rfl) (List.mem_of_getElem? (i := 5) rfl) (fun _ h => (List.mem_cons_of_mem _ (List.mem_append_right _ (List.mem_append_right _ (List.mem_append_right _ (List.mem_append_right _ (List.mem_append_right _ (List.mem_append_right _ (List.mem_append_right _ (List.mem_append_right _ (List.mem_append_left _ h))))))))))) guX1_passNumber
theorem gX1_readKind6__X1_readRest_V157 : GoodIn uX1_readKind6 (wsV RX1 157 RX1 yX1_readRest uX1_readRest) := gin_V (List.mem_of_getElem? (i := 29) rfl) (List.mem_of_getElem? (i := 30) rfl) (List.mem_of_getElem? (i := 31) rfl) (List.mem_of_getElem? (i := 5) rfl) (fun _ h => (List.mem_cons_of_mem _ (List.mem_append_right _ (List.mem_append_right _ (List.mem_append_right _ (List.mem_append_right _ (List.mem_append_right _ (List.mem_append_right _ (List.mem_append_right _ (List.mem_append_right _ (List.mem_append_right _ (List.mem_append_left _ h)))))))))))) guX1_readRest
theorem gX1_readKind6__X1_addPlain_V136 : GoodIn uX1_readKind6 (wsV RX1 136 RX1 yX1_addPlain uX1_addPlain) := gin_V (List.mem_of_getElem? (i := 32) rfl) (List.mem_of_getElem? (i := 33) rfl) (List.mem_of_getElem? (i := 34) rfl) (List.mem_of_getElem? (i := 5) rfl) (fun _ h => (List.mem_cons_of_mem _ (List.mem_append_right _ (List.mem_append_right _ (List.mem_append_right _ (List.mem_append_right _ (List.mem_append_right _ (List.mem_append_right _ (List.mem_append_right _ (List.mem_append_right _ (List.mem_append_right _ (List.mem_append_right _ (List.mem_append_left _ h))))))))))))) guX1_addPlain
theorem gX1_readKind6__X0_everySecond_S141 : GoodIn uX1_readKind6 (va_wsS RX1 141 yX0_everySecond uX0_everySecond) := gin_S (List.mem_of_getElem? (i := 35) rfl) (List.mem_of_getElem? (i := 36) rfl) (List.mem_of_getElem? (i := 37) rfl) (fun _ h => (List.mem_cons_of_mem _ (List.mem_append_right _ (List.mem_append_right _ (List.mem_append_right _ (List.mem_append_right _ (List.mem_append_right _ (List.mem_append_right _ (List.mem_append_right _ (List.mem_append_right _ (List.mem_append_right _ (List.mem_append_right _ (List.mem_append_right _ (List.mem_append_left _ h)))))))))))))) guX0_everySecond
theorem gX1_readKind6__X0_firstHalf_S127 : GoodIn uX1_readKind6 (va_wsS RX1 127 yX0_firstHalf uX0_firstHalf) := gin_S (List.mem_of_getElem? (i := 38) rfl) (List.mem_of_getElem? (i := 39) rfl) (List.mem_of_getElem? (i := 37) rfl) (fun _ h => (List.mem_cons_of_mem _ (List.mem_append_right _ (List.mem_append_right _ (List.mem_append_right _ (List.mem_append_right _ (List.mem_append_right _ (List.mem_append_right _ (List.mem_append_right _ (List.mem_append_right _ (List.mem_append_right _ (List.mem_append_right _ (List.mem_append_right _ (List.mem_append_right _ (List.mem_append_left _ h))))))))))))))) guX0_firstHalf
theorem gX1_readKind6__X0_lastHalf_S133 : GoodIn uX1_readKind6 (va_wsS RX1 133 yX0_lastHalf uX0_lastHalf) := gin_S (List.mem_of_getElem? (i := 40) rfl) (List.mem_of_getElem? (i := 41) rfl) (List.mem_of_getElem? (i := 37) rfl) (fun _ h => (List.mem_cons_of_mem _ (List.mem_append_right _ (List.mem_append_right _ (List.mem_append_right _ (List.mem_append_right _ (List.mem_append_right _ (List.mem_append_right _ (List.mem_append_right _ (List.mem_append_right _ (List.mem_append_right _ (List.mem_append_right _ (List.mem_append_right _ (List.mem_append_right _ (List.mem_append_right _ (List.mem_append_left _ h)))))))))))))))) guX0_lastHalf
set_option maxHeartbeats 4000000 in
set_option maxRecDepth 100000 in
theorem kX1_readKind6 (l : Launch) (dC : Nat → ClassId) (dI : Nat → Nat → Nat) (rd : Nat) (xf : Int32) (xp : Int32) (xt : Int32) (xa : Int32) (xo : Int32) (xv : Int32) (xj : Int32) (tp : Nat) (tb : Nat) (ts : Int32) (cB : ClassId) (fb : Nat → Int32) (sc : Nat) (sn : Int32) (sb : Int32) (si : Int32) (sw : Int32) (ss : Int32) (en : Nat) (ki : Nat) (on : Nat) (ot : Nat) (cK : ClassId) (fk : Nat → Int32) (cO : ClassId) (fo : Nat → Int64) (cT : ClassId) (ft : Nat → Int64) (n0 : Nat) (sz : Nat) (b_xf : (0 : Int) ≤ xf.toInt ∧ xf.toInt ≤ 3) (b_xp : (-1 : Int) ≤ xp.toInt ∧ xp.toInt ≤ 1200) (b_xt : (0 : Int) ≤ xt.toInt ∧ xt.toInt ≤ 4) (b_xa : (0 : Int) ≤ xa.toInt ∧ xa.toInt ≤ 1200) (b_xo : (0 : Int) ≤ xo.toInt ∧ xo.toInt ≤ 1200) (b_ts : (0 : Int) ≤ ts.toInt ∧ ts.toInt ≤ 1200) (b_sn : (0 : Int) ≤ sn.toInt ∧ sn.toInt ≤ 12) (b_sb : (0 : Int) ≤ sb.toInt ∧ sb.toInt ≤ 16) (b_si : (0 : Int) ≤ si.toInt ∧ si.toInt ≤ 1300) (b_sw : (0 : Int) ≤ sw.toInt ∧ sw.toInt ≤ 9) (b_ss : (0 : Int) ≤ ss.toInt ∧ ss.toInt ≤ 600) (hrd : xa.toInt ≤ xo.toInt) : Met l yX1_readKind uX1_readKind6 ({ frames := 7, cells := 0, slots := 0, locals := 150 }) (va_Pc [.ref rd, .int 6] (hx_ (dC, dI) vwCl [(rd, .inr (0, [.ref tp, .ref sc, .int xf, .int xp, .int xt, .int xa, .int xo, .int xv, .int xj])), (tp, .inr (6, [.ref tb, .int ts])), (tb, .inl (cB, 1200, .inl fb)), (sc, .inr (3, [.int sn, .int sb, .int si, .int sw, .int ss, .ref en, .ref ki, .ref on, .ref ot])), (ki, .inl (cK, 600, .inl fk)), (on, .inl (cO, 600, .inr (.inl fo))), (ot, .inl (cT, 600, .inr (.inl ft)))] [(cB, .byte), (cK, .int), (cO, .long), (cT, .long)] sz n0 [])) (va_Qv (fun (_ : Unit) => True) (fun (_ : Unit) t => ∃ (o0_ : Int32) (o1_ : Int32) (o2_ : Int32) (o3_ : Int32) (o4_ : Int32) (o5_ : Int32) (o6_ : Int32) (o7_ : Nat → Int32) (o8_ : Nat → Int64) (o9_ : Nat → Int64), ((0 : Int) ≤ o0_.toInt ∧ o0_.toInt ≤ 3) ∧ ((-1 : Int) ≤ o1_.toInt ∧ o1_.toInt ≤ 1200) ∧ ((0 : Int) ≤ o2_.toInt ∧ o2_.toInt ≤ 4) ∧ ((0 : Int) ≤ o3_.toInt ∧ o3_.toInt ≤ 1200) ∧ ((0 : Int) ≤ o4_.toInt ∧ o4_.toInt ≤ 1200) ∧ ((0 : Int) ≤ o6_.toInt ∧ o6_.toInt ≤ 600) ∧ (o3_.toInt ≤ o4_.toInt) ∧ va_P (dC, dI) vwCl [(rd, .inr (0, [.ref tp, .ref sc, .int o0_, .int o1_, .int o2_, .int o3_, .int o4_, .int o5_, .int xj])), (tp, .inr (6, [.ref tb, .int ts])), (tb, .inl (cB, 1200, .inl fb)), (sc, .inr (3, [.int sn, .int sb, .int si, .int sw, .int o6_, .ref en, .ref ki, .ref on, .ref ot])), (ki, .inl (cK, 600, .inl o7_)), (on, .inl (cO, 600, .inr (.inl o8_))), (ot, .inl (cT, 600, .inr (.inl o9_)))] t.heap ∧ va_K (dC, dI) vwCl [(cB, .byte), (cK, .int), (cO, .long), (cT, .long)] t ∧ va_D (va_A [(rd, .inr (0, [.ref tp, .ref sc, .int xf, .int xp, .int xt, .int xa, .int xo, .int xv, .int xj])), (tp, .inr (6, [.ref tb, .int ts])), (tb, .inl (cB, 1200, .inl fb)), (sc, .inr (3, [.int sn, .int sb, .int si, .int sw, .int ss, .ref en, .ref ki, .ref on, .ref ot])), (ki, .inl (cK, 600, .inl fk)), (on, .inl (cO, 600, .inr (.inl fo))), (ot, .inl (cT, 600, .inr (.inl ft)))] sz) [(rd, .inr (0, [.ref tp, .ref sc, .int o0_, .int o1_, .int o2_, .int o3_, .int o4_, .int o5_, .int xj])), (tp, .inr (6, [.ref tb, .int ts])), (tb, .inl (cB, 1200, .inl fb)), (sc, .inr (3, [.int sn, .int sb, .int si, .int sw, .int o6_, .ref en, .ref ki, .ref on, .ref ot])), (ki, .inl (cK, 600, .inl o7_)), (on, .inl (cO, 600, .inr (.inl o8_))), (ot, .inl (cT, 600, .inr (.inl o9_)))]) (va_A [(rd, .inr (0, [.ref tp, .ref sc, .int xf, .int xp, .int xt, .int xa, .int xo, .int xv, .int xj])), (tp, .inr (6, [.ref tb, .int ts])), (tb, .inl (cB, 1200, .inl fb)), (sc, .inr (3, [.int sn, .int sb, .int si, .int sw, .int ss, .ref en, .ref ki, .ref on, .ref ot])), (ki, .inl (cK, 600, .inl fk)), (on, .inl (cO, 600, .inr (.inl fo))), (ot, .inl (cT, 600, .inr (.inl ft)))] sz)) 0 0 (va_A [(rd, .inr (0, [.ref tp, .ref sc, .int xf, .int xp, .int xt, .int xa, .int xo, .int xv, .int xj])), (tp, .inr (6, [.ref tb, .int ts])), (tb, .inl (cB, 1200, .inl fb)), (sc, .inr (3, [.int sn, .int sb, .int si, .int sw, .int ss, .ref en, .ref ki, .ref on, .ref ot])), (ki, .inl (cK, 600, .inl fk)), (on, .inl (cO, 600, .inr (.inl fo))), (ot, .inl (cT, 600, .inr (.inl ft)))] sz) := by
  refine Met.ofW (cc := cX1_readKind) (maxL := 6) (ret := none) pn_X1 rfl ?_
  intro p e s m args below meth c s₁ B hml hv
  obtain ⟨rfl, ⟨hsz, hP, hK, hD0, hN⟩, hn0, hDn, hX, hTx⟩ := hv
  have hx := B.exec
  have hb := B.bytes
  have hr := B.returns
  have hts := atoms_spec (ws := uX1_readKind6) B.pre
  have hown : s.vm.findClass RX1 = some m.cls := hown_of B.named rfl
  have hlocks := B.notSynchronized
  subst hsz
  have hD := hD0.self (sz := s.heap.size)
  have hAn : ∀ q, va_A [(rd, .inr (0, [.ref tp, .ref sc, .int xf, .int xp, .int xt, .int xa, .int xo, .int xv, .int xj])), (tp, .inr (6, [.ref tb, .int ts])), (tb, .inl (cB, 1200, .inl fb)), (sc, .inr (3, [.int sn, .int sb, .int si, .int sw, .int ss, .ref en, .ref ki, .ref on, .ref ot])), (ki, .inl (cK, 600, .inl fk)), (on, .inl (cO, 600, .inr (.inl fo))), (ot, .inl (cT, 600, .inr (.inl ft)))] s.heap.size q → n0 ≤ q := fun q h => h.elim (fun ⟨k, e, hk⟩ => hDn.2 k (q, e) hk) (fun h => Nat.le_trans hn0 h)
  generalize hAe : va_A [(rd, .inr (0, [.ref tp, .ref sc, .int xf, .int xp, .int xt, .int xa, .int xo, .int xv, .int xj])), (tp, .inr (6, [.ref tb, .int ts])), (tb, .inl (cB, 1200, .inl fb)), (sc, .inr (3, [.int sn, .int sb, .int si, .int sw, .int ss, .ref en, .ref ki, .ref on, .ref ot])), (ki, .inl (cK, 600, .inl fk)), (on, .inl (cO, 600, .inr (.inl fo))), (ot, .inl (cT, 600, .inr (.inl ft)))] s.heap.size = A at hD hAn ⊢
  have hA : ∀ q : Nat, s.heap.size ≤ q → A q := fun q h => by rw [← hAe]; exact Or.inr h
  have hS : va_S A s.heap s.heap [] := va_S.rf
  have hP : va_P (dC, dI) vwCl [(rd, .inr (0, [.ref tp, .ref sc, .int xf, .int xp, .int xt, .int xa, .int xo, .int xv, .int xj])), (tp, .inr (6, [.ref tb, .int ts])), (tb, .inl (cB, 1200, .inl fb)), (sc, .inr (3, [.int sn, .int sb, .int si, .int sw, .int ss, .ref en, .ref ki, .ref on, .ref ot])), (ki, .inl (cK, 600, .inl fk)), (on, .inl (cO, 600, .inr (.inl fo))), (ot, .inl (cT, 600, .inr (.inl ft)))] s.heap := hP
  obtain ⟨tq_123, tf_123, hR_123, ht_123⟩ := hX.2.2.1 (RX1, 123, "not", 3) (List.mem_of_getElem? (i := 6) rfl)
  have hR_123 : vk_R RX1 123 "not" tq_123 s := hR_123
  have ht_123 : txt n0 tq_123 3 tf_123 s := ht_123
  obtain ⟨tq_125, tf_125, hR_125, ht_125⟩ := hX.2.2.1 (RX1, 125, "half", 4) (List.mem_of_getElem? (i := 7) rfl)
  have hR_125 : vk_R RX1 125 "half" tq_125 s := hR_125
  have ht_125 : txt n0 tq_125 4 tf_125 s := ht_125
  obtain ⟨tq_139, tf_139, hR_139, ht_139⟩ := hX.2.2.1 (RX1, 139, "odd", 3) (List.mem_of_getElem? (i := 8) rfl)
  have hR_139 : vk_R RX1 139 "odd" tq_139 s := hR_139
  have ht_139 : txt n0 tq_139 3 tf_139 s := ht_139
  obtain ⟨tq_145, tf_145, hR_145, ht_145⟩ := hX.2.2.1 (RX1, 145, "mirror", 6) (List.mem_of_getElem? (i := 9) rfl)
  have hR_145 : vk_R RX1 145 "mirror" tq_145 s := hR_145
  have ht_145 : txt n0 tq_145 6 tf_145 s := ht_145
  obtain ⟨tq_147, tf_147, hR_147, ht_147⟩ := hX.2.2.1 (RX1, 147, "unlike", 6) (List.mem_of_getElem? (i := 10) rfl)
  have hR_147 : vk_R RX1 147 "unlike" tq_147 s := hR_147
  have ht_147 : txt n0 tq_147 6 tf_147 s := ht_147
  obtain ⟨tq_149, tf_149, hR_149, ht_149⟩ := hX.2.2.1 (RX1, 149, "square", 6) (List.mem_of_getElem? (i := 11) rfl)
  have hR_149 : vk_R RX1 149 "square" tq_149 s := hR_149
  have ht_149 : txt n0 tq_149 6 tf_149 s := ht_149
  obtain ⟨tq_151, tf_151, hR_151, ht_151⟩ := hX.2.2.1 (RX1, 151, "sum", 3) (List.mem_of_getElem? (i := 12) rfl)
  have hR_151 : vk_R RX1 151 "sum" tq_151 s := hR_151
  have ht_151 : txt n0 tq_151 3 tf_151 s := ht_151
  obtain ⟨tq_155, tf_155, hR_155, ht_155⟩ := hX.2.2.1 (RX1, 155, "rest", 4) (List.mem_of_getElem? (i := 13) rfl)
  have hR_155 : vk_R RX1 155 "rest" tq_155 s := hR_155
  have ht_155 : txt n0 tq_155 4 tf_155 s := ht_155
  obtain ⟨tq_160, tf_160, hR_160, ht_160⟩ := hX.2.2.1 (RX1, 160, "by", 2) (List.mem_of_getElem? (i := 14) rfl)
  have hR_160 : vk_R RX1 160 "by" tq_160 s := hR_160
  have ht_160 : txt n0 tq_160 2 tf_160 s := ht_160
  obtain ⟨tq_162, tf_162, hR_162, ht_162⟩ := hX.2.2.1 (RX1, 162, "places", 6) (List.mem_of_getElem? (i := 15) rfl)
  have hR_162 : vk_R RX1 162 "places" tq_162 s := hR_162
  have ht_162 : txt n0 tq_162 6 tf_162 s := ht_162
  obtain ⟨tq_168, tf_168, hR_168, ht_168⟩ := hX.2.2.1 (RX1, 168, "like", 4) (List.mem_of_getElem? (i := 16) rfl)
  have hR_168 : vk_R RX1 168 "like" tq_168 s := hR_168
  have ht_168 : txt n0 tq_168 4 tf_168 s := ht_168
  have hl := lv_entry ([.ref rd, .int 6]) (n := 6) (Nat.le_of_ble_eq_true rfl)
  rw [lg_entry_eq]
  generalize (lg_sl ([.ref rd, .int 6]) ++ List.replicate (6 - (lg_sl ([.ref rd, .int 6])).length) Slot.unset).toArray = ls at hl ⊢
  have hl : lv_has ls 6 [(0, .ref rd), (1, .int 6)] := hl
  refine lv_aload_n hx hb dX1_readKind_0 rfl (lv_at hl 0 rfl) ?_
  refine va_get (D := (dC, dI)) (ci := 0) (v := .ref sc) (C := RX1) (T := TX1) (N := 9) hx hb hts iX1_readKind6_X1 hown hK hP 0 rfl rfl 1 (by decide) (hts (.fieldLink RX1 19 "LuckyTicket$Reader" "script" "LLuckyTicket$Script;") (List.mem_of_getElem? (i := 1) rfl)) (fun _ h9 => h9) rfl dX1_readKind_1 ?_
  refine va_getN (own := RX1) (index := 74) (ref := RX4) (host := RX9) (D := (dC, dI)) (ci := 3) (v := .int sn) (C := RX4) (T := TX4) (N := 9) hx hb hts iX1_readKind6_X4 hown hK hP 3 rfl rfl 0 (by decide) (va_Nw.use rfl (hN _ (List.mem_of_getElem? (i := 4) rfl))) (fun _ h9 => h9) rfl dX1_readKind_4 ?_
  refine lv_istore_n (lv' := [(2, .int sn), (0, .ref rd), (1, .int 6)]) hx hb dX1_readKind_7 rfl hl (by decide) rfl (fun ls hl => ?_)
  refine lv_aload_n hx hb dX1_readKind_8 rfl (lv_at hl 1 rfl) ?_
  refine lv_bipush (v := 40) hx hb dX1_readKind_9 (by decide) ?_
  refine vp_callSi (W.runV (As := [.int 40]) (rest := []) ⟨hx, hb, hml, hown, hts⟩ (kX1_isSign l dC dI rd xf xp xt xa xo xv xj tp sc 40 b_xf b_xp b_xt b_xa b_xo) (cwV 1 hts gX1_readKind6__X1_isSign_V119 rfl rfl rfl hd_yX1_isSign ⟨lel 1 7 rfl, lel 21 150 rfl⟩) ⟨pw_fb, rcv_X1 hK hP (q0 := 0) rfl, (pw_use hP hK hN [0] rfl [] rfl)⟩ rfl rfl hl.1 rfl (lv_room (Nat.le_of_ble_eq_true rfl)) dX1_readKind_11 ⟨lel 0 0 rfl, lel 0 0 rfl⟩) (fun r_239 h_r_239 => ?_)
  obtain ⟨b_r_239, nz_r_239, zz_r_239⟩ := h_r_239
  have b_r_239 : (0 : Int) ≤ r_239.toInt ∧ r_239.toInt ≤ 1 := b_r_239
  refine cutW (σ := Int32) (pc2 := 31) (st2 := fun v => [.int v]) (cells2 := 0) (slots2 := 0) (fun v H locs ls => ((0 : Int) ≤ v.toInt ∧ v.toInt ≤ 1) ∧ (v.toInt = 0 → (xt.toInt ≠ 3 ∨ xv.toInt ≠ 40) ∧ ¬ WD fb xt xa xo 3 tf_123) ∧ va_P (dC, dI) vwCl [(rd, .inr (0, [.ref tp, .ref sc, .int xf, .int xp, .int xt, .int xa, .int xo, .int xv, .int xj])), (tp, .inr (6, [.ref tb, .int ts])), (tb, .inl (cB, 1200, .inl fb)), (sc, .inr (3, [.int sn, .int sb, .int si, .int sw, .int ss, .ref en, .ref ki, .ref on, .ref ot])), (ki, .inl (cK, 600, .inl fk)), (on, .inl (cO, 600, .inr (.inl fo))), (ot, .inl (cT, 600, .inr (.inl ft)))] H ∧ va_D A [(rd, .inr (0, [.ref tp, .ref sc, .int xf, .int xp, .int xt, .int xa, .int xo, .int xv, .int xj])), (tp, .inr (6, [.ref tb, .int ts])), (tb, .inl (cB, 1200, .inl fb)), (sc, .inr (3, [.int sn, .int sb, .int si, .int sw, .int ss, .ref en, .ref ki, .ref on, .ref ot])), (ki, .inl (cK, 600, .inl fk)), (on, .inl (cO, 600, .inr (.inl fo))), (ot, .inl (cT, 600, .inr (.inl ft)))] ∧ va_S A s.heap H locs ∧ lv_has ls 6 [(2, .int sn), (0, .ref rd), (1, .int 6)]) (fun v H locs ls hI => ?_) (fun hj_31_247 => ?_)
  ·
    obtain ⟨y_247, rfl⟩ : ∃ z, z = v := ⟨_, rfl⟩
    obtain ⟨b_y_247, hns, hP, hD, hS, hl⟩ := hI
    have b_y_247 : (0 : Int) ≤ y_247.toInt ∧ y_247.toInt ≤ 1 := b_y_247
    have hns : y_247.toInt = 0 → (xt.toInt ≠ 3 ∨ xv.toInt ≠ 40) ∧ ¬ WD fb xt xa xo 3 tf_123 := hns
    have hP : va_P (dC, dI) vwCl [(rd, .inr (0, [.ref tp, .ref sc, .int xf, .int xp, .int xt, .int xa, .int xo, .int xv, .int xj])), (tp, .inr (6, [.ref tb, .int ts])), (tb, .inl (cB, 1200, .inl fb)), (sc, .inr (3, [.int sn, .int sb, .int si, .int sw, .int ss, .ref en, .ref ki, .ref on, .ref ot])), (ki, .inl (cK, 600, .inl fk)), (on, .inl (cO, 600, .inr (.inl fo))), (ot, .inl (cT, 600, .inr (.inl ft)))] H := hP
    have hD : va_D A [(rd, .inr (0, [.ref tp, .ref sc, .int xf, .int xp, .int xt, .int xa, .int xo, .int xv, .int xj])), (tp, .inr (6, [.ref tb, .int ts])), (tb, .inl (cB, 1200, .inl fb)), (sc, .inr (3, [.int sn, .int sb, .int si, .int sw, .int ss, .ref en, .ref ki, .ref on, .ref ot])), (ki, .inl (cK, 600, .inl fk)), (on, .inl (cO, 600, .inr (.inl fo))), (ot, .inl (cT, 600, .inr (.inl ft)))] := hD
    have hl : lv_has ls 6 [(2, .int sn), (0, .ref rd), (1, .int 6)] := hl
    refine lv_istore_n (lv' := [(3, .int y_247), (2, .int sn), (0, .ref rd), (1, .int 6)]) hx hb dX1_readKind_31 rfl hl (by decide) rfl (fun ls hl => ?_)
    refine lv_aload_n hx hb dX1_readKind_32 rfl (lv_at hl 2 rfl) ?_
    refine va_get (D := (dC, dI)) (ci := 0) (v := .int xf) (C := RX1) (T := TX1) (N := 9) hx hb hts iX1_readKind6_X1 hown hK hP 0 rfl rfl 2 (by decide) (hts (.fieldLink RX1 23 "LuckyTicket$Reader" "fault" "I") (List.mem_of_getElem? (i := 9) rfl)) (fun _ h9 => h9) rfl dX1_readKind_33 ?_
    refine lv_if_eq (tgt := 40) hx hb dX1_readKind_36 (by decide) (fun c_248 => ?_) (fun c_248 => ?_)
    ·
      have n_c_248 : (xf.toInt : Int) = 0 := c_eq rfl (by decide) c_248
      have b_xf : (0 : Int) ≤ xf.toInt ∧ xf.toInt ≤ 0 := r_eq1 b_xf (by decide : (0 : Int) ≤ (0 : Int32).toInt ∧ (0 : Int32).toInt ≤ 0) n_c_248 (by decide)
      refine lv_iload_n hx hb dX1_readKind_40 rfl (lv_at hl 0 rfl) ?_
      refine lv_if_eq (tgt := 58) hx hb dX1_readKind_41 (by decide) (fun c_249 => ?_) (fun c_249 => ?_)
      ·
        have n_c_249 : (y_247.toInt : Int) = 0 := c_eq rfl (by decide) c_249
        have b_y_247 : (0 : Int) ≤ y_247.toInt ∧ y_247.toInt ≤ 0 := r_eq1 b_y_247 (by decide : (0 : Int) ≤ (0 : Int32).toInt ∧ (0 : Int32).toInt ≤ 0) n_c_249 (by decide)
        refine lv_aload_n hx hb dX1_readKind_58 rfl (lv_at hl 2 rfl) ?_
        refine lv_bipush (v := 40) hx hb dX1_readKind_59 (by decide) ?_
        refine vp_callSi (W.runV (As := [.int 40]) (rest := []) ⟨hx, hb, hml, hown, hts⟩ (kX1_isSign l dC dI rd xf xp xt xa xo xv xj tp sc 40 (rg_w b_xf (by decide) (by decide)) b_xp b_xt b_xa b_xo) (cwV 1 hts gX1_readKind6__X1_isSign_V119 rfl rfl rfl hd_yX1_isSign ⟨lel 1 7 rfl, lel 21 150 rfl⟩) ⟨pw_fb, rcv_X1 hK hP (q0 := 0) rfl, (pw_use hP hK hN [0] rfl [] rfl)⟩ rfl rfl hl.1 rfl (lv_room (Nat.le_of_ble_eq_true rfl)) dX1_readKind_61 ⟨lel 0 0 rfl, lel 0 0 rfl⟩) (fun r_250 h_r_250 => ?_)
        obtain ⟨b_r_250, nz_r_250, zz_r_250⟩ := h_r_250
        have b_r_250 : (0 : Int) ≤ r_250.toInt ∧ r_250.toInt ≤ 1 := b_r_250
        refine lv_if_eq (tgt := 87) hx hb dX1_readKind_64 (by decide) (fun c_251 => ?_) (fun c_251 => ?_)
        ·
          have n_c_251 : (r_250.toInt : Int) = 0 := c_eq rfl (by decide) c_251
          have b_r_250 : (0 : Int) ≤ r_250.toInt ∧ r_250.toInt ≤ 0 := r_eq1 b_r_250 (by decide : (0 : Int) ≤ (0 : Int32).toInt ∧ (0 : Int32).toInt ≤ 0) n_c_251 (by decide)
          have g_252 := zz_r_250 c_251
          have lt0_g_252 := (by decide : (40 : Int32).toInt = 40)
          refine lv_aload_n hx hb dX1_readKind_87 rfl (lv_at hl 2 rfl) ?_
          refine va_ldcS hx hb hown hR_123 dX1_readKind_88 ?_
          refine vp_callSi (W.runV (As := [.ref tq_123]) (rest := []) ⟨hx, hb, hml, hown, hts⟩ (kX1_isWord l dC dI rd xf xp xt xa xo xv xj tp tb ts cB fb sc tq_123 3 tf_123 n0 (rg_w b_xf (by decide) (by decide)) b_xp b_xt b_xa b_xo b_ts (by omega) (by omega)) (cwV 1 hts gX1_readKind6__X1_isWord_V89 rfl rfl rfl hd_yX1_isWord ⟨lel 5 7 rfl, lel 107 150 rfl⟩) ⟨px_fb, rcv_X1 hK hP (q0 := 0) rfl, (px_use hP hK hN hX (vs_up hS hAn) [0, 1, 2] rfl [0] rfl (tts_1 ht_123) tbs_0)⟩ rfl rfl hl.1 rfl (lv_room (Nat.le_of_ble_eq_true rfl)) dX1_readKind_90 ⟨lel 0 0 rfl, lel 0 0 rfl⟩) (fun r_253 h_r_253 => ?_)
          obtain ⟨b_r_253, nz_r_253, zz_r_253⟩ := h_r_253
          have b_r_253 : (0 : Int) ≤ r_253.toInt ∧ r_253.toInt ≤ 1 := b_r_253
          refine lv_if_eq (tgt := 121) hx hb dX1_readKind_93 (by decide) (fun c_254 => ?_) (fun c_254 => ?_)
          ·
            have n_c_254 : (r_253.toInt : Int) = 0 := c_eq rfl (by decide) c_254
            have b_r_253 : (0 : Int) ≤ r_253.toInt ∧ r_253.toInt ≤ 0 := r_eq1 b_r_253 (by decide : (0 : Int) ≤ (0 : Int32).toInt ∧ (0 : Int32).toInt ≤ 0) n_c_254 (by decide)
            have g_255 := zz_r_253 c_254
            refine lv_aload_n hx hb dX1_readKind_121 rfl (lv_at hl 2 rfl) ?_
            refine va_ldcS hx hb hown hR_125 dX1_readKind_122 ?_
            refine vp_callSi (W.runV (As := [.ref tq_125]) (rest := []) ⟨hx, hb, hml, hown, hts⟩ (kX1_isWord l dC dI rd xf xp xt xa xo xv xj tp tb ts cB fb sc tq_125 4 tf_125 n0 (rg_w b_xf (by decide) (by decide)) b_xp b_xt b_xa b_xo b_ts (by omega) (by omega)) (cwV 1 hts gX1_readKind6__X1_isWord_V89 rfl rfl rfl hd_yX1_isWord ⟨lel 5 7 rfl, lel 107 150 rfl⟩) ⟨px_fb, rcv_X1 hK hP (q0 := 0) rfl, (px_use hP hK hN hX (vs_up hS hAn) [0, 1, 2] rfl [0] rfl (tts_1 ht_125) tbs_0)⟩ rfl rfl hl.1 rfl (lv_room (Nat.le_of_ble_eq_true rfl)) dX1_readKind_124 ⟨lel 0 0 rfl, lel 0 0 rfl⟩) (fun r_256 h_r_256 => ?_)
            obtain ⟨b_r_256, nz_r_256, zz_r_256⟩ := h_r_256
            have b_r_256 : (0 : Int) ≤ r_256.toInt ∧ r_256.toInt ≤ 1 := b_r_256
            refine lv_if_eq (tgt := 146) hx hb dX1_readKind_127 (by decide) (fun c_257 => ?_) (fun c_257 => ?_)
            ·
              have n_c_257 : (r_256.toInt : Int) = 0 := c_eq rfl (by decide) c_257
              have b_r_256 : (0 : Int) ≤ r_256.toInt ∧ r_256.toInt ≤ 0 := r_eq1 b_r_256 (by decide : (0 : Int) ≤ (0 : Int32).toInt ∧ (0 : Int32).toInt ≤ 0) n_c_257 (by decide)
              have g_258 := zz_r_256 c_257
              refine lv_aload_n hx hb dX1_readKind_146 rfl (lv_at hl 2 rfl) ?_
              refine va_ldcS hx hb hown hR_139 dX1_readKind_147 ?_
              refine vp_callSi (W.runV (As := [.ref tq_139]) (rest := []) ⟨hx, hb, hml, hown, hts⟩ (kX1_isWord l dC dI rd xf xp xt xa xo xv xj tp tb ts cB fb sc tq_139 3 tf_139 n0 (rg_w b_xf (by decide) (by decide)) b_xp b_xt b_xa b_xo b_ts (by omega) (by omega)) (cwV 1 hts gX1_readKind6__X1_isWord_V89 rfl rfl rfl hd_yX1_isWord ⟨lel 5 7 rfl, lel 107 150 rfl⟩) ⟨px_fb, rcv_X1 hK hP (q0 := 0) rfl, (px_use hP hK hN hX (vs_up hS hAn) [0, 1, 2] rfl [0] rfl (tts_1 ht_139) tbs_0)⟩ rfl rfl hl.1 rfl (lv_room (Nat.le_of_ble_eq_true rfl)) dX1_readKind_149 ⟨lel 0 0 rfl, lel 0 0 rfl⟩) (fun r_259 h_r_259 => ?_)
              obtain ⟨b_r_259, nz_r_259, zz_r_259⟩ := h_r_259
              have b_r_259 : (0 : Int) ≤ r_259.toInt ∧ r_259.toInt ≤ 1 := b_r_259
              refine lv_if_eq (tgt := 173) hx hb dX1_readKind_152 (by decide) (fun c_260 => ?_) (fun c_260 => ?_)
              ·
                have n_c_260 : (r_259.toInt : Int) = 0 := c_eq rfl (by decide) c_260
                have b_r_259 : (0 : Int) ≤ r_259.toInt ∧ r_259.toInt ≤ 0 := r_eq1 b_r_259 (by decide : (0 : Int) ≤ (0 : Int32).toInt ∧ (0 : Int32).toInt ≤ 0) n_c_260 (by decide)
                have g_261 := zz_r_259 c_260
                refine lv_aload_n hx hb dX1_readKind_173 rfl (lv_at hl 2 rfl) ?_
                refine va_ldcS hx hb hown hR_145 dX1_readKind_174 ?_
                refine vp_callSi (W.runV (As := [.ref tq_145]) (rest := []) ⟨hx, hb, hml, hown, hts⟩ (kX1_isWord l dC dI rd xf xp xt xa xo xv xj tp tb ts cB fb sc tq_145 6 tf_145 n0 (rg_w b_xf (by decide) (by decide)) b_xp b_xt b_xa b_xo b_ts (by omega) (by omega)) (cwV 1 hts gX1_readKind6__X1_isWord_V89 rfl rfl rfl hd_yX1_isWord ⟨lel 5 7 rfl, lel 107 150 rfl⟩) ⟨px_fb, rcv_X1 hK hP (q0 := 0) rfl, (px_use hP hK hN hX (vs_up hS hAn) [0, 1, 2] rfl [0] rfl (tts_1 ht_145) tbs_0)⟩ rfl rfl hl.1 rfl (lv_room (Nat.le_of_ble_eq_true rfl)) dX1_readKind_176 ⟨lel 0 0 rfl, lel 0 0 rfl⟩) (fun r_262 h_r_262 => ?_)
                obtain ⟨b_r_262, nz_r_262, zz_r_262⟩ := h_r_262
                have b_r_262 : (0 : Int) ≤ r_262.toInt ∧ r_262.toInt ≤ 1 := b_r_262
                refine lv_if_eq (tgt := 192) hx hb dX1_readKind_179 (by decide) (fun c_263 => ?_) (fun c_263 => ?_)
                ·
                  have n_c_263 : (r_262.toInt : Int) = 0 := c_eq rfl (by decide) c_263
                  have b_r_262 : (0 : Int) ≤ r_262.toInt ∧ r_262.toInt ≤ 0 := r_eq1 b_r_262 (by decide : (0 : Int) ≤ (0 : Int32).toInt ∧ (0 : Int32).toInt ≤ 0) n_c_263 (by decide)
                  have g_264 := zz_r_262 c_263
                  refine lv_aload_n hx hb dX1_readKind_192 rfl (lv_at hl 2 rfl) ?_
                  refine va_ldcS hx hb hown hR_147 dX1_readKind_193 ?_
                  refine vp_callSi (W.runV (As := [.ref tq_147]) (rest := []) ⟨hx, hb, hml, hown, hts⟩ (kX1_isWord l dC dI rd xf xp xt xa xo xv xj tp tb ts cB fb sc tq_147 6 tf_147 n0 (rg_w b_xf (by decide) (by decide)) b_xp b_xt b_xa b_xo b_ts (by omega) (by omega)) (cwV 1 hts gX1_readKind6__X1_isWord_V89 rfl rfl rfl hd_yX1_isWord ⟨lel 5 7 rfl, lel 107 150 rfl⟩) ⟨px_fb, rcv_X1 hK hP (q0 := 0) rfl, (px_use hP hK hN hX (vs_up hS hAn) [0, 1, 2] rfl [0] rfl (tts_1 ht_147) tbs_0)⟩ rfl rfl hl.1 rfl (lv_room (Nat.le_of_ble_eq_true rfl)) dX1_readKind_195 ⟨lel 0 0 rfl, lel 0 0 rfl⟩) (fun r_265 h_r_265 => ?_)
                  obtain ⟨b_r_265, nz_r_265, zz_r_265⟩ := h_r_265
                  have b_r_265 : (0 : Int) ≤ r_265.toInt ∧ r_265.toInt ≤ 1 := b_r_265
                  refine lv_if_eq (tgt := 211) hx hb dX1_readKind_198 (by decide) (fun c_266 => ?_) (fun c_266 => ?_)
                  ·
                    have n_c_266 : (r_265.toInt : Int) = 0 := c_eq rfl (by decide) c_266
                    have b_r_265 : (0 : Int) ≤ r_265.toInt ∧ r_265.toInt ≤ 0 := r_eq1 b_r_265 (by decide : (0 : Int) ≤ (0 : Int32).toInt ∧ (0 : Int32).toInt ≤ 0) n_c_266 (by decide)
                    have g_267 := zz_r_265 c_266
                    refine lv_aload_n hx hb dX1_readKind_211 rfl (lv_at hl 2 rfl) ?_
                    refine va_ldcS hx hb hown hR_149 dX1_readKind_212 ?_
                    refine vp_callSi (W.runV (As := [.ref tq_149]) (rest := []) ⟨hx, hb, hml, hown, hts⟩ (kX1_isWord l dC dI rd xf xp xt xa xo xv xj tp tb ts cB fb sc tq_149 6 tf_149 n0 (rg_w b_xf (by decide) (by decide)) b_xp b_xt b_xa b_xo b_ts (by omega) (by omega)) (cwV 1 hts gX1_readKind6__X1_isWord_V89 rfl rfl rfl hd_yX1_isWord ⟨lel 5 7 rfl, lel 107 150 rfl⟩) ⟨px_fb, rcv_X1 hK hP (q0 := 0) rfl, (px_use hP hK hN hX (vs_up hS hAn) [0, 1, 2] rfl [0] rfl (tts_1 ht_149) tbs_0)⟩ rfl rfl hl.1 rfl (lv_room (Nat.le_of_ble_eq_true rfl)) dX1_readKind_214 ⟨lel 0 0 rfl, lel 0 0 rfl⟩) (fun r_268 h_r_268 => ?_)
                    obtain ⟨b_r_268, nz_r_268, zz_r_268⟩ := h_r_268
                    have b_r_268 : (0 : Int) ≤ r_268.toInt ∧ r_268.toInt ≤ 1 := b_r_268
                    refine lv_if_eq (tgt := 230) hx hb dX1_readKind_217 (by decide) (fun c_269 => ?_) (fun c_269 => ?_)
                    ·
                      have n_c_269 : (r_268.toInt : Int) = 0 := c_eq rfl (by decide) c_269
                      have b_r_268 : (0 : Int) ≤ r_268.toInt ∧ r_268.toInt ≤ 0 := r_eq1 b_r_268 (by decide : (0 : Int) ≤ (0 : Int32).toInt ∧ (0 : Int32).toInt ≤ 0) n_c_269 (by decide)
                      have g_270 := zz_r_268 c_269
                      refine lv_aload_n hx hb dX1_readKind_230 rfl (lv_at hl 2 rfl) ?_
                      refine va_ldcS hx hb hown hR_151 dX1_readKind_231 ?_
                      refine vp_callSi (W.runV (As := [.ref tq_151]) (rest := []) ⟨hx, hb, hml, hown, hts⟩ (kX1_isWord l dC dI rd xf xp xt xa xo xv xj tp tb ts cB fb sc tq_151 3 tf_151 n0 (rg_w b_xf (by decide) (by decide)) b_xp b_xt b_xa b_xo b_ts (by omega) (by omega)) (cwV 1 hts gX1_readKind6__X1_isWord_V89 rfl rfl rfl hd_yX1_isWord ⟨lel 5 7 rfl, lel 107 150 rfl⟩) ⟨px_fb, rcv_X1 hK hP (q0 := 0) rfl, (px_use hP hK hN hX (vs_up hS hAn) [0, 1, 2] rfl [0] rfl (tts_1 ht_151) tbs_0)⟩ rfl rfl hl.1 rfl (lv_room (Nat.le_of_ble_eq_true rfl)) dX1_readKind_233 ⟨lel 0 0 rfl, lel 0 0 rfl⟩) (fun r_271 h_r_271 => ?_)
                      obtain ⟨b_r_271, nz_r_271, zz_r_271⟩ := h_r_271
                      have b_r_271 : (0 : Int) ≤ r_271.toInt ∧ r_271.toInt ≤ 1 := b_r_271
                      refine lv_if_eq (tgt := 264) hx hb dX1_readKind_236 (by decide) (fun c_272 => ?_) (fun c_272 => ?_)
                      ·
                        have n_c_272 : (r_271.toInt : Int) = 0 := c_eq rfl (by decide) c_272
                        have b_r_271 : (0 : Int) ≤ r_271.toInt ∧ r_271.toInt ≤ 0 := r_eq1 b_r_271 (by decide : (0 : Int) ≤ (0 : Int32).toInt ∧ (0 : Int32).toInt ≤ 0) n_c_272 (by decide)
                        have g_273 := zz_r_271 c_272
                        refine lv_aload_n hx hb dX1_readKind_264 rfl (lv_at hl 2 rfl) ?_
                        refine va_ldcS hx hb hown hR_155 dX1_readKind_265 ?_
                        refine vp_callSi (W.runV (As := [.ref tq_155]) (rest := []) ⟨hx, hb, hml, hown, hts⟩ (kX1_isWord l dC dI rd xf xp xt xa xo xv xj tp tb ts cB fb sc tq_155 4 tf_155 n0 (rg_w b_xf (by decide) (by decide)) b_xp b_xt b_xa b_xo b_ts (by omega) (by omega)) (cwV 1 hts gX1_readKind6__X1_isWord_V89 rfl rfl rfl hd_yX1_isWord ⟨lel 5 7 rfl, lel 107 150 rfl⟩) ⟨px_fb, rcv_X1 hK hP (q0 := 0) rfl, (px_use hP hK hN hX (vs_up hS hAn) [0, 1, 2] rfl [0] rfl (tts_1 ht_155) tbs_0)⟩ rfl rfl hl.1 rfl (lv_room (Nat.le_of_ble_eq_true rfl)) dX1_readKind_267 ⟨lel 0 0 rfl, lel 0 0 rfl⟩) (fun r_274 h_r_274 => ?_)
                        obtain ⟨b_r_274, nz_r_274, zz_r_274⟩ := h_r_274
                        have b_r_274 : (0 : Int) ≤ r_274.toInt ∧ r_274.toInt ≤ 1 := b_r_274
                        refine lv_if_eq (tgt := 280) hx hb dX1_readKind_270 (by decide) (fun c_275 => ?_) (fun c_275 => ?_)
                        ·
                          have n_c_275 : (r_274.toInt : Int) = 0 := c_eq rfl (by decide) c_275
                          have b_r_274 : (0 : Int) ≤ r_274.toInt ∧ r_274.toInt ≤ 0 := r_eq1 b_r_274 (by decide : (0 : Int) ≤ (0 : Int32).toInt ∧ (0 : Int32).toInt ≤ 0) n_c_275 (by decide)
                          have g_276 := zz_r_274 c_275
                          refine lv_aload_n hx hb dX1_readKind_280 rfl (lv_at hl 2 rfl) ?_
                          refine va_ldcS hx hb hown hR_160 dX1_readKind_281 ?_
                          refine vp_callSi (W.runV (As := [.ref tq_160]) (rest := []) ⟨hx, hb, hml, hown, hts⟩ (kX1_isWord l dC dI rd xf xp xt xa xo xv xj tp tb ts cB fb sc tq_160 2 tf_160 n0 (rg_w b_xf (by decide) (by decide)) b_xp b_xt b_xa b_xo b_ts (by omega) (by omega)) (cwV 1 hts gX1_readKind6__X1_isWord_V89 rfl rfl rfl hd_yX1_isWord ⟨lel 5 7 rfl, lel 107 150 rfl⟩) ⟨px_fb, rcv_X1 hK hP (q0 := 0) rfl, (px_use hP hK hN hX (vs_up hS hAn) [0, 1, 2] rfl [0] rfl (tts_1 ht_160) tbs_0)⟩ rfl rfl hl.1 rfl (lv_room (Nat.le_of_ble_eq_true rfl)) dX1_readKind_283 ⟨lel 0 0 rfl, lel 0 0 rfl⟩) (fun r_277 h_r_277 => ?_)
                          obtain ⟨b_r_277, nz_r_277, zz_r_277⟩ := h_r_277
                          have b_r_277 : (0 : Int) ≤ r_277.toInt ∧ r_277.toInt ≤ 1 := b_r_277
                          refine lv_if_eq (tgt := 321) hx hb dX1_readKind_286 (by decide) (fun c_278 => ?_) (fun c_278 => ?_)
                          ·
                            have n_c_278 : (r_277.toInt : Int) = 0 := c_eq rfl (by decide) c_278
                            have b_r_277 : (0 : Int) ≤ r_277.toInt ∧ r_277.toInt ≤ 0 := r_eq1 b_r_277 (by decide : (0 : Int) ≤ (0 : Int32).toInt ∧ (0 : Int32).toInt ≤ 0) n_c_278 (by decide)
                            have g_279 := zz_r_277 c_278
                            refine lv_aload_n hx hb dX1_readKind_321 rfl (lv_at hl 2 rfl) ?_
                            refine va_ldcS hx hb hown hR_162 dX1_readKind_322 ?_
                            refine vp_callSi (W.runV (As := [.ref tq_162]) (rest := []) ⟨hx, hb, hml, hown, hts⟩ (kX1_isWord l dC dI rd xf xp xt xa xo xv xj tp tb ts cB fb sc tq_162 6 tf_162 n0 (rg_w b_xf (by decide) (by decide)) b_xp b_xt b_xa b_xo b_ts (by omega) (by omega)) (cwV 1 hts gX1_readKind6__X1_isWord_V89 rfl rfl rfl hd_yX1_isWord ⟨lel 5 7 rfl, lel 107 150 rfl⟩) ⟨px_fb, rcv_X1 hK hP (q0 := 0) rfl, (px_use hP hK hN hX (vs_up hS hAn) [0, 1, 2] rfl [0] rfl (tts_1 ht_162) tbs_0)⟩ rfl rfl hl.1 rfl (lv_room (Nat.le_of_ble_eq_true rfl)) dX1_readKind_324 ⟨lel 0 0 rfl, lel 0 0 rfl⟩) (fun r_280 h_r_280 => ?_)
                            obtain ⟨b_r_280, nz_r_280, zz_r_280⟩ := h_r_280
                            have b_r_280 : (0 : Int) ≤ r_280.toInt ∧ r_280.toInt ≤ 1 := b_r_280
                            refine lv_if_eq (tgt := 363) hx hb dX1_readKind_327 (by decide) (fun c_281 => ?_) (fun c_281 => ?_)
                            ·
                              have n_c_281 : (r_280.toInt : Int) = 0 := c_eq rfl (by decide) c_281
                              have b_r_280 : (0 : Int) ≤ r_280.toInt ∧ r_280.toInt ≤ 0 := r_eq1 b_r_280 (by decide : (0 : Int) ≤ (0 : Int32).toInt ∧ (0 : Int32).toInt ≤ 0) n_c_281 (by decide)
                              have g_282 := zz_r_280 c_281
                              refine lv_aload_n hx hb dX1_readKind_363 rfl (lv_at hl 2 rfl) ?_
                              refine lv_iconst (v := 1) hx hb dX1_readKind_364 (by decide) ?_
                              have hFc := va_free (wc := [(rd, .inr (0, [.ref tp, .ref sc, .int xf, .int xp, .int xt, .int xa, .int xo, .int xv, .int xj]))]) hD hS hA [0] rfl
                              refine va_callv (va_runV (As := [.int 1]) (rest := []) ⟨hx, hb, hml, hown, hts⟩ (kX1_refuse l dC dI rd xf xp xt xa xo xv xj tp sc 1 (H.size) (rg_w b_xf (by decide) (by decide)) b_xp b_xt b_xa b_xo (rg_w (by decide : (1 : Int) ≤ (1 : Int32).toInt ∧ (1 : Int32).toInt ≤ 1) (by decide) (by decide))) (cwV 1 hts gX1_readKind6__X1_refuse_V96 rfl rfl rfl hd_yX1_refuse ⟨lel 1 7 rfl, lel 21 150 rfl⟩) ⟨hw_fb, rcv_X1 hK hP (q0 := 0) rfl, (hw_use hP hD hK hN [0] rfl (by decide) rfl [] rfl)⟩ rfl rfl hl.1 rfl (lv_room (Nat.le_of_ble_eq_true rfl)) dX1_readKind_365 ⟨lel 0 0 rfl, lel 0 0 rfl⟩) hS (fun q _ h => hFc q h) hFc (fun u_284 t H1 locs ht hvm hw_r_283 hB hz1 hk1 hS => ?_)
                              obtain ⟨o0_285, o1_286, b_o0_285, b_o1_286, hf_287, hf_288, hP1, hK1, hD1⟩ := hB
                              rw [ht] at hP1
                              have hK1 := va_K.moved hvm.symm hK1
                              obtain ⟨hP, hD⟩ := va_join (wr := [(tp, .inr (6, [.ref tb, .int ts])), (tb, .inl (cB, 1200, .inl fb)), (sc, .inr (3, [.int sn, .int sb, .int si, .int sw, .int ss, .ref en, .ref ki, .ref on, .ref ot])), (ki, .inl (cK, 600, .inl fk)), (on, .inl (cO, 600, .inr (.inl fo))), (ot, .inl (cT, 600, .inr (.inl ft)))]) (w1 := [(rd, .inr (0, [.ref tp, .ref sc, .int o0_285, .int o1_286, .int xt, .int xa, .int xo, .int xv, .int xj]))]) hP hD [0] [1, 2, 3, 4, 5, 6] rfl rfl (by decide) (by decide) hk1 hFc hP1 hD1
                              have hK := (hK.sub (tys' := [(cB, .byte), (cK, .int), (cO, .long), (cT, .long)]) [0, 1, 2, 3] rfl).app hK1
                              generalize H1 = H at hP hS ⊢
                              have hP := hP.sub (ws' := [(rd, .inr (0, [.ref tp, .ref sc, .int o0_285, .int o1_286, .int xt, .int xa, .int xo, .int xv, .int xj])), (tp, .inr (6, [.ref tb, .int ts])), (tb, .inl (cB, 1200, .inl fb)), (sc, .inr (3, [.int sn, .int sb, .int si, .int sw, .int ss, .ref en, .ref ki, .ref on, .ref ot])), (ki, .inl (cK, 600, .inl fk)), (on, .inl (cO, 600, .inr (.inl fo))), (ot, .inl (cT, 600, .inr (.inl ft)))]) [6, 0, 1, 2, 3, 4, 5] rfl
                              have hD := hD.sub (ws' := [(rd, .inr (0, [.ref tp, .ref sc, .int o0_285, .int o1_286, .int xt, .int xa, .int xo, .int xv, .int xj])), (tp, .inr (6, [.ref tb, .int ts])), (tb, .inl (cB, 1200, .inl fb)), (sc, .inr (3, [.int sn, .int sb, .int si, .int sw, .int ss, .ref en, .ref ki, .ref on, .ref ot])), (ki, .inl (cK, 600, .inl fk)), (on, .inl (cO, 600, .inr (.inl fo))), (ot, .inl (cT, 600, .inr (.inl ft)))]) [6, 0, 1, 2, 3, 4, 5] (by decide) rfl
                              have hP : va_P (dC, dI) vwCl [(rd, .inr (0, [.ref tp, .ref sc, .int o0_285, .int o1_286, .int xt, .int xa, .int xo, .int xv, .int xj])), (tp, .inr (6, [.ref tb, .int ts])), (tb, .inl (cB, 1200, .inl fb)), (sc, .inr (3, [.int sn, .int sb, .int si, .int sw, .int ss, .ref en, .ref ki, .ref on, .ref ot])), (ki, .inl (cK, 600, .inl fk)), (on, .inl (cO, 600, .inr (.inl fo))), (ot, .inl (cT, 600, .inr (.inl ft)))] H := hP
                              have hD : va_D A [(rd, .inr (0, [.ref tp, .ref sc, .int o0_285, .int o1_286, .int xt, .int xa, .int xo, .int xv, .int xj])), (tp, .inr (6, [.ref tb, .int ts])), (tb, .inl (cB, 1200, .inl fb)), (sc, .inr (3, [.int sn, .int sb, .int si, .int sw, .int ss, .ref en, .ref ki, .ref on, .ref ot])), (ki, .inl (cK, 600, .inl fk)), (on, .inl (cO, 600, .inr (.inl fo))), (ot, .inl (cT, 600, .inr (.inl ft)))] := hD
                              have hK : va_K (dC, dI) vwCl [(cB, .byte), (cK, .int), (cO, .long), (cT, .long)] s := hK
                              have hP9 := hP.sub (ws' := [(rd, .inr (0, [.ref tp, .ref sc, .int o0_285, .int o1_286, .int xt, .int xa, .int xo, .int xv, .int xj])), (tp, .inr (6, [.ref tb, .int ts])), (tb, .inl (cB, 1200, .inl fb)), (sc, .inr (3, [.int sn, .int sb, .int si, .int sw, .int ss, .ref en, .ref ki, .ref on, .ref ot])), (ki, .inl (cK, 600, .inl fk)), (on, .inl (cO, 600, .inr (.inl fo))), (ot, .inl (cT, 600, .inr (.inl ft)))]) [0, 1, 2, 3, 4, 5, 6] rfl
                              have hD9 := hD.sub (ws' := [(rd, .inr (0, [.ref tp, .ref sc, .int o0_285, .int o1_286, .int xt, .int xa, .int xo, .int xv, .int xj])), (tp, .inr (6, [.ref tb, .int ts])), (tb, .inl (cB, 1200, .inl fb)), (sc, .inr (3, [.int sn, .int sb, .int si, .int sw, .int ss, .ref en, .ref ki, .ref on, .ref ot])), (ki, .inl (cK, 600, .inl fk)), (on, .inl (cO, 600, .inr (.inl fo))), (ot, .inl (cT, 600, .inr (.inl ft)))]) [0, 1, 2, 3, 4, 5, 6] (by decide) rfl
                              have hK9 := hK.sub (tys' := [(cB, .byte), (cK, .int), (cO, .long), (cT, .long)]) [0, 1, 2, 3] rfl
                              exact W.vret hx hb hr (fun t ht hW => ⟨⟨(), rfl, trivial, o0_285, o1_286, xt, xa, xo, xv, ss, fk, fo, ft, (rg_w b_o0_285 (by decide) (by decide)), b_o1_286, b_xt, b_xa, b_xo, b_ss, (by omega), by rw [ht]; exact hP9, va_K.moved hW.alike hK9, hD9⟩, hS.F ht⟩) hS.2.2 dX1_readKind_368
                            ·
                              have n_c_281 : (r_280.toInt : Int) ≠ 0 := c_ne rfl (by decide) c_281
                              have b_r_280 : (1 : Int) ≤ r_280.toInt ∧ r_280.toInt ≤ 1 := r_ne1 b_r_280 (by decide : (0 : Int) ≤ (0 : Int32).toInt ∧ (0 : Int32).toInt ≤ 0) n_c_281 (by decide)
                              have g_289 := nz_r_280 c_281
                              refine lv_aload_n hx hb dX1_readKind_330 rfl (lv_at hl 2 rfl) ?_
                              have hFc := va_free (wc := [(rd, .inr (0, [.ref tp, .ref sc, .int xf, .int xp, .int xt, .int xa, .int xo, .int xv, .int xj])), (tp, .inr (6, [.ref tb, .int ts])), (tb, .inl (cB, 1200, .inl fb))]) hD hS hA [0, 1, 2] rfl
                              refine va_callv (va_runV (As := []) (rest := []) ⟨hx, hb, hml, hown, hts⟩ (kX1_advance l dC dI rd xf xp xt xa xo xv xj tp tb ts cB fb sc (H.size) (rg_w b_xf (by decide) (by decide)) b_xp b_xt b_xa b_xo b_ts (by omega)) (cwV 0 hts gX1_readKind6__X1_advance_V34 rfl rfl rfl hd_yX1_advance ⟨lel 1 7 rfl, lel 22 150 rfl⟩) ⟨hw_fb, rcv_X1 hK hP (q0 := 0) rfl, (hw_use hP hD hK hN [0, 1, 2] rfl (by decide) rfl [0] rfl)⟩ rfl rfl hl.1 rfl (lv_room (Nat.le_of_ble_eq_true rfl)) dX1_readKind_331 ⟨lel 0 0 rfl, lel 0 0 rfl⟩) hS (fun q _ h => hFc q h) hFc (fun u_291 t H1 locs ht hvm hw_r_290 hB hz1 hk1 hS => ?_)
                              obtain ⟨o0_292, o1_293, o2_294, o3_295, b_o0_292, b_o1_293, b_o2_294, hf_296, hP1, hK1, hD1⟩ := hB
                              rw [ht] at hP1
                              have hK1 := va_K.moved hvm.symm hK1
                              obtain ⟨hP, hD⟩ := va_join (wr := [(sc, .inr (3, [.int sn, .int sb, .int si, .int sw, .int ss, .ref en, .ref ki, .ref on, .ref ot])), (ki, .inl (cK, 600, .inl fk)), (on, .inl (cO, 600, .inr (.inl fo))), (ot, .inl (cT, 600, .inr (.inl ft)))]) (w1 := [(rd, .inr (0, [.ref tp, .ref sc, .int xf, .int xp, .int o0_292, .int o1_293, .int o2_294, .int o3_295, .int xj])), (tp, .inr (6, [.ref tb, .int ts])), (tb, .inl (cB, 1200, .inl fb))]) hP hD [0, 1, 2] [3, 4, 5, 6] rfl rfl (by decide) (by decide) hk1 hFc hP1 hD1
                              have hK := (hK.sub (tys' := [(cK, .int), (cO, .long), (cT, .long)]) [1, 2, 3] rfl).app hK1
                              generalize H1 = H at hP hS ⊢
                              have hP := hP.sub (ws' := [(rd, .inr (0, [.ref tp, .ref sc, .int xf, .int xp, .int o0_292, .int o1_293, .int o2_294, .int o3_295, .int xj])), (tp, .inr (6, [.ref tb, .int ts])), (tb, .inl (cB, 1200, .inl fb)), (sc, .inr (3, [.int sn, .int sb, .int si, .int sw, .int ss, .ref en, .ref ki, .ref on, .ref ot])), (ki, .inl (cK, 600, .inl fk)), (on, .inl (cO, 600, .inr (.inl fo))), (ot, .inl (cT, 600, .inr (.inl ft)))]) [4, 5, 6, 0, 1, 2, 3] rfl
                              have hD := hD.sub (ws' := [(rd, .inr (0, [.ref tp, .ref sc, .int xf, .int xp, .int o0_292, .int o1_293, .int o2_294, .int o3_295, .int xj])), (tp, .inr (6, [.ref tb, .int ts])), (tb, .inl (cB, 1200, .inl fb)), (sc, .inr (3, [.int sn, .int sb, .int si, .int sw, .int ss, .ref en, .ref ki, .ref on, .ref ot])), (ki, .inl (cK, 600, .inl fk)), (on, .inl (cO, 600, .inr (.inl fo))), (ot, .inl (cT, 600, .inr (.inl ft)))]) [4, 5, 6, 0, 1, 2, 3] (by decide) rfl
                              have hK := hK.sub (tys' := [(cB, .byte), (cK, .int), (cO, .long), (cT, .long)]) [3, 0, 1, 2] rfl
                              have hP : va_P (dC, dI) vwCl [(rd, .inr (0, [.ref tp, .ref sc, .int xf, .int xp, .int o0_292, .int o1_293, .int o2_294, .int o3_295, .int xj])), (tp, .inr (6, [.ref tb, .int ts])), (tb, .inl (cB, 1200, .inl fb)), (sc, .inr (3, [.int sn, .int sb, .int si, .int sw, .int ss, .ref en, .ref ki, .ref on, .ref ot])), (ki, .inl (cK, 600, .inl fk)), (on, .inl (cO, 600, .inr (.inl fo))), (ot, .inl (cT, 600, .inr (.inl ft)))] H := hP
                              have hD : va_D A [(rd, .inr (0, [.ref tp, .ref sc, .int xf, .int xp, .int o0_292, .int o1_293, .int o2_294, .int o3_295, .int xj])), (tp, .inr (6, [.ref tb, .int ts])), (tb, .inl (cB, 1200, .inl fb)), (sc, .inr (3, [.int sn, .int sb, .int si, .int sw, .int ss, .ref en, .ref ki, .ref on, .ref ot])), (ki, .inl (cK, 600, .inl fk)), (on, .inl (cO, 600, .inr (.inl fo))), (ot, .inl (cT, 600, .inr (.inl ft)))] := hD
                              have hK : va_K (dC, dI) vwCl [(cB, .byte), (cK, .int), (cO, .long), (cT, .long)] s := hK
                              refine lv_aload_n hx hb dX1_readKind_334 rfl (lv_at hl 2 rfl) ?_
                              have hFc := va_free (wc := [(rd, .inr (0, [.ref tp, .ref sc, .int xf, .int xp, .int o0_292, .int o1_293, .int o2_294, .int o3_295, .int xj])), (tp, .inr (6, [.ref tb, .int ts])), (tb, .inl (cB, 1200, .inl fb)), (sc, .inr (3, [.int sn, .int sb, .int si, .int sw, .int ss, .ref en, .ref ki, .ref on, .ref ot]))]) hD hS hA [0, 1, 2, 3] rfl
                              refine va_calll (va_runV (As := []) (rest := []) ⟨hx, hb, hml, hown, hts⟩ (kX1_readSide l dC dI rd xf xp o0_292 o1_293 o2_294 o3_295 xj tp tb ts cB fb sc sn sb si sw ss en ki on ot (H.size) (rg_w b_xf (by decide) (by decide)) b_xp b_o0_292 b_o1_293 b_o2_294 b_ts b_sn b_sb b_si b_sw b_ss (by omega)) (cwV 0 hts gX1_readKind6__X1_readSide_V164 rfl rfl rfl hd_yX1_readSide ⟨lel 3 7 rfl, lel 71 150 rfl⟩) ⟨hw_fb, rcv_X1 hK hP (q0 := 0) rfl, (hw_use hP hD hK hN [0, 1, 2, 3] rfl (by decide) rfl [0] rfl)⟩ rfl rfl hl.1 rfl (lv_room (Nat.le_of_ble_eq_true rfl)) dX1_readKind_335 ⟨lel 0 0 rfl, lel 0 0 rfl⟩) hS (fun q _ h => hFc q h) hFc (fun r_297 u_298 t H1 locs ht hvm hw_r_297 hB hz1 hk1 hS => ?_)
                              obtain ⟨o0_299, o1_300, o2_301, o3_302, o4_303, o5_304, b_o0_299, b_o1_300, b_o2_301, b_o3_302, b_o4_303, hf_305, hP1, hK1, hD1⟩ := hB
                              rw [ht] at hP1
                              have hK1 := va_K.moved hvm.symm hK1
                              obtain ⟨hP, hD⟩ := va_join (wr := [(ki, .inl (cK, 600, .inl fk)), (on, .inl (cO, 600, .inr (.inl fo))), (ot, .inl (cT, 600, .inr (.inl ft)))]) (w1 := [(rd, .inr (0, [.ref tp, .ref sc, .int o0_299, .int o1_300, .int o2_301, .int o3_302, .int o4_303, .int o5_304, .int xj])), (tp, .inr (6, [.ref tb, .int ts])), (tb, .inl (cB, 1200, .inl fb)), (sc, .inr (3, [.int sn, .int sb, .int si, .int sw, .int ss, .ref en, .ref ki, .ref on, .ref ot]))]) hP hD [0, 1, 2, 3] [4, 5, 6] rfl rfl (by decide) (by decide) hk1 hFc hP1 hD1
                              have hK := (hK.sub (tys' := [(cK, .int), (cO, .long), (cT, .long)]) [1, 2, 3] rfl).app hK1
                              generalize H1 = H at hP hS ⊢
                              have hP := hP.sub (ws' := [(rd, .inr (0, [.ref tp, .ref sc, .int o0_299, .int o1_300, .int o2_301, .int o3_302, .int o4_303, .int o5_304, .int xj])), (tp, .inr (6, [.ref tb, .int ts])), (tb, .inl (cB, 1200, .inl fb)), (sc, .inr (3, [.int sn, .int sb, .int si, .int sw, .int ss, .ref en, .ref ki, .ref on, .ref ot])), (ki, .inl (cK, 600, .inl fk)), (on, .inl (cO, 600, .inr (.inl fo))), (ot, .inl (cT, 600, .inr (.inl ft)))]) [3, 4, 5, 6, 0, 1, 2] rfl
                              have hD := hD.sub (ws' := [(rd, .inr (0, [.ref tp, .ref sc, .int o0_299, .int o1_300, .int o2_301, .int o3_302, .int o4_303, .int o5_304, .int xj])), (tp, .inr (6, [.ref tb, .int ts])), (tb, .inl (cB, 1200, .inl fb)), (sc, .inr (3, [.int sn, .int sb, .int si, .int sw, .int ss, .ref en, .ref ki, .ref on, .ref ot])), (ki, .inl (cK, 600, .inl fk)), (on, .inl (cO, 600, .inr (.inl fo))), (ot, .inl (cT, 600, .inr (.inl ft)))]) [3, 4, 5, 6, 0, 1, 2] (by decide) rfl
                              have hK := hK.sub (tys' := [(cB, .byte), (cK, .int), (cO, .long), (cT, .long)]) [3, 0, 1, 2] rfl
                              have hP : va_P (dC, dI) vwCl [(rd, .inr (0, [.ref tp, .ref sc, .int o0_299, .int o1_300, .int o2_301, .int o3_302, .int o4_303, .int o5_304, .int xj])), (tp, .inr (6, [.ref tb, .int ts])), (tb, .inl (cB, 1200, .inl fb)), (sc, .inr (3, [.int sn, .int sb, .int si, .int sw, .int ss, .ref en, .ref ki, .ref on, .ref ot])), (ki, .inl (cK, 600, .inl fk)), (on, .inl (cO, 600, .inr (.inl fo))), (ot, .inl (cT, 600, .inr (.inl ft)))] H := hP
                              have hD : va_D A [(rd, .inr (0, [.ref tp, .ref sc, .int o0_299, .int o1_300, .int o2_301, .int o3_302, .int o4_303, .int o5_304, .int xj])), (tp, .inr (6, [.ref tb, .int ts])), (tb, .inl (cB, 1200, .inl fb)), (sc, .inr (3, [.int sn, .int sb, .int si, .int sw, .int ss, .ref en, .ref ki, .ref on, .ref ot])), (ki, .inl (cK, 600, .inl fk)), (on, .inl (cO, 600, .inr (.inl fo))), (ot, .inl (cT, 600, .inr (.inl ft)))] := hD
                              have hK : va_K (dC, dI) vwCl [(cB, .byte), (cK, .int), (cO, .long), (cT, .long)] s := hK
                              refine lv_lstore (lv' := [(4, .long r_297), (3, .int y_247), (2, .int sn), (0, .ref rd), (1, .int 6)]) hx hb dX1_readKind_338 hl (by decide) rfl (fun ls hl => ?_)
                              refine lv_aload_n hx hb dX1_readKind_340 rfl (lv_at hl 3 rfl) ?_
                              refine va_ldcS hx hb hown hR_168 dX1_readKind_341 ?_
                              have hFc := va_free (wc := [(rd, .inr (0, [.ref tp, .ref sc, .int o0_299, .int o1_300, .int o2_301, .int o3_302, .int o4_303, .int o5_304, .int xj])), (tp, .inr (6, [.ref tb, .int ts])), (tb, .inl (cB, 1200, .inl fb))]) hD hS hA [0, 1, 2] rfl
                              refine va_callv (va_runV (As := [.ref tq_168]) (rest := []) ⟨hx, hb, hml, hown, hts⟩ (kX1_passWord l dC dI rd o0_299 o1_300 o2_301 o3_302 o4_303 o5_304 xj tp tb ts cB fb sc tq_168 4 tf_168 n0 (H.size) b_o0_299 b_o1_300 b_o2_301 b_o3_302 b_o4_303 b_ts (by omega) (by omega)) (cwV 1 hts gX1_readKind6__X1_passWord_V64 rfl rfl rfl hd_yX1_passWord ⟨lel 6 7 rfl, lel 128 150 rfl⟩) ⟨hx_fb, rcv_X1 hK hP (q0 := 0) rfl, (hx_use hP hD hK hN hX hS hAn hn0 [0, 1, 2] rfl (by decide) rfl [0] rfl (tts_1 ht_168))⟩ rfl rfl hl.1 rfl (lv_room (Nat.le_of_ble_eq_true rfl)) dX1_readKind_343 ⟨lel 0 0 rfl, lel 0 0 rfl⟩) hS (fun q _ h => hFc q h) hFc (fun u_307 t H1 locs ht hvm hw_r_306 hB hz1 hk1 hS => ?_)
                              obtain ⟨o0_308, o1_309, o2_310, o3_311, o4_312, o5_313, b_o0_308, b_o1_309, b_o2_310, b_o3_311, b_o4_312, hf_314, hf_315, hP1, hK1, hD1⟩ := hB
                              rw [ht] at hP1
                              have hK1 := va_K.moved hvm.symm hK1
                              obtain ⟨hP, hD⟩ := va_join (wr := [(sc, .inr (3, [.int sn, .int sb, .int si, .int sw, .int ss, .ref en, .ref ki, .ref on, .ref ot])), (ki, .inl (cK, 600, .inl fk)), (on, .inl (cO, 600, .inr (.inl fo))), (ot, .inl (cT, 600, .inr (.inl ft)))]) (w1 := [(rd, .inr (0, [.ref tp, .ref sc, .int o0_308, .int o1_309, .int o2_310, .int o3_311, .int o4_312, .int o5_313, .int xj])), (tp, .inr (6, [.ref tb, .int ts])), (tb, .inl (cB, 1200, .inl fb))]) hP hD [0, 1, 2] [3, 4, 5, 6] rfl rfl (by decide) (by decide) hk1 hFc hP1 hD1
                              have hK := (hK.sub (tys' := [(cK, .int), (cO, .long), (cT, .long)]) [1, 2, 3] rfl).app hK1
                              generalize H1 = H at hP hS ⊢
                              have hP := hP.sub (ws' := [(rd, .inr (0, [.ref tp, .ref sc, .int o0_308, .int o1_309, .int o2_310, .int o3_311, .int o4_312, .int o5_313, .int xj])), (tp, .inr (6, [.ref tb, .int ts])), (tb, .inl (cB, 1200, .inl fb)), (sc, .inr (3, [.int sn, .int sb, .int si, .int sw, .int ss, .ref en, .ref ki, .ref on, .ref ot])), (ki, .inl (cK, 600, .inl fk)), (on, .inl (cO, 600, .inr (.inl fo))), (ot, .inl (cT, 600, .inr (.inl ft)))]) [4, 5, 6, 0, 1, 2, 3] rfl
                              have hD := hD.sub (ws' := [(rd, .inr (0, [.ref tp, .ref sc, .int o0_308, .int o1_309, .int o2_310, .int o3_311, .int o4_312, .int o5_313, .int xj])), (tp, .inr (6, [.ref tb, .int ts])), (tb, .inl (cB, 1200, .inl fb)), (sc, .inr (3, [.int sn, .int sb, .int si, .int sw, .int ss, .ref en, .ref ki, .ref on, .ref ot])), (ki, .inl (cK, 600, .inl fk)), (on, .inl (cO, 600, .inr (.inl fo))), (ot, .inl (cT, 600, .inr (.inl ft)))]) [4, 5, 6, 0, 1, 2, 3] (by decide) rfl
                              have hK := hK.sub (tys' := [(cB, .byte), (cK, .int), (cO, .long), (cT, .long)]) [3, 0, 1, 2] rfl
                              have hP : va_P (dC, dI) vwCl [(rd, .inr (0, [.ref tp, .ref sc, .int o0_308, .int o1_309, .int o2_310, .int o3_311, .int o4_312, .int o5_313, .int xj])), (tp, .inr (6, [.ref tb, .int ts])), (tb, .inl (cB, 1200, .inl fb)), (sc, .inr (3, [.int sn, .int sb, .int si, .int sw, .int ss, .ref en, .ref ki, .ref on, .ref ot])), (ki, .inl (cK, 600, .inl fk)), (on, .inl (cO, 600, .inr (.inl fo))), (ot, .inl (cT, 600, .inr (.inl ft)))] H := hP
                              have hD : va_D A [(rd, .inr (0, [.ref tp, .ref sc, .int o0_308, .int o1_309, .int o2_310, .int o3_311, .int o4_312, .int o5_313, .int xj])), (tp, .inr (6, [.ref tb, .int ts])), (tb, .inl (cB, 1200, .inl fb)), (sc, .inr (3, [.int sn, .int sb, .int si, .int sw, .int ss, .ref en, .ref ki, .ref on, .ref ot])), (ki, .inl (cK, 600, .inl fk)), (on, .inl (cO, 600, .inr (.inl fo))), (ot, .inl (cT, 600, .inr (.inl ft)))] := hD
                              have hK : va_K (dC, dI) vwCl [(cB, .byte), (cK, .int), (cO, .long), (cT, .long)] s := hK
                              refine lv_aload_n hx hb dX1_readKind_346 rfl (lv_at hl 3 rfl) ?_
                              refine va_get (D := (dC, dI)) (ci := 0) (v := .ref sc) (C := RX1) (T := TX1) (N := 9) hx hb hts iX1_readKind6_X1 hown hK hP 0 rfl rfl 1 (by decide) (hts (.fieldLink RX1 19 "LuckyTicket$Reader" "script" "LLuckyTicket$Script;") (List.mem_of_getElem? (i := 1) rfl)) (fun _ h9 => h9) rfl dX1_readKind_347 ?_
                              refine lv_iconst (v := 0) hx hb dX1_readKind_350 (by decide) ?_
                              refine lv_lload hx hb dX1_readKind_351 (lv_at hl 0 rfl) ?_
                              refine lv_aload_n hx hb dX1_readKind_353 rfl (lv_at hl 3 rfl) ?_
                              have hFc := va_free (wc := [(rd, .inr (0, [.ref tp, .ref sc, .int o0_308, .int o1_309, .int o2_310, .int o3_311, .int o4_312, .int o5_313, .int xj])), (tp, .inr (6, [.ref tb, .int ts])), (tb, .inl (cB, 1200, .inl fb)), (sc, .inr (3, [.int sn, .int sb, .int si, .int sw, .int ss, .ref en, .ref ki, .ref on, .ref ot]))]) hD hS hA [0, 1, 2, 3] rfl
                              refine va_calll (va_runV (As := []) (rest := [.long r_297, .int 0, .ref sc]) ⟨hx, hb, hml, hown, hts⟩ (kX1_readSide l dC dI rd o0_308 o1_309 o2_310 o3_311 o4_312 o5_313 xj tp tb ts cB fb sc sn sb si sw ss en ki on ot (H.size) b_o0_308 b_o1_309 b_o2_310 b_o3_311 b_o4_312 b_ts b_sn b_sb b_si b_sw b_ss (by omega)) (cwV 0 hts gX1_readKind6__X1_readSide_V164 rfl rfl rfl hd_yX1_readSide ⟨lel 3 7 rfl, lel 71 150 rfl⟩) ⟨hw_fb, rcv_X1 hK hP (q0 := 0) rfl, (hw_use hP hD hK hN [0, 1, 2, 3] rfl (by decide) rfl [0] rfl)⟩ rfl rfl hl.1 rfl (lv_room (Nat.le_of_ble_eq_true rfl)) dX1_readKind_354 ⟨lel 0 0 rfl, lel 0 0 rfl⟩) hS (fun q _ h => hFc q h) hFc (fun r_316 u_317 t H1 locs ht hvm hw_r_316 hB hz1 hk1 hS => ?_)
                              obtain ⟨o0_318, o1_319, o2_320, o3_321, o4_322, o5_323, b_o0_318, b_o1_319, b_o2_320, b_o3_321, b_o4_322, hf_324, hP1, hK1, hD1⟩ := hB
                              rw [ht] at hP1
                              have hK1 := va_K.moved hvm.symm hK1
                              obtain ⟨hP, hD⟩ := va_join (wr := [(ki, .inl (cK, 600, .inl fk)), (on, .inl (cO, 600, .inr (.inl fo))), (ot, .inl (cT, 600, .inr (.inl ft)))]) (w1 := [(rd, .inr (0, [.ref tp, .ref sc, .int o0_318, .int o1_319, .int o2_320, .int o3_321, .int o4_322, .int o5_323, .int xj])), (tp, .inr (6, [.ref tb, .int ts])), (tb, .inl (cB, 1200, .inl fb)), (sc, .inr (3, [.int sn, .int sb, .int si, .int sw, .int ss, .ref en, .ref ki, .ref on, .ref ot]))]) hP hD [0, 1, 2, 3] [4, 5, 6] rfl rfl (by decide) (by decide) hk1 hFc hP1 hD1
                              have hK := (hK.sub (tys' := [(cK, .int), (cO, .long), (cT, .long)]) [1, 2, 3] rfl).app hK1
                              generalize H1 = H at hP hS ⊢
                              have hP := hP.sub (ws' := [(rd, .inr (0, [.ref tp, .ref sc, .int o0_318, .int o1_319, .int o2_320, .int o3_321, .int o4_322, .int o5_323, .int xj])), (tp, .inr (6, [.ref tb, .int ts])), (tb, .inl (cB, 1200, .inl fb)), (sc, .inr (3, [.int sn, .int sb, .int si, .int sw, .int ss, .ref en, .ref ki, .ref on, .ref ot])), (ki, .inl (cK, 600, .inl fk)), (on, .inl (cO, 600, .inr (.inl fo))), (ot, .inl (cT, 600, .inr (.inl ft)))]) [3, 4, 5, 6, 0, 1, 2] rfl
                              have hD := hD.sub (ws' := [(rd, .inr (0, [.ref tp, .ref sc, .int o0_318, .int o1_319, .int o2_320, .int o3_321, .int o4_322, .int o5_323, .int xj])), (tp, .inr (6, [.ref tb, .int ts])), (tb, .inl (cB, 1200, .inl fb)), (sc, .inr (3, [.int sn, .int sb, .int si, .int sw, .int ss, .ref en, .ref ki, .ref on, .ref ot])), (ki, .inl (cK, 600, .inl fk)), (on, .inl (cO, 600, .inr (.inl fo))), (ot, .inl (cT, 600, .inr (.inl ft)))]) [3, 4, 5, 6, 0, 1, 2] (by decide) rfl
                              have hK := hK.sub (tys' := [(cB, .byte), (cK, .int), (cO, .long), (cT, .long)]) [3, 0, 1, 2] rfl
                              have hP : va_P (dC, dI) vwCl [(rd, .inr (0, [.ref tp, .ref sc, .int o0_318, .int o1_319, .int o2_320, .int o3_321, .int o4_322, .int o5_323, .int xj])), (tp, .inr (6, [.ref tb, .int ts])), (tb, .inl (cB, 1200, .inl fb)), (sc, .inr (3, [.int sn, .int sb, .int si, .int sw, .int ss, .ref en, .ref ki, .ref on, .ref ot])), (ki, .inl (cK, 600, .inl fk)), (on, .inl (cO, 600, .inr (.inl fo))), (ot, .inl (cT, 600, .inr (.inl ft)))] H := hP
                              have hD : va_D A [(rd, .inr (0, [.ref tp, .ref sc, .int o0_318, .int o1_319, .int o2_320, .int o3_321, .int o4_322, .int o5_323, .int xj])), (tp, .inr (6, [.ref tb, .int ts])), (tb, .inl (cB, 1200, .inl fb)), (sc, .inr (3, [.int sn, .int sb, .int si, .int sw, .int ss, .ref en, .ref ki, .ref on, .ref ot])), (ki, .inl (cK, 600, .inl fk)), (on, .inl (cO, 600, .inr (.inl fo))), (ot, .inl (cT, 600, .inr (.inl ft)))] := hD
                              have hK : va_K (dC, dI) vwCl [(cB, .byte), (cK, .int), (cO, .long), (cT, .long)] s := hK
                              have hFc := va_free (wc := [(sc, .inr (3, [.int sn, .int sb, .int si, .int sw, .int ss, .ref en, .ref ki, .ref on, .ref ot])), (ki, .inl (cK, 600, .inl fk)), (on, .inl (cO, 600, .inr (.inl fo))), (ot, .inl (cT, 600, .inr (.inl ft)))]) hD hS hA [3, 4, 5, 6] rfl
                              refine va_callv (va_runV (As := [.int 0, .long r_297, .long r_316]) (rest := []) ⟨hx, hb, hml, hown, hts⟩ (kX4_add l dC dI sc sn sb si sw ss en ki on ot cK fk cO fo cT ft 0 r_297 r_316 (H.size) b_sn b_sb b_si b_sw b_ss) (cwV 3 hts gX1_readKind6__X4_add_V110 rfl rfl rfl hd_yX4_add ⟨lel 1 7 rfl, lel 25 150 rfl⟩) ⟨hw_fb, rcv_X4 hK hP (q0 := 3) rfl, (hw_use hP hD hK hN [3, 4, 5, 6] rfl (by decide) rfl [1, 2, 3] rfl)⟩ rfl rfl hl.1 rfl (lv_room (Nat.le_of_ble_eq_true rfl)) dX1_readKind_357 ⟨lel 0 0 rfl, lel 0 0 rfl⟩) hS (fun q _ h => hFc q h) hFc (fun u_326 t H1 locs ht hvm hw_r_325 hB hz1 hk1 hS => ?_)
                              obtain ⟨o0_327, o1_328, o2_329, o3_330, b_o0_327, hP1, hK1, hD1⟩ := hB
                              rw [ht] at hP1
                              have hK1 := va_K.moved hvm.symm hK1
                              obtain ⟨hP, hD⟩ := va_join (wr := [(rd, .inr (0, [.ref tp, .ref sc, .int o0_318, .int o1_319, .int o2_320, .int o3_321, .int o4_322, .int o5_323, .int xj])), (tp, .inr (6, [.ref tb, .int ts])), (tb, .inl (cB, 1200, .inl fb))]) (w1 := [(sc, .inr (3, [.int sn, .int sb, .int si, .int sw, .int o0_327, .ref en, .ref ki, .ref on, .ref ot])), (ki, .inl (cK, 600, .inl o1_328)), (on, .inl (cO, 600, .inr (.inl o2_329))), (ot, .inl (cT, 600, .inr (.inl o3_330)))]) hP hD [3, 4, 5, 6] [0, 1, 2] rfl rfl (by decide) (by decide) hk1 hFc hP1 hD1
                              have hK := (hK.sub (tys' := [(cB, .byte)]) [0] rfl).app hK1
                              generalize H1 = H at hP hS ⊢
                              have hP : va_P (dC, dI) vwCl [(rd, .inr (0, [.ref tp, .ref sc, .int o0_318, .int o1_319, .int o2_320, .int o3_321, .int o4_322, .int o5_323, .int xj])), (tp, .inr (6, [.ref tb, .int ts])), (tb, .inl (cB, 1200, .inl fb)), (sc, .inr (3, [.int sn, .int sb, .int si, .int sw, .int o0_327, .ref en, .ref ki, .ref on, .ref ot])), (ki, .inl (cK, 600, .inl o1_328)), (on, .inl (cO, 600, .inr (.inl o2_329))), (ot, .inl (cT, 600, .inr (.inl o3_330)))] H := hP
                              have hD : va_D A [(rd, .inr (0, [.ref tp, .ref sc, .int o0_318, .int o1_319, .int o2_320, .int o3_321, .int o4_322, .int o5_323, .int xj])), (tp, .inr (6, [.ref tb, .int ts])), (tb, .inl (cB, 1200, .inl fb)), (sc, .inr (3, [.int sn, .int sb, .int si, .int sw, .int o0_327, .ref en, .ref ki, .ref on, .ref ot])), (ki, .inl (cK, 600, .inl o1_328)), (on, .inl (cO, 600, .inr (.inl o2_329))), (ot, .inl (cT, 600, .inr (.inl o3_330)))] := hD
                              have hK : va_K (dC, dI) vwCl [(cB, .byte), (cK, .int), (cO, .long), (cT, .long)] s := hK
                              refine lv_goto (tgt := 368) hx hb dX1_readKind_360 (by decide) ?_
                              have hP9 := hP.sub (ws' := [(rd, .inr (0, [.ref tp, .ref sc, .int o0_318, .int o1_319, .int o2_320, .int o3_321, .int o4_322, .int o5_323, .int xj])), (tp, .inr (6, [.ref tb, .int ts])), (tb, .inl (cB, 1200, .inl fb)), (sc, .inr (3, [.int sn, .int sb, .int si, .int sw, .int o0_327, .ref en, .ref ki, .ref on, .ref ot])), (ki, .inl (cK, 600, .inl o1_328)), (on, .inl (cO, 600, .inr (.inl o2_329))), (ot, .inl (cT, 600, .inr (.inl o3_330)))]) [0, 1, 2, 3, 4, 5, 6] rfl
                              have hD9 := hD.sub (ws' := [(rd, .inr (0, [.ref tp, .ref sc, .int o0_318, .int o1_319, .int o2_320, .int o3_321, .int o4_322, .int o5_323, .int xj])), (tp, .inr (6, [.ref tb, .int ts])), (tb, .inl (cB, 1200, .inl fb)), (sc, .inr (3, [.int sn, .int sb, .int si, .int sw, .int o0_327, .ref en, .ref ki, .ref on, .ref ot])), (ki, .inl (cK, 600, .inl o1_328)), (on, .inl (cO, 600, .inr (.inl o2_329))), (ot, .inl (cT, 600, .inr (.inl o3_330)))]) [0, 1, 2, 3, 4, 5, 6] (by decide) rfl
                              have hK9 := hK.sub (tys' := [(cB, .byte), (cK, .int), (cO, .long), (cT, .long)]) [0, 1, 2, 3] rfl
                              exact W.vret hx hb hr (fun t ht hW => ⟨⟨(), rfl, trivial, o0_318, o1_319, o2_320, o3_321, o4_322, o5_323, o0_327, o1_328, o2_329, o3_330, b_o0_318, b_o1_319, b_o2_320, b_o3_321, b_o4_322, (rg_w b_o0_327 (by decide) (by decide)), (by omega), by rw [ht]; exact hP9, va_K.moved hW.alike hK9, hD9⟩, hS.F ht⟩) hS.2.2 dX1_readKind_368
                          ·
                            have n_c_278 : (r_277.toInt : Int) ≠ 0 := c_ne rfl (by decide) c_278
                            have b_r_277 : (1 : Int) ≤ r_277.toInt ∧ r_277.toInt ≤ 1 := r_ne1 b_r_277 (by decide : (0 : Int) ≤ (0 : Int32).toInt ∧ (0 : Int32).toInt ≤ 0) n_c_278 (by decide)
                            have g_331 := nz_r_277 c_278
                            refine lv_aload_n hx hb dX1_readKind_289 rfl (lv_at hl 2 rfl) ?_
                            have hFc := va_free (wc := [(rd, .inr (0, [.ref tp, .ref sc, .int xf, .int xp, .int xt, .int xa, .int xo, .int xv, .int xj])), (tp, .inr (6, [.ref tb, .int ts])), (tb, .inl (cB, 1200, .inl fb))]) hD hS hA [0, 1, 2] rfl
                            refine va_callv (va_runV (As := []) (rest := []) ⟨hx, hb, hml, hown, hts⟩ (kX1_advance l dC dI rd xf xp xt xa xo xv xj tp tb ts cB fb sc (H.size) (rg_w b_xf (by decide) (by decide)) b_xp b_xt b_xa b_xo b_ts (by omega)) (cwV 0 hts gX1_readKind6__X1_advance_V34 rfl rfl rfl hd_yX1_advance ⟨lel 1 7 rfl, lel 22 150 rfl⟩) ⟨hw_fb, rcv_X1 hK hP (q0 := 0) rfl, (hw_use hP hD hK hN [0, 1, 2] rfl (by decide) rfl [0] rfl)⟩ rfl rfl hl.1 rfl (lv_room (Nat.le_of_ble_eq_true rfl)) dX1_readKind_290 ⟨lel 0 0 rfl, lel 0 0 rfl⟩) hS (fun q _ h => hFc q h) hFc (fun u_333 t H1 locs ht hvm hw_r_332 hB hz1 hk1 hS => ?_)
                            obtain ⟨o0_334, o1_335, o2_336, o3_337, b_o0_334, b_o1_335, b_o2_336, hf_338, hP1, hK1, hD1⟩ := hB
                            rw [ht] at hP1
                            have hK1 := va_K.moved hvm.symm hK1
                            obtain ⟨hP, hD⟩ := va_join (wr := [(sc, .inr (3, [.int sn, .int sb, .int si, .int sw, .int ss, .ref en, .ref ki, .ref on, .ref ot])), (ki, .inl (cK, 600, .inl fk)), (on, .inl (cO, 600, .inr (.inl fo))), (ot, .inl (cT, 600, .inr (.inl ft)))]) (w1 := [(rd, .inr (0, [.ref tp, .ref sc, .int xf, .int xp, .int o0_334, .int o1_335, .int o2_336, .int o3_337, .int xj])), (tp, .inr (6, [.ref tb, .int ts])), (tb, .inl (cB, 1200, .inl fb))]) hP hD [0, 1, 2] [3, 4, 5, 6] rfl rfl (by decide) (by decide) hk1 hFc hP1 hD1
                            have hK := (hK.sub (tys' := [(cK, .int), (cO, .long), (cT, .long)]) [1, 2, 3] rfl).app hK1
                            generalize H1 = H at hP hS ⊢
                            have hP := hP.sub (ws' := [(rd, .inr (0, [.ref tp, .ref sc, .int xf, .int xp, .int o0_334, .int o1_335, .int o2_336, .int o3_337, .int xj])), (tp, .inr (6, [.ref tb, .int ts])), (tb, .inl (cB, 1200, .inl fb)), (sc, .inr (3, [.int sn, .int sb, .int si, .int sw, .int ss, .ref en, .ref ki, .ref on, .ref ot])), (ki, .inl (cK, 600, .inl fk)), (on, .inl (cO, 600, .inr (.inl fo))), (ot, .inl (cT, 600, .inr (.inl ft)))]) [4, 5, 6, 0, 1, 2, 3] rfl
                            have hD := hD.sub (ws' := [(rd, .inr (0, [.ref tp, .ref sc, .int xf, .int xp, .int o0_334, .int o1_335, .int o2_336, .int o3_337, .int xj])), (tp, .inr (6, [.ref tb, .int ts])), (tb, .inl (cB, 1200, .inl fb)), (sc, .inr (3, [.int sn, .int sb, .int si, .int sw, .int ss, .ref en, .ref ki, .ref on, .ref ot])), (ki, .inl (cK, 600, .inl fk)), (on, .inl (cO, 600, .inr (.inl fo))), (ot, .inl (cT, 600, .inr (.inl ft)))]) [4, 5, 6, 0, 1, 2, 3] (by decide) rfl
                            have hK := hK.sub (tys' := [(cB, .byte), (cK, .int), (cO, .long), (cT, .long)]) [3, 0, 1, 2] rfl
                            have hP : va_P (dC, dI) vwCl [(rd, .inr (0, [.ref tp, .ref sc, .int xf, .int xp, .int o0_334, .int o1_335, .int o2_336, .int o3_337, .int xj])), (tp, .inr (6, [.ref tb, .int ts])), (tb, .inl (cB, 1200, .inl fb)), (sc, .inr (3, [.int sn, .int sb, .int si, .int sw, .int ss, .ref en, .ref ki, .ref on, .ref ot])), (ki, .inl (cK, 600, .inl fk)), (on, .inl (cO, 600, .inr (.inl fo))), (ot, .inl (cT, 600, .inr (.inl ft)))] H := hP
                            have hD : va_D A [(rd, .inr (0, [.ref tp, .ref sc, .int xf, .int xp, .int o0_334, .int o1_335, .int o2_336, .int o3_337, .int xj])), (tp, .inr (6, [.ref tb, .int ts])), (tb, .inl (cB, 1200, .inl fb)), (sc, .inr (3, [.int sn, .int sb, .int si, .int sw, .int ss, .ref en, .ref ki, .ref on, .ref ot])), (ki, .inl (cK, 600, .inl fk)), (on, .inl (cO, 600, .inr (.inl fo))), (ot, .inl (cT, 600, .inr (.inl ft)))] := hD
                            have hK : va_K (dC, dI) vwCl [(cB, .byte), (cK, .int), (cO, .long), (cT, .long)] s := hK
                            refine lv_aload_n hx hb dX1_readKind_293 rfl (lv_at hl 2 rfl) ?_
                            refine va_get (D := (dC, dI)) (ci := 0) (v := .ref sc) (C := RX1) (T := TX1) (N := 9) hx hb hts iX1_readKind6_X1 hown hK hP 0 rfl rfl 1 (by decide) (hts (.fieldLink RX1 19 "LuckyTicket$Reader" "script" "LLuckyTicket$Script;") (List.mem_of_getElem? (i := 1) rfl)) (fun _ h9 => h9) rfl dX1_readKind_294 ?_
                            refine lv_bipush (v := 6) hx hb dX1_readKind_297 (by decide) ?_
                            refine lv_aload_n hx hb dX1_readKind_299 rfl (lv_at hl 2 rfl) ?_
                            refine lv_iconst (v := 0) hx hb dX1_readKind_300 (by decide) ?_
                            refine lv_aload_n hx hb dX1_readKind_301 rfl (lv_at hl 2 rfl) ?_
                            refine va_get (D := (dC, dI)) (ci := 0) (v := .ref sc) (C := RX1) (T := TX1) (N := 9) hx hb hts iX1_readKind6_X1 hown hK hP 0 rfl rfl 1 (by decide) (hts (.fieldLink RX1 19 "LuckyTicket$Reader" "script" "LLuckyTicket$Script;") (List.mem_of_getElem? (i := 1) rfl)) (fun _ h9 => h9) rfl dX1_readKind_302 ?_
                            refine va_getN (own := RX1) (index := 93) (ref := RX4) (host := RX9) (D := (dC, dI)) (ci := 3) (v := .int sw) (C := RX4) (T := TX4) (N := 9) hx hb hts iX1_readKind6_X4 hown hK hP 3 rfl rfl 3 (by decide) (va_Nw.use rfl (hN _ (List.mem_of_getElem? (i := 10) rfl))) (fun _ h9 => h9) rfl dX1_readKind_305 ?_
                            refine lv_iconst (v := 1) hx hb dX1_readKind_308 (by decide) ?_
                            refine lv_isub hx hb dX1_readKind_309 ?_
                            refine lv_topi (fun z_339 e_z_339 => ?_)
                            obtain ⟨q_z_339, b_z_339⟩ := ti_sub (lo := -1) (hi := 8) e_z_339 rfl (by decide : (1 : Int32).toInt = 1) b_sw (by decide : (1 : Int) ≤ (1 : Int32).toInt ∧ (1 : Int32).toInt ≤ 1) (by decide)
                            have hFc := va_free (wc := [(rd, .inr (0, [.ref tp, .ref sc, .int xf, .int xp, .int o0_334, .int o1_335, .int o2_336, .int o3_337, .int xj])), (tp, .inr (6, [.ref tb, .int ts])), (tb, .inl (cB, 1200, .inl fb))]) hD hS hA [0, 1, 2] rfl
                            refine va_calli (va_runV (As := [.int 0, .int z_339]) (rest := [.int 6, .ref sc]) ⟨hx, hb, hml, hown, hts⟩ (kX1_passNumber l dC dI rd xf xp o0_334 o1_335 o2_336 o3_337 xj tp tb ts cB fb sc 0 z_339 (H.size) (rg_w b_xf (by decide) (by decide)) b_xp b_o0_334 b_o1_335 b_o2_336 b_ts (by omega)) (cwV 2 hts gX1_readKind6__X1_passNumber_V70 rfl rfl rfl hd_yX1_passNumber ⟨lel 2 7 rfl, lel 45 150 rfl⟩) ⟨hw_fb, rcv_X1 hK hP (q0 := 0) rfl, (hw_use hP hD hK hN [0, 1, 2] rfl (by decide) rfl [0] rfl)⟩ rfl rfl hl.1 rfl (lv_room (Nat.le_of_ble_eq_true rfl)) dX1_readKind_310 ⟨lel 0 0 rfl, lel 0 0 rfl⟩) hS (fun q _ h => hFc q h) hFc (fun r_340 u_341 t H1 locs ht hvm hw_r_340 hB hz1 hk1 hS => ?_)
                            obtain ⟨hu_r_340, hw_r_340⟩ := hw_r_340
                            subst hu_r_340
                            obtain ⟨o0_342, o1_343, o2_344, o3_345, o4_346, o5_347, b_o0_342, b_o1_343, b_o2_344, b_o3_345, b_o4_346, hf_348, hf_349, hf_350, hP1, hK1, hD1⟩ := hB
                            rw [ht] at hP1
                            have hK1 := va_K.moved hvm.symm hK1
                            obtain ⟨hP, hD⟩ := va_join (wr := [(sc, .inr (3, [.int sn, .int sb, .int si, .int sw, .int ss, .ref en, .ref ki, .ref on, .ref ot])), (ki, .inl (cK, 600, .inl fk)), (on, .inl (cO, 600, .inr (.inl fo))), (ot, .inl (cT, 600, .inr (.inl ft)))]) (w1 := [(rd, .inr (0, [.ref tp, .ref sc, .int o0_342, .int o1_343, .int o2_344, .int o3_345, .int o4_346, .int o5_347, .int xj])), (tp, .inr (6, [.ref tb, .int ts])), (tb, .inl (cB, 1200, .inl fb))]) hP hD [0, 1, 2] [3, 4, 5, 6] rfl rfl (by decide) (by decide) hk1 hFc hP1 hD1
                            have hK := (hK.sub (tys' := [(cK, .int), (cO, .long), (cT, .long)]) [1, 2, 3] rfl).app hK1
                            generalize H1 = H at hP hS ⊢
                            have hP := hP.sub (ws' := [(rd, .inr (0, [.ref tp, .ref sc, .int o0_342, .int o1_343, .int o2_344, .int o3_345, .int o4_346, .int o5_347, .int xj])), (tp, .inr (6, [.ref tb, .int ts])), (tb, .inl (cB, 1200, .inl fb)), (sc, .inr (3, [.int sn, .int sb, .int si, .int sw, .int ss, .ref en, .ref ki, .ref on, .ref ot])), (ki, .inl (cK, 600, .inl fk)), (on, .inl (cO, 600, .inr (.inl fo))), (ot, .inl (cT, 600, .inr (.inl ft)))]) [4, 5, 6, 0, 1, 2, 3] rfl
                            have hD := hD.sub (ws' := [(rd, .inr (0, [.ref tp, .ref sc, .int o0_342, .int o1_343, .int o2_344, .int o3_345, .int o4_346, .int o5_347, .int xj])), (tp, .inr (6, [.ref tb, .int ts])), (tb, .inl (cB, 1200, .inl fb)), (sc, .inr (3, [.int sn, .int sb, .int si, .int sw, .int ss, .ref en, .ref ki, .ref on, .ref ot])), (ki, .inl (cK, 600, .inl fk)), (on, .inl (cO, 600, .inr (.inl fo))), (ot, .inl (cT, 600, .inr (.inl ft)))]) [4, 5, 6, 0, 1, 2, 3] (by decide) rfl
                            have hK := hK.sub (tys' := [(cB, .byte), (cK, .int), (cO, .long), (cT, .long)]) [3, 0, 1, 2] rfl
                            have hP : va_P (dC, dI) vwCl [(rd, .inr (0, [.ref tp, .ref sc, .int o0_342, .int o1_343, .int o2_344, .int o3_345, .int o4_346, .int o5_347, .int xj])), (tp, .inr (6, [.ref tb, .int ts])), (tb, .inl (cB, 1200, .inl fb)), (sc, .inr (3, [.int sn, .int sb, .int si, .int sw, .int ss, .ref en, .ref ki, .ref on, .ref ot])), (ki, .inl (cK, 600, .inl fk)), (on, .inl (cO, 600, .inr (.inl fo))), (ot, .inl (cT, 600, .inr (.inl ft)))] H := hP
                            have hD : va_D A [(rd, .inr (0, [.ref tp, .ref sc, .int o0_342, .int o1_343, .int o2_344, .int o3_345, .int o4_346, .int o5_347, .int xj])), (tp, .inr (6, [.ref tb, .int ts])), (tb, .inl (cB, 1200, .inl fb)), (sc, .inr (3, [.int sn, .int sb, .int si, .int sw, .int ss, .ref en, .ref ki, .ref on, .ref ot])), (ki, .inl (cK, 600, .inl fk)), (on, .inl (cO, 600, .inr (.inl fo))), (ot, .inl (cT, 600, .inr (.inl ft)))] := hD
                            have hK : va_K (dC, dI) vwCl [(cB, .byte), (cK, .int), (cO, .long), (cT, .long)] s := hK
                            have pr_r_340 := hw_r_340
                            have b_r_340 : (0 : Int) ≤ r_340.toInt ∧ r_340.toInt ≤ 8 := by
                              have q0 := (by decide : (0 : Int) ≤ (0 : Int32).toInt ∧ (0 : Int32).toInt ≤ 0)
                              have q1 := b_z_339
                              omega
                            obtain ⟨z_351, e_z_351⟩ : ∃ y : Int64, y = r_340.toInt64 := ⟨_, rfl⟩
                            refine lv_i2l (v := z_351) hx hb dX1_readKind_313 e_z_351.symm ?_
                            obtain ⟨q_z_351, b_z_351⟩ := ti_i2l e_z_351 b_r_340
                            refine lv_lconst (v := 0) hx hb dX1_readKind_314 (by decide) ?_
                            have hFc := va_free (wc := [(sc, .inr (3, [.int sn, .int sb, .int si, .int sw, .int ss, .ref en, .ref ki, .ref on, .ref ot])), (ki, .inl (cK, 600, .inl fk)), (on, .inl (cO, 600, .inr (.inl fo))), (ot, .inl (cT, 600, .inr (.inl ft)))]) hD hS hA [3, 4, 5, 6] rfl
                            refine va_callv (va_runV (As := [.int 6, .long z_351, .long 0]) (rest := []) ⟨hx, hb, hml, hown, hts⟩ (kX4_add l dC dI sc sn sb si sw ss en ki on ot cK fk cO fo cT ft 6 z_351 0 (H.size) b_sn b_sb b_si b_sw b_ss) (cwV 3 hts gX1_readKind6__X4_add_V110 rfl rfl rfl hd_yX4_add ⟨lel 1 7 rfl, lel 25 150 rfl⟩) ⟨hw_fb, rcv_X4 hK hP (q0 := 3) rfl, (hw_use hP hD hK hN [3, 4, 5, 6] rfl (by decide) rfl [1, 2, 3] rfl)⟩ rfl rfl hl.1 rfl (lv_room (Nat.le_of_ble_eq_true rfl)) dX1_readKind_315 ⟨lel 0 0 rfl, lel 0 0 rfl⟩) hS (fun q _ h => hFc q h) hFc (fun u_353 t H1 locs ht hvm hw_r_352 hB hz1 hk1 hS => ?_)
                            obtain ⟨o0_354, o1_355, o2_356, o3_357, b_o0_354, hP1, hK1, hD1⟩ := hB
                            rw [ht] at hP1
                            have hK1 := va_K.moved hvm.symm hK1
                            obtain ⟨hP, hD⟩ := va_join (wr := [(rd, .inr (0, [.ref tp, .ref sc, .int o0_342, .int o1_343, .int o2_344, .int o3_345, .int o4_346, .int o5_347, .int xj])), (tp, .inr (6, [.ref tb, .int ts])), (tb, .inl (cB, 1200, .inl fb))]) (w1 := [(sc, .inr (3, [.int sn, .int sb, .int si, .int sw, .int o0_354, .ref en, .ref ki, .ref on, .ref ot])), (ki, .inl (cK, 600, .inl o1_355)), (on, .inl (cO, 600, .inr (.inl o2_356))), (ot, .inl (cT, 600, .inr (.inl o3_357)))]) hP hD [3, 4, 5, 6] [0, 1, 2] rfl rfl (by decide) (by decide) hk1 hFc hP1 hD1
                            have hK := (hK.sub (tys' := [(cB, .byte)]) [0] rfl).app hK1
                            generalize H1 = H at hP hS ⊢
                            have hP : va_P (dC, dI) vwCl [(rd, .inr (0, [.ref tp, .ref sc, .int o0_342, .int o1_343, .int o2_344, .int o3_345, .int o4_346, .int o5_347, .int xj])), (tp, .inr (6, [.ref tb, .int ts])), (tb, .inl (cB, 1200, .inl fb)), (sc, .inr (3, [.int sn, .int sb, .int si, .int sw, .int o0_354, .ref en, .ref ki, .ref on, .ref ot])), (ki, .inl (cK, 600, .inl o1_355)), (on, .inl (cO, 600, .inr (.inl o2_356))), (ot, .inl (cT, 600, .inr (.inl o3_357)))] H := hP
                            have hD : va_D A [(rd, .inr (0, [.ref tp, .ref sc, .int o0_342, .int o1_343, .int o2_344, .int o3_345, .int o4_346, .int o5_347, .int xj])), (tp, .inr (6, [.ref tb, .int ts])), (tb, .inl (cB, 1200, .inl fb)), (sc, .inr (3, [.int sn, .int sb, .int si, .int sw, .int o0_354, .ref en, .ref ki, .ref on, .ref ot])), (ki, .inl (cK, 600, .inl o1_355)), (on, .inl (cO, 600, .inr (.inl o2_356))), (ot, .inl (cT, 600, .inr (.inl o3_357)))] := hD
                            have hK : va_K (dC, dI) vwCl [(cB, .byte), (cK, .int), (cO, .long), (cT, .long)] s := hK
                            refine lv_goto (tgt := 368) hx hb dX1_readKind_318 (by decide) ?_
                            have hP9 := hP.sub (ws' := [(rd, .inr (0, [.ref tp, .ref sc, .int o0_342, .int o1_343, .int o2_344, .int o3_345, .int o4_346, .int o5_347, .int xj])), (tp, .inr (6, [.ref tb, .int ts])), (tb, .inl (cB, 1200, .inl fb)), (sc, .inr (3, [.int sn, .int sb, .int si, .int sw, .int o0_354, .ref en, .ref ki, .ref on, .ref ot])), (ki, .inl (cK, 600, .inl o1_355)), (on, .inl (cO, 600, .inr (.inl o2_356))), (ot, .inl (cT, 600, .inr (.inl o3_357)))]) [0, 1, 2, 3, 4, 5, 6] rfl
                            have hD9 := hD.sub (ws' := [(rd, .inr (0, [.ref tp, .ref sc, .int o0_342, .int o1_343, .int o2_344, .int o3_345, .int o4_346, .int o5_347, .int xj])), (tp, .inr (6, [.ref tb, .int ts])), (tb, .inl (cB, 1200, .inl fb)), (sc, .inr (3, [.int sn, .int sb, .int si, .int sw, .int o0_354, .ref en, .ref ki, .ref on, .ref ot])), (ki, .inl (cK, 600, .inl o1_355)), (on, .inl (cO, 600, .inr (.inl o2_356))), (ot, .inl (cT, 600, .inr (.inl o3_357)))]) [0, 1, 2, 3, 4, 5, 6] (by decide) rfl
                            have hK9 := hK.sub (tys' := [(cB, .byte), (cK, .int), (cO, .long), (cT, .long)]) [0, 1, 2, 3] rfl
                            exact W.vret hx hb hr (fun t ht hW => ⟨⟨(), rfl, trivial, o0_342, o1_343, o2_344, o3_345, o4_346, o5_347, o0_354, o1_355, o2_356, o3_357, b_o0_342, b_o1_343, b_o2_344, b_o3_345, b_o4_346, (rg_w b_o0_354 (by decide) (by decide)), (by omega), by rw [ht]; exact hP9, va_K.moved hW.alike hK9, hD9⟩, hS.F ht⟩) hS.2.2 dX1_readKind_368
                        ·
                          have n_c_275 : (r_274.toInt : Int) ≠ 0 := c_ne rfl (by decide) c_275
                          have b_r_274 : (1 : Int) ≤ r_274.toInt ∧ r_274.toInt ≤ 1 := r_ne1 b_r_274 (by decide : (0 : Int) ≤ (0 : Int32).toInt ∧ (0 : Int32).toInt ≤ 0) n_c_275 (by decide)
                          have g_358 := nz_r_274 c_275
                          refine lv_aload_n hx hb dX1_readKind_273 rfl (lv_at hl 2 rfl) ?_
                          have hFc := va_free (wc := [(rd, .inr (0, [.ref tp, .ref sc, .int xf, .int xp, .int xt, .int xa, .int xo, .int xv, .int xj])), (tp, .inr (6, [.ref tb, .int ts])), (tb, .inl (cB, 1200, .inl fb)), (sc, .inr (3, [.int sn, .int sb, .int si, .int sw, .int ss, .ref en, .ref ki, .ref on, .ref ot])), (ki, .inl (cK, 600, .inl fk)), (on, .inl (cO, 600, .inr (.inl fo))), (ot, .inl (cT, 600, .inr (.inl ft)))]) hD hS hA [0, 1, 2, 3, 4, 5, 6] rfl
                          refine va_callv (va_runV (As := []) (rest := []) ⟨hx, hb, hml, hown, hts⟩ (kX1_readRest l dC dI rd xf xp xt xa xo xv xj tp tb ts cB fb sc sn sb si sw ss en ki on ot cK fk cO fo cT ft n0 (H.size) (rg_w b_xf (by decide) (by decide)) b_xp b_xt b_xa b_xo b_ts b_sn b_sb b_si b_sw b_ss (by omega)) (cwV 0 hts gX1_readKind6__X1_readRest_V157 rfl rfl rfl hd_yX1_readRest ⟨lel 7 7 rfl, lel 150 150 rfl⟩) ⟨hx_fb, rcv_X1 hK hP (q0 := 0) rfl, (hx_use hP hD hK hN hX hS hAn hn0 [0, 1, 2, 3, 4, 5, 6] rfl (by decide) rfl [0, 1, 2, 3] rfl tts_0)⟩ rfl rfl hl.1 rfl (lv_room (Nat.le_of_ble_eq_true rfl)) dX1_readKind_274 ⟨lel 0 0 rfl, lel 0 0 rfl⟩) hS (fun q _ h => hFc q h) hFc (fun u_360 t H1 locs ht hvm hw_r_359 hB hz1 hk1 hS => ?_)
                          obtain ⟨o0_361, o1_362, o2_363, o3_364, o4_365, o5_366, o6_367, o7_368, o8_369, o9_370, b_o0_361, b_o1_362, b_o2_363, b_o3_364, b_o4_365, b_o6_367, hf_371, hP1, hK1, hD1⟩ := hB
                          rw [ht] at hP1
                          have hK1 := va_K.moved hvm.symm hK1
                          obtain ⟨hP, hD⟩ := va_join (wr := []) (w1 := [(rd, .inr (0, [.ref tp, .ref sc, .int o0_361, .int o1_362, .int o2_363, .int o3_364, .int o4_365, .int o5_366, .int xj])), (tp, .inr (6, [.ref tb, .int ts])), (tb, .inl (cB, 1200, .inl fb)), (sc, .inr (3, [.int sn, .int sb, .int si, .int sw, .int o6_367, .ref en, .ref ki, .ref on, .ref ot])), (ki, .inl (cK, 600, .inl o7_368)), (on, .inl (cO, 600, .inr (.inl o8_369))), (ot, .inl (cT, 600, .inr (.inl o9_370)))]) hP hD [0, 1, 2, 3, 4, 5, 6] [] rfl rfl (by decide) (by decide) hk1 hFc hP1 hD1
                          have hK := (hK.sub (tys' := []) [] rfl).app hK1
                          generalize H1 = H at hP hS ⊢
                          have hP : va_P (dC, dI) vwCl [(rd, .inr (0, [.ref tp, .ref sc, .int o0_361, .int o1_362, .int o2_363, .int o3_364, .int o4_365, .int o5_366, .int xj])), (tp, .inr (6, [.ref tb, .int ts])), (tb, .inl (cB, 1200, .inl fb)), (sc, .inr (3, [.int sn, .int sb, .int si, .int sw, .int o6_367, .ref en, .ref ki, .ref on, .ref ot])), (ki, .inl (cK, 600, .inl o7_368)), (on, .inl (cO, 600, .inr (.inl o8_369))), (ot, .inl (cT, 600, .inr (.inl o9_370)))] H := hP
                          have hD : va_D A [(rd, .inr (0, [.ref tp, .ref sc, .int o0_361, .int o1_362, .int o2_363, .int o3_364, .int o4_365, .int o5_366, .int xj])), (tp, .inr (6, [.ref tb, .int ts])), (tb, .inl (cB, 1200, .inl fb)), (sc, .inr (3, [.int sn, .int sb, .int si, .int sw, .int o6_367, .ref en, .ref ki, .ref on, .ref ot])), (ki, .inl (cK, 600, .inl o7_368)), (on, .inl (cO, 600, .inr (.inl o8_369))), (ot, .inl (cT, 600, .inr (.inl o9_370)))] := hD
                          have hK : va_K (dC, dI) vwCl [(cB, .byte), (cK, .int), (cO, .long), (cT, .long)] s := hK
                          refine lv_goto (tgt := 368) hx hb dX1_readKind_277 (by decide) ?_
                          have hP9 := hP.sub (ws' := [(rd, .inr (0, [.ref tp, .ref sc, .int o0_361, .int o1_362, .int o2_363, .int o3_364, .int o4_365, .int o5_366, .int xj])), (tp, .inr (6, [.ref tb, .int ts])), (tb, .inl (cB, 1200, .inl fb)), (sc, .inr (3, [.int sn, .int sb, .int si, .int sw, .int o6_367, .ref en, .ref ki, .ref on, .ref ot])), (ki, .inl (cK, 600, .inl o7_368)), (on, .inl (cO, 600, .inr (.inl o8_369))), (ot, .inl (cT, 600, .inr (.inl o9_370)))]) [0, 1, 2, 3, 4, 5, 6] rfl
                          have hD9 := hD.sub (ws' := [(rd, .inr (0, [.ref tp, .ref sc, .int o0_361, .int o1_362, .int o2_363, .int o3_364, .int o4_365, .int o5_366, .int xj])), (tp, .inr (6, [.ref tb, .int ts])), (tb, .inl (cB, 1200, .inl fb)), (sc, .inr (3, [.int sn, .int sb, .int si, .int sw, .int o6_367, .ref en, .ref ki, .ref on, .ref ot])), (ki, .inl (cK, 600, .inl o7_368)), (on, .inl (cO, 600, .inr (.inl o8_369))), (ot, .inl (cT, 600, .inr (.inl o9_370)))]) [0, 1, 2, 3, 4, 5, 6] (by decide) rfl
                          have hK9 := hK.sub (tys' := [(cB, .byte), (cK, .int), (cO, .long), (cT, .long)]) [0, 1, 2, 3] rfl
                          exact W.vret hx hb hr (fun t ht hW => ⟨⟨(), rfl, trivial, o0_361, o1_362, o2_363, o3_364, o4_365, o5_366, o6_367, o7_368, o8_369, o9_370, b_o0_361, b_o1_362, b_o2_363, b_o3_364, b_o4_365, (rg_w b_o6_367 (by decide) (by decide)), (by omega), by rw [ht]; exact hP9, va_K.moved hW.alike hK9, hD9⟩, hS.F ht⟩) hS.2.2 dX1_readKind_368
                      ·
                        have n_c_272 : (r_271.toInt : Int) ≠ 0 := c_ne rfl (by decide) c_272
                        have b_r_271 : (1 : Int) ≤ r_271.toInt ∧ r_271.toInt ≤ 1 := r_ne1 b_r_271 (by decide : (0 : Int) ≤ (0 : Int32).toInt ∧ (0 : Int32).toInt ≤ 0) n_c_272 (by decide)
                        have g_372 := nz_r_271 c_272
                        refine lv_aload_n hx hb dX1_readKind_239 rfl (lv_at hl 2 rfl) ?_
                        have hFc := va_free (wc := [(rd, .inr (0, [.ref tp, .ref sc, .int xf, .int xp, .int xt, .int xa, .int xo, .int xv, .int xj])), (tp, .inr (6, [.ref tb, .int ts])), (tb, .inl (cB, 1200, .inl fb))]) hD hS hA [0, 1, 2] rfl
                        refine va_callv (va_runV (As := []) (rest := []) ⟨hx, hb, hml, hown, hts⟩ (kX1_advance l dC dI rd xf xp xt xa xo xv xj tp tb ts cB fb sc (H.size) (rg_w b_xf (by decide) (by decide)) b_xp b_xt b_xa b_xo b_ts (by omega)) (cwV 0 hts gX1_readKind6__X1_advance_V34 rfl rfl rfl hd_yX1_advance ⟨lel 1 7 rfl, lel 22 150 rfl⟩) ⟨hw_fb, rcv_X1 hK hP (q0 := 0) rfl, (hw_use hP hD hK hN [0, 1, 2] rfl (by decide) rfl [0] rfl)⟩ rfl rfl hl.1 rfl (lv_room (Nat.le_of_ble_eq_true rfl)) dX1_readKind_240 ⟨lel 0 0 rfl, lel 0 0 rfl⟩) hS (fun q _ h => hFc q h) hFc (fun u_374 t H1 locs ht hvm hw_r_373 hB hz1 hk1 hS => ?_)
                        obtain ⟨o0_375, o1_376, o2_377, o3_378, b_o0_375, b_o1_376, b_o2_377, hf_379, hP1, hK1, hD1⟩ := hB
                        rw [ht] at hP1
                        have hK1 := va_K.moved hvm.symm hK1
                        obtain ⟨hP, hD⟩ := va_join (wr := [(sc, .inr (3, [.int sn, .int sb, .int si, .int sw, .int ss, .ref en, .ref ki, .ref on, .ref ot])), (ki, .inl (cK, 600, .inl fk)), (on, .inl (cO, 600, .inr (.inl fo))), (ot, .inl (cT, 600, .inr (.inl ft)))]) (w1 := [(rd, .inr (0, [.ref tp, .ref sc, .int xf, .int xp, .int o0_375, .int o1_376, .int o2_377, .int o3_378, .int xj])), (tp, .inr (6, [.ref tb, .int ts])), (tb, .inl (cB, 1200, .inl fb))]) hP hD [0, 1, 2] [3, 4, 5, 6] rfl rfl (by decide) (by decide) hk1 hFc hP1 hD1
                        have hK := (hK.sub (tys' := [(cK, .int), (cO, .long), (cT, .long)]) [1, 2, 3] rfl).app hK1
                        generalize H1 = H at hP hS ⊢
                        have hP := hP.sub (ws' := [(rd, .inr (0, [.ref tp, .ref sc, .int xf, .int xp, .int o0_375, .int o1_376, .int o2_377, .int o3_378, .int xj])), (tp, .inr (6, [.ref tb, .int ts])), (tb, .inl (cB, 1200, .inl fb)), (sc, .inr (3, [.int sn, .int sb, .int si, .int sw, .int ss, .ref en, .ref ki, .ref on, .ref ot])), (ki, .inl (cK, 600, .inl fk)), (on, .inl (cO, 600, .inr (.inl fo))), (ot, .inl (cT, 600, .inr (.inl ft)))]) [4, 5, 6, 0, 1, 2, 3] rfl
                        have hD := hD.sub (ws' := [(rd, .inr (0, [.ref tp, .ref sc, .int xf, .int xp, .int o0_375, .int o1_376, .int o2_377, .int o3_378, .int xj])), (tp, .inr (6, [.ref tb, .int ts])), (tb, .inl (cB, 1200, .inl fb)), (sc, .inr (3, [.int sn, .int sb, .int si, .int sw, .int ss, .ref en, .ref ki, .ref on, .ref ot])), (ki, .inl (cK, 600, .inl fk)), (on, .inl (cO, 600, .inr (.inl fo))), (ot, .inl (cT, 600, .inr (.inl ft)))]) [4, 5, 6, 0, 1, 2, 3] (by decide) rfl
                        have hK := hK.sub (tys' := [(cB, .byte), (cK, .int), (cO, .long), (cT, .long)]) [3, 0, 1, 2] rfl
                        have hP : va_P (dC, dI) vwCl [(rd, .inr (0, [.ref tp, .ref sc, .int xf, .int xp, .int o0_375, .int o1_376, .int o2_377, .int o3_378, .int xj])), (tp, .inr (6, [.ref tb, .int ts])), (tb, .inl (cB, 1200, .inl fb)), (sc, .inr (3, [.int sn, .int sb, .int si, .int sw, .int ss, .ref en, .ref ki, .ref on, .ref ot])), (ki, .inl (cK, 600, .inl fk)), (on, .inl (cO, 600, .inr (.inl fo))), (ot, .inl (cT, 600, .inr (.inl ft)))] H := hP
                        have hD : va_D A [(rd, .inr (0, [.ref tp, .ref sc, .int xf, .int xp, .int o0_375, .int o1_376, .int o2_377, .int o3_378, .int xj])), (tp, .inr (6, [.ref tb, .int ts])), (tb, .inl (cB, 1200, .inl fb)), (sc, .inr (3, [.int sn, .int sb, .int si, .int sw, .int ss, .ref en, .ref ki, .ref on, .ref ot])), (ki, .inl (cK, 600, .inl fk)), (on, .inl (cO, 600, .inr (.inl fo))), (ot, .inl (cT, 600, .inr (.inl ft)))] := hD
                        have hK : va_K (dC, dI) vwCl [(cB, .byte), (cK, .int), (cO, .long), (cT, .long)] s := hK
                        refine lv_aload_n hx hb dX1_readKind_243 rfl (lv_at hl 2 rfl) ?_
                        refine va_get (D := (dC, dI)) (ci := 0) (v := .ref sc) (C := RX1) (T := TX1) (N := 9) hx hb hts iX1_readKind6_X1 hown hK hP 0 rfl rfl 1 (by decide) (hts (.fieldLink RX1 19 "LuckyTicket$Reader" "script" "LLuckyTicket$Script;") (List.mem_of_getElem? (i := 1) rfl)) (fun _ h9 => h9) rfl dX1_readKind_244 ?_
                        refine lv_iconst (v := 4) hx hb dX1_readKind_247 (by decide) ?_
                        refine lv_aload_n hx hb dX1_readKind_248 rfl (lv_at hl 2 rfl) ?_
                        refine lv_iconst (v := 0) hx hb dX1_readKind_249 (by decide) ?_
                        refine lv_sipush (v := 180) hx hb dX1_readKind_250 (by decide) ?_
                        have hFc := va_free (wc := [(rd, .inr (0, [.ref tp, .ref sc, .int xf, .int xp, .int o0_375, .int o1_376, .int o2_377, .int o3_378, .int xj])), (tp, .inr (6, [.ref tb, .int ts])), (tb, .inl (cB, 1200, .inl fb))]) hD hS hA [0, 1, 2] rfl
                        refine va_calli (va_runV (As := [.int 0, .int 180]) (rest := [.int 4, .ref sc]) ⟨hx, hb, hml, hown, hts⟩ (kX1_passNumber l dC dI rd xf xp o0_375 o1_376 o2_377 o3_378 xj tp tb ts cB fb sc 0 180 (H.size) (rg_w b_xf (by decide) (by decide)) b_xp b_o0_375 b_o1_376 b_o2_377 b_ts (by omega)) (cwV 2 hts gX1_readKind6__X1_passNumber_V70 rfl rfl rfl hd_yX1_passNumber ⟨lel 2 7 rfl, lel 45 150 rfl⟩) ⟨hw_fb, rcv_X1 hK hP (q0 := 0) rfl, (hw_use hP hD hK hN [0, 1, 2] rfl (by decide) rfl [0] rfl)⟩ rfl rfl hl.1 rfl (lv_room (Nat.le_of_ble_eq_true rfl)) dX1_readKind_253 ⟨lel 0 0 rfl, lel 0 0 rfl⟩) hS (fun q _ h => hFc q h) hFc (fun r_380 u_381 t H1 locs ht hvm hw_r_380 hB hz1 hk1 hS => ?_)
                        obtain ⟨hu_r_380, hw_r_380⟩ := hw_r_380
                        subst hu_r_380
                        obtain ⟨o0_382, o1_383, o2_384, o3_385, o4_386, o5_387, b_o0_382, b_o1_383, b_o2_384, b_o3_385, b_o4_386, hf_388, hf_389, hf_390, hP1, hK1, hD1⟩ := hB
                        rw [ht] at hP1
                        have hK1 := va_K.moved hvm.symm hK1
                        obtain ⟨hP, hD⟩ := va_join (wr := [(sc, .inr (3, [.int sn, .int sb, .int si, .int sw, .int ss, .ref en, .ref ki, .ref on, .ref ot])), (ki, .inl (cK, 600, .inl fk)), (on, .inl (cO, 600, .inr (.inl fo))), (ot, .inl (cT, 600, .inr (.inl ft)))]) (w1 := [(rd, .inr (0, [.ref tp, .ref sc, .int o0_382, .int o1_383, .int o2_384, .int o3_385, .int o4_386, .int o5_387, .int xj])), (tp, .inr (6, [.ref tb, .int ts])), (tb, .inl (cB, 1200, .inl fb))]) hP hD [0, 1, 2] [3, 4, 5, 6] rfl rfl (by decide) (by decide) hk1 hFc hP1 hD1
                        have hK := (hK.sub (tys' := [(cK, .int), (cO, .long), (cT, .long)]) [1, 2, 3] rfl).app hK1
                        generalize H1 = H at hP hS ⊢
                        have hP := hP.sub (ws' := [(rd, .inr (0, [.ref tp, .ref sc, .int o0_382, .int o1_383, .int o2_384, .int o3_385, .int o4_386, .int o5_387, .int xj])), (tp, .inr (6, [.ref tb, .int ts])), (tb, .inl (cB, 1200, .inl fb)), (sc, .inr (3, [.int sn, .int sb, .int si, .int sw, .int ss, .ref en, .ref ki, .ref on, .ref ot])), (ki, .inl (cK, 600, .inl fk)), (on, .inl (cO, 600, .inr (.inl fo))), (ot, .inl (cT, 600, .inr (.inl ft)))]) [4, 5, 6, 0, 1, 2, 3] rfl
                        have hD := hD.sub (ws' := [(rd, .inr (0, [.ref tp, .ref sc, .int o0_382, .int o1_383, .int o2_384, .int o3_385, .int o4_386, .int o5_387, .int xj])), (tp, .inr (6, [.ref tb, .int ts])), (tb, .inl (cB, 1200, .inl fb)), (sc, .inr (3, [.int sn, .int sb, .int si, .int sw, .int ss, .ref en, .ref ki, .ref on, .ref ot])), (ki, .inl (cK, 600, .inl fk)), (on, .inl (cO, 600, .inr (.inl fo))), (ot, .inl (cT, 600, .inr (.inl ft)))]) [4, 5, 6, 0, 1, 2, 3] (by decide) rfl
                        have hK := hK.sub (tys' := [(cB, .byte), (cK, .int), (cO, .long), (cT, .long)]) [3, 0, 1, 2] rfl
                        have hP : va_P (dC, dI) vwCl [(rd, .inr (0, [.ref tp, .ref sc, .int o0_382, .int o1_383, .int o2_384, .int o3_385, .int o4_386, .int o5_387, .int xj])), (tp, .inr (6, [.ref tb, .int ts])), (tb, .inl (cB, 1200, .inl fb)), (sc, .inr (3, [.int sn, .int sb, .int si, .int sw, .int ss, .ref en, .ref ki, .ref on, .ref ot])), (ki, .inl (cK, 600, .inl fk)), (on, .inl (cO, 600, .inr (.inl fo))), (ot, .inl (cT, 600, .inr (.inl ft)))] H := hP
                        have hD : va_D A [(rd, .inr (0, [.ref tp, .ref sc, .int o0_382, .int o1_383, .int o2_384, .int o3_385, .int o4_386, .int o5_387, .int xj])), (tp, .inr (6, [.ref tb, .int ts])), (tb, .inl (cB, 1200, .inl fb)), (sc, .inr (3, [.int sn, .int sb, .int si, .int sw, .int ss, .ref en, .ref ki, .ref on, .ref ot])), (ki, .inl (cK, 600, .inl fk)), (on, .inl (cO, 600, .inr (.inl fo))), (ot, .inl (cT, 600, .inr (.inl ft)))] := hD
                        have hK : va_K (dC, dI) vwCl [(cB, .byte), (cK, .int), (cO, .long), (cT, .long)] s := hK
                        have pr_r_380 := hw_r_380
                        have b_r_380 : (0 : Int) ≤ r_380.toInt ∧ r_380.toInt ≤ 180 := by
                          have q0 := (by decide : (0 : Int) ≤ (0 : Int32).toInt ∧ (0 : Int32).toInt ≤ 0)
                          have q1 := (by decide : (180 : Int) ≤ (180 : Int32).toInt ∧ (180 : Int32).toInt ≤ 180)
                          omega
                        obtain ⟨z_391, e_z_391⟩ : ∃ y : Int64, y = r_380.toInt64 := ⟨_, rfl⟩
                        refine lv_i2l (v := z_391) hx hb dX1_readKind_256 e_z_391.symm ?_
                        obtain ⟨q_z_391, b_z_391⟩ := ti_i2l e_z_391 b_r_380
                        refine lv_lconst (v := 0) hx hb dX1_readKind_257 (by decide) ?_
                        have hFc := va_free (wc := [(sc, .inr (3, [.int sn, .int sb, .int si, .int sw, .int ss, .ref en, .ref ki, .ref on, .ref ot])), (ki, .inl (cK, 600, .inl fk)), (on, .inl (cO, 600, .inr (.inl fo))), (ot, .inl (cT, 600, .inr (.inl ft)))]) hD hS hA [3, 4, 5, 6] rfl
                        refine va_callv (va_runV (As := [.int 4, .long z_391, .long 0]) (rest := []) ⟨hx, hb, hml, hown, hts⟩ (kX4_add l dC dI sc sn sb si sw ss en ki on ot cK fk cO fo cT ft 4 z_391 0 (H.size) b_sn b_sb b_si b_sw b_ss) (cwV 3 hts gX1_readKind6__X4_add_V110 rfl rfl rfl hd_yX4_add ⟨lel 1 7 rfl, lel 25 150 rfl⟩) ⟨hw_fb, rcv_X4 hK hP (q0 := 3) rfl, (hw_use hP hD hK hN [3, 4, 5, 6] rfl (by decide) rfl [1, 2, 3] rfl)⟩ rfl rfl hl.1 rfl (lv_room (Nat.le_of_ble_eq_true rfl)) dX1_readKind_258 ⟨lel 0 0 rfl, lel 0 0 rfl⟩) hS (fun q _ h => hFc q h) hFc (fun u_393 t H1 locs ht hvm hw_r_392 hB hz1 hk1 hS => ?_)
                        obtain ⟨o0_394, o1_395, o2_396, o3_397, b_o0_394, hP1, hK1, hD1⟩ := hB
                        rw [ht] at hP1
                        have hK1 := va_K.moved hvm.symm hK1
                        obtain ⟨hP, hD⟩ := va_join (wr := [(rd, .inr (0, [.ref tp, .ref sc, .int o0_382, .int o1_383, .int o2_384, .int o3_385, .int o4_386, .int o5_387, .int xj])), (tp, .inr (6, [.ref tb, .int ts])), (tb, .inl (cB, 1200, .inl fb))]) (w1 := [(sc, .inr (3, [.int sn, .int sb, .int si, .int sw, .int o0_394, .ref en, .ref ki, .ref on, .ref ot])), (ki, .inl (cK, 600, .inl o1_395)), (on, .inl (cO, 600, .inr (.inl o2_396))), (ot, .inl (cT, 600, .inr (.inl o3_397)))]) hP hD [3, 4, 5, 6] [0, 1, 2] rfl rfl (by decide) (by decide) hk1 hFc hP1 hD1
                        have hK := (hK.sub (tys' := [(cB, .byte)]) [0] rfl).app hK1
                        generalize H1 = H at hP hS ⊢
                        have hP : va_P (dC, dI) vwCl [(rd, .inr (0, [.ref tp, .ref sc, .int o0_382, .int o1_383, .int o2_384, .int o3_385, .int o4_386, .int o5_387, .int xj])), (tp, .inr (6, [.ref tb, .int ts])), (tb, .inl (cB, 1200, .inl fb)), (sc, .inr (3, [.int sn, .int sb, .int si, .int sw, .int o0_394, .ref en, .ref ki, .ref on, .ref ot])), (ki, .inl (cK, 600, .inl o1_395)), (on, .inl (cO, 600, .inr (.inl o2_396))), (ot, .inl (cT, 600, .inr (.inl o3_397)))] H := hP
                        have hD : va_D A [(rd, .inr (0, [.ref tp, .ref sc, .int o0_382, .int o1_383, .int o2_384, .int o3_385, .int o4_386, .int o5_387, .int xj])), (tp, .inr (6, [.ref tb, .int ts])), (tb, .inl (cB, 1200, .inl fb)), (sc, .inr (3, [.int sn, .int sb, .int si, .int sw, .int o0_394, .ref en, .ref ki, .ref on, .ref ot])), (ki, .inl (cK, 600, .inl o1_395)), (on, .inl (cO, 600, .inr (.inl o2_396))), (ot, .inl (cT, 600, .inr (.inl o3_397)))] := hD
                        have hK : va_K (dC, dI) vwCl [(cB, .byte), (cK, .int), (cO, .long), (cT, .long)] s := hK
                        refine lv_goto (tgt := 368) hx hb dX1_readKind_261 (by decide) ?_
                        have hP9 := hP.sub (ws' := [(rd, .inr (0, [.ref tp, .ref sc, .int o0_382, .int o1_383, .int o2_384, .int o3_385, .int o4_386, .int o5_387, .int xj])), (tp, .inr (6, [.ref tb, .int ts])), (tb, .inl (cB, 1200, .inl fb)), (sc, .inr (3, [.int sn, .int sb, .int si, .int sw, .int o0_394, .ref en, .ref ki, .ref on, .ref ot])), (ki, .inl (cK, 600, .inl o1_395)), (on, .inl (cO, 600, .inr (.inl o2_396))), (ot, .inl (cT, 600, .inr (.inl o3_397)))]) [0, 1, 2, 3, 4, 5, 6] rfl
                        have hD9 := hD.sub (ws' := [(rd, .inr (0, [.ref tp, .ref sc, .int o0_382, .int o1_383, .int o2_384, .int o3_385, .int o4_386, .int o5_387, .int xj])), (tp, .inr (6, [.ref tb, .int ts])), (tb, .inl (cB, 1200, .inl fb)), (sc, .inr (3, [.int sn, .int sb, .int si, .int sw, .int o0_394, .ref en, .ref ki, .ref on, .ref ot])), (ki, .inl (cK, 600, .inl o1_395)), (on, .inl (cO, 600, .inr (.inl o2_396))), (ot, .inl (cT, 600, .inr (.inl o3_397)))]) [0, 1, 2, 3, 4, 5, 6] (by decide) rfl
                        have hK9 := hK.sub (tys' := [(cB, .byte), (cK, .int), (cO, .long), (cT, .long)]) [0, 1, 2, 3] rfl
                        exact W.vret hx hb hr (fun t ht hW => ⟨⟨(), rfl, trivial, o0_382, o1_383, o2_384, o3_385, o4_386, o5_387, o0_394, o1_395, o2_396, o3_397, b_o0_382, b_o1_383, b_o2_384, b_o3_385, b_o4_386, (rg_w b_o0_394 (by decide) (by decide)), (by omega), by rw [ht]; exact hP9, va_K.moved hW.alike hK9, hD9⟩, hS.F ht⟩) hS.2.2 dX1_readKind_368
                    ·
                      have n_c_269 : (r_268.toInt : Int) ≠ 0 := c_ne rfl (by decide) c_269
                      have b_r_268 : (1 : Int) ≤ r_268.toInt ∧ r_268.toInt ≤ 1 := r_ne1 b_r_268 (by decide : (0 : Int) ≤ (0 : Int32).toInt ∧ (0 : Int32).toInt ≤ 0) n_c_269 (by decide)
                      have g_398 := nz_r_268 c_269
                      refine lv_aload_n hx hb dX1_readKind_220 rfl (lv_at hl 2 rfl) ?_
                      refine lv_iconst (v := 3) hx hb dX1_readKind_221 (by decide) ?_
                      refine lv_lconst (v := 0) hx hb dX1_readKind_222 (by decide) ?_
                      refine lv_lconst (v := 0) hx hb dX1_readKind_223 (by decide) ?_
                      have hFc := va_free (wc := [(rd, .inr (0, [.ref tp, .ref sc, .int xf, .int xp, .int xt, .int xa, .int xo, .int xv, .int xj])), (tp, .inr (6, [.ref tb, .int ts])), (tb, .inl (cB, 1200, .inl fb)), (sc, .inr (3, [.int sn, .int sb, .int si, .int sw, .int ss, .ref en, .ref ki, .ref on, .ref ot])), (ki, .inl (cK, 600, .inl fk)), (on, .inl (cO, 600, .inr (.inl fo))), (ot, .inl (cT, 600, .inr (.inl ft)))]) hD hS hA [0, 1, 2, 3, 4, 5, 6] rfl
                      refine va_callv (va_runV (As := [.int 3, .long 0, .long 0]) (rest := []) ⟨hx, hb, hml, hown, hts⟩ (kX1_addPlain l dC dI rd xf xp xt xa xo xv xj tp tb ts cB fb sc sn sb si sw ss en ki on ot cK fk cO fo cT ft 3 0 0 (H.size) (rg_w b_xf (by decide) (by decide)) b_xp b_xt b_xa b_xo b_ts b_sn b_sb b_si b_sw b_ss (by omega)) (cwV 3 hts gX1_readKind6__X1_addPlain_V136 rfl rfl rfl hd_yX1_addPlain ⟨lel 2 7 rfl, lel 50 150 rfl⟩) ⟨hw_fb, rcv_X1 hK hP (q0 := 0) rfl, (hw_use hP hD hK hN [0, 1, 2, 3, 4, 5, 6] rfl (by decide) rfl [0, 1, 2, 3] rfl)⟩ rfl rfl hl.1 rfl (lv_room (Nat.le_of_ble_eq_true rfl)) dX1_readKind_224 ⟨lel 0 0 rfl, lel 0 0 rfl⟩) hS (fun q _ h => hFc q h) hFc (fun u_400 t H1 locs ht hvm hw_r_399 hB hz1 hk1 hS => ?_)
                      obtain ⟨o0_401, o1_402, o2_403, o3_404, o4_405, o5_406, o6_407, o7_408, b_o0_401, b_o1_402, b_o2_403, b_o4_405, hf_409, hP1, hK1, hD1⟩ := hB
                      rw [ht] at hP1
                      have hK1 := va_K.moved hvm.symm hK1
                      obtain ⟨hP, hD⟩ := va_join (wr := []) (w1 := [(rd, .inr (0, [.ref tp, .ref sc, .int xf, .int xp, .int o0_401, .int o1_402, .int o2_403, .int o3_404, .int xj])), (tp, .inr (6, [.ref tb, .int ts])), (tb, .inl (cB, 1200, .inl fb)), (sc, .inr (3, [.int sn, .int sb, .int si, .int sw, .int o4_405, .ref en, .ref ki, .ref on, .ref ot])), (ki, .inl (cK, 600, .inl o5_406)), (on, .inl (cO, 600, .inr (.inl o6_407))), (ot, .inl (cT, 600, .inr (.inl o7_408)))]) hP hD [0, 1, 2, 3, 4, 5, 6] [] rfl rfl (by decide) (by decide) hk1 hFc hP1 hD1
                      have hK := (hK.sub (tys' := []) [] rfl).app hK1
                      generalize H1 = H at hP hS ⊢
                      have hP : va_P (dC, dI) vwCl [(rd, .inr (0, [.ref tp, .ref sc, .int xf, .int xp, .int o0_401, .int o1_402, .int o2_403, .int o3_404, .int xj])), (tp, .inr (6, [.ref tb, .int ts])), (tb, .inl (cB, 1200, .inl fb)), (sc, .inr (3, [.int sn, .int sb, .int si, .int sw, .int o4_405, .ref en, .ref ki, .ref on, .ref ot])), (ki, .inl (cK, 600, .inl o5_406)), (on, .inl (cO, 600, .inr (.inl o6_407))), (ot, .inl (cT, 600, .inr (.inl o7_408)))] H := hP
                      have hD : va_D A [(rd, .inr (0, [.ref tp, .ref sc, .int xf, .int xp, .int o0_401, .int o1_402, .int o2_403, .int o3_404, .int xj])), (tp, .inr (6, [.ref tb, .int ts])), (tb, .inl (cB, 1200, .inl fb)), (sc, .inr (3, [.int sn, .int sb, .int si, .int sw, .int o4_405, .ref en, .ref ki, .ref on, .ref ot])), (ki, .inl (cK, 600, .inl o5_406)), (on, .inl (cO, 600, .inr (.inl o6_407))), (ot, .inl (cT, 600, .inr (.inl o7_408)))] := hD
                      have hK : va_K (dC, dI) vwCl [(cB, .byte), (cK, .int), (cO, .long), (cT, .long)] s := hK
                      refine lv_goto (tgt := 368) hx hb dX1_readKind_227 (by decide) ?_
                      have hP9 := hP.sub (ws' := [(rd, .inr (0, [.ref tp, .ref sc, .int xf, .int xp, .int o0_401, .int o1_402, .int o2_403, .int o3_404, .int xj])), (tp, .inr (6, [.ref tb, .int ts])), (tb, .inl (cB, 1200, .inl fb)), (sc, .inr (3, [.int sn, .int sb, .int si, .int sw, .int o4_405, .ref en, .ref ki, .ref on, .ref ot])), (ki, .inl (cK, 600, .inl o5_406)), (on, .inl (cO, 600, .inr (.inl o6_407))), (ot, .inl (cT, 600, .inr (.inl o7_408)))]) [0, 1, 2, 3, 4, 5, 6] rfl
                      have hD9 := hD.sub (ws' := [(rd, .inr (0, [.ref tp, .ref sc, .int xf, .int xp, .int o0_401, .int o1_402, .int o2_403, .int o3_404, .int xj])), (tp, .inr (6, [.ref tb, .int ts])), (tb, .inl (cB, 1200, .inl fb)), (sc, .inr (3, [.int sn, .int sb, .int si, .int sw, .int o4_405, .ref en, .ref ki, .ref on, .ref ot])), (ki, .inl (cK, 600, .inl o5_406)), (on, .inl (cO, 600, .inr (.inl o6_407))), (ot, .inl (cT, 600, .inr (.inl o7_408)))]) [0, 1, 2, 3, 4, 5, 6] (by decide) rfl
                      have hK9 := hK.sub (tys' := [(cB, .byte), (cK, .int), (cO, .long), (cT, .long)]) [0, 1, 2, 3] rfl
                      exact W.vret hx hb hr (fun t ht hW => ⟨⟨(), rfl, trivial, xf, xp, o0_401, o1_402, o2_403, o3_404, o4_405, o5_406, o6_407, o7_408, (rg_w b_xf (by decide) (by decide)), b_xp, b_o0_401, b_o1_402, b_o2_403, (rg_w b_o4_405 (by decide) (by decide)), (by omega), by rw [ht]; exact hP9, va_K.moved hW.alike hK9, hD9⟩, hS.F ht⟩) hS.2.2 dX1_readKind_368
                  ·
                    have n_c_266 : (r_265.toInt : Int) ≠ 0 := c_ne rfl (by decide) c_266
                    have b_r_265 : (1 : Int) ≤ r_265.toInt ∧ r_265.toInt ≤ 1 := r_ne1 b_r_265 (by decide : (0 : Int) ≤ (0 : Int32).toInt ∧ (0 : Int32).toInt ≤ 0) n_c_266 (by decide)
                    have g_410 := nz_r_265 c_266
                    refine lv_aload_n hx hb dX1_readKind_201 rfl (lv_at hl 2 rfl) ?_
                    refine lv_iconst (v := 2) hx hb dX1_readKind_202 (by decide) ?_
                    refine lv_lconst (v := 0) hx hb dX1_readKind_203 (by decide) ?_
                    refine lv_lconst (v := 0) hx hb dX1_readKind_204 (by decide) ?_
                    have hFc := va_free (wc := [(rd, .inr (0, [.ref tp, .ref sc, .int xf, .int xp, .int xt, .int xa, .int xo, .int xv, .int xj])), (tp, .inr (6, [.ref tb, .int ts])), (tb, .inl (cB, 1200, .inl fb)), (sc, .inr (3, [.int sn, .int sb, .int si, .int sw, .int ss, .ref en, .ref ki, .ref on, .ref ot])), (ki, .inl (cK, 600, .inl fk)), (on, .inl (cO, 600, .inr (.inl fo))), (ot, .inl (cT, 600, .inr (.inl ft)))]) hD hS hA [0, 1, 2, 3, 4, 5, 6] rfl
                    refine va_callv (va_runV (As := [.int 2, .long 0, .long 0]) (rest := []) ⟨hx, hb, hml, hown, hts⟩ (kX1_addPlain l dC dI rd xf xp xt xa xo xv xj tp tb ts cB fb sc sn sb si sw ss en ki on ot cK fk cO fo cT ft 2 0 0 (H.size) (rg_w b_xf (by decide) (by decide)) b_xp b_xt b_xa b_xo b_ts b_sn b_sb b_si b_sw b_ss (by omega)) (cwV 3 hts gX1_readKind6__X1_addPlain_V136 rfl rfl rfl hd_yX1_addPlain ⟨lel 2 7 rfl, lel 50 150 rfl⟩) ⟨hw_fb, rcv_X1 hK hP (q0 := 0) rfl, (hw_use hP hD hK hN [0, 1, 2, 3, 4, 5, 6] rfl (by decide) rfl [0, 1, 2, 3] rfl)⟩ rfl rfl hl.1 rfl (lv_room (Nat.le_of_ble_eq_true rfl)) dX1_readKind_205 ⟨lel 0 0 rfl, lel 0 0 rfl⟩) hS (fun q _ h => hFc q h) hFc (fun u_412 t H1 locs ht hvm hw_r_411 hB hz1 hk1 hS => ?_)
                    obtain ⟨o0_413, o1_414, o2_415, o3_416, o4_417, o5_418, o6_419, o7_420, b_o0_413, b_o1_414, b_o2_415, b_o4_417, hf_421, hP1, hK1, hD1⟩ := hB
                    rw [ht] at hP1
                    have hK1 := va_K.moved hvm.symm hK1
                    obtain ⟨hP, hD⟩ := va_join (wr := []) (w1 := [(rd, .inr (0, [.ref tp, .ref sc, .int xf, .int xp, .int o0_413, .int o1_414, .int o2_415, .int o3_416, .int xj])), (tp, .inr (6, [.ref tb, .int ts])), (tb, .inl (cB, 1200, .inl fb)), (sc, .inr (3, [.int sn, .int sb, .int si, .int sw, .int o4_417, .ref en, .ref ki, .ref on, .ref ot])), (ki, .inl (cK, 600, .inl o5_418)), (on, .inl (cO, 600, .inr (.inl o6_419))), (ot, .inl (cT, 600, .inr (.inl o7_420)))]) hP hD [0, 1, 2, 3, 4, 5, 6] [] rfl rfl (by decide) (by decide) hk1 hFc hP1 hD1
                    have hK := (hK.sub (tys' := []) [] rfl).app hK1
                    generalize H1 = H at hP hS ⊢
                    have hP : va_P (dC, dI) vwCl [(rd, .inr (0, [.ref tp, .ref sc, .int xf, .int xp, .int o0_413, .int o1_414, .int o2_415, .int o3_416, .int xj])), (tp, .inr (6, [.ref tb, .int ts])), (tb, .inl (cB, 1200, .inl fb)), (sc, .inr (3, [.int sn, .int sb, .int si, .int sw, .int o4_417, .ref en, .ref ki, .ref on, .ref ot])), (ki, .inl (cK, 600, .inl o5_418)), (on, .inl (cO, 600, .inr (.inl o6_419))), (ot, .inl (cT, 600, .inr (.inl o7_420)))] H := hP
                    have hD : va_D A [(rd, .inr (0, [.ref tp, .ref sc, .int xf, .int xp, .int o0_413, .int o1_414, .int o2_415, .int o3_416, .int xj])), (tp, .inr (6, [.ref tb, .int ts])), (tb, .inl (cB, 1200, .inl fb)), (sc, .inr (3, [.int sn, .int sb, .int si, .int sw, .int o4_417, .ref en, .ref ki, .ref on, .ref ot])), (ki, .inl (cK, 600, .inl o5_418)), (on, .inl (cO, 600, .inr (.inl o6_419))), (ot, .inl (cT, 600, .inr (.inl o7_420)))] := hD
                    have hK : va_K (dC, dI) vwCl [(cB, .byte), (cK, .int), (cO, .long), (cT, .long)] s := hK
                    refine lv_goto (tgt := 368) hx hb dX1_readKind_208 (by decide) ?_
                    have hP9 := hP.sub (ws' := [(rd, .inr (0, [.ref tp, .ref sc, .int xf, .int xp, .int o0_413, .int o1_414, .int o2_415, .int o3_416, .int xj])), (tp, .inr (6, [.ref tb, .int ts])), (tb, .inl (cB, 1200, .inl fb)), (sc, .inr (3, [.int sn, .int sb, .int si, .int sw, .int o4_417, .ref en, .ref ki, .ref on, .ref ot])), (ki, .inl (cK, 600, .inl o5_418)), (on, .inl (cO, 600, .inr (.inl o6_419))), (ot, .inl (cT, 600, .inr (.inl o7_420)))]) [0, 1, 2, 3, 4, 5, 6] rfl
                    have hD9 := hD.sub (ws' := [(rd, .inr (0, [.ref tp, .ref sc, .int xf, .int xp, .int o0_413, .int o1_414, .int o2_415, .int o3_416, .int xj])), (tp, .inr (6, [.ref tb, .int ts])), (tb, .inl (cB, 1200, .inl fb)), (sc, .inr (3, [.int sn, .int sb, .int si, .int sw, .int o4_417, .ref en, .ref ki, .ref on, .ref ot])), (ki, .inl (cK, 600, .inl o5_418)), (on, .inl (cO, 600, .inr (.inl o6_419))), (ot, .inl (cT, 600, .inr (.inl o7_420)))]) [0, 1, 2, 3, 4, 5, 6] (by decide) rfl
                    have hK9 := hK.sub (tys' := [(cB, .byte), (cK, .int), (cO, .long), (cT, .long)]) [0, 1, 2, 3] rfl
                    exact W.vret hx hb hr (fun t ht hW => ⟨⟨(), rfl, trivial, xf, xp, o0_413, o1_414, o2_415, o3_416, o4_417, o5_418, o6_419, o7_420, (rg_w b_xf (by decide) (by decide)), b_xp, b_o0_413, b_o1_414, b_o2_415, (rg_w b_o4_417 (by decide) (by decide)), (by omega), by rw [ht]; exact hP9, va_K.moved hW.alike hK9, hD9⟩, hS.F ht⟩) hS.2.2 dX1_readKind_368
                ·
                  have n_c_263 : (r_262.toInt : Int) ≠ 0 := c_ne rfl (by decide) c_263
                  have b_r_262 : (1 : Int) ≤ r_262.toInt ∧ r_262.toInt ≤ 1 := r_ne1 b_r_262 (by decide : (0 : Int) ≤ (0 : Int32).toInt ∧ (0 : Int32).toInt ≤ 0) n_c_263 (by decide)
                  have g_422 := nz_r_262 c_263
                  refine lv_aload_n hx hb dX1_readKind_182 rfl (lv_at hl 2 rfl) ?_
                  refine lv_iconst (v := 1) hx hb dX1_readKind_183 (by decide) ?_
                  refine lv_lconst (v := 0) hx hb dX1_readKind_184 (by decide) ?_
                  refine lv_lconst (v := 0) hx hb dX1_readKind_185 (by decide) ?_
                  have hFc := va_free (wc := [(rd, .inr (0, [.ref tp, .ref sc, .int xf, .int xp, .int xt, .int xa, .int xo, .int xv, .int xj])), (tp, .inr (6, [.ref tb, .int ts])), (tb, .inl (cB, 1200, .inl fb)), (sc, .inr (3, [.int sn, .int sb, .int si, .int sw, .int ss, .ref en, .ref ki, .ref on, .ref ot])), (ki, .inl (cK, 600, .inl fk)), (on, .inl (cO, 600, .inr (.inl fo))), (ot, .inl (cT, 600, .inr (.inl ft)))]) hD hS hA [0, 1, 2, 3, 4, 5, 6] rfl
                  refine va_callv (va_runV (As := [.int 1, .long 0, .long 0]) (rest := []) ⟨hx, hb, hml, hown, hts⟩ (kX1_addPlain l dC dI rd xf xp xt xa xo xv xj tp tb ts cB fb sc sn sb si sw ss en ki on ot cK fk cO fo cT ft 1 0 0 (H.size) (rg_w b_xf (by decide) (by decide)) b_xp b_xt b_xa b_xo b_ts b_sn b_sb b_si b_sw b_ss (by omega)) (cwV 3 hts gX1_readKind6__X1_addPlain_V136 rfl rfl rfl hd_yX1_addPlain ⟨lel 2 7 rfl, lel 50 150 rfl⟩) ⟨hw_fb, rcv_X1 hK hP (q0 := 0) rfl, (hw_use hP hD hK hN [0, 1, 2, 3, 4, 5, 6] rfl (by decide) rfl [0, 1, 2, 3] rfl)⟩ rfl rfl hl.1 rfl (lv_room (Nat.le_of_ble_eq_true rfl)) dX1_readKind_186 ⟨lel 0 0 rfl, lel 0 0 rfl⟩) hS (fun q _ h => hFc q h) hFc (fun u_424 t H1 locs ht hvm hw_r_423 hB hz1 hk1 hS => ?_)
                  obtain ⟨o0_425, o1_426, o2_427, o3_428, o4_429, o5_430, o6_431, o7_432, b_o0_425, b_o1_426, b_o2_427, b_o4_429, hf_433, hP1, hK1, hD1⟩ := hB
                  rw [ht] at hP1
                  have hK1 := va_K.moved hvm.symm hK1
                  obtain ⟨hP, hD⟩ := va_join (wr := []) (w1 := [(rd, .inr (0, [.ref tp, .ref sc, .int xf, .int xp, .int o0_425, .int o1_426, .int o2_427, .int o3_428, .int xj])), (tp, .inr (6, [.ref tb, .int ts])), (tb, .inl (cB, 1200, .inl fb)), (sc, .inr (3, [.int sn, .int sb, .int si, .int sw, .int o4_429, .ref en, .ref ki, .ref on, .ref ot])), (ki, .inl (cK, 600, .inl o5_430)), (on, .inl (cO, 600, .inr (.inl o6_431))), (ot, .inl (cT, 600, .inr (.inl o7_432)))]) hP hD [0, 1, 2, 3, 4, 5, 6] [] rfl rfl (by decide) (by decide) hk1 hFc hP1 hD1
                  have hK := (hK.sub (tys' := []) [] rfl).app hK1
                  generalize H1 = H at hP hS ⊢
                  have hP : va_P (dC, dI) vwCl [(rd, .inr (0, [.ref tp, .ref sc, .int xf, .int xp, .int o0_425, .int o1_426, .int o2_427, .int o3_428, .int xj])), (tp, .inr (6, [.ref tb, .int ts])), (tb, .inl (cB, 1200, .inl fb)), (sc, .inr (3, [.int sn, .int sb, .int si, .int sw, .int o4_429, .ref en, .ref ki, .ref on, .ref ot])), (ki, .inl (cK, 600, .inl o5_430)), (on, .inl (cO, 600, .inr (.inl o6_431))), (ot, .inl (cT, 600, .inr (.inl o7_432)))] H := hP
                  have hD : va_D A [(rd, .inr (0, [.ref tp, .ref sc, .int xf, .int xp, .int o0_425, .int o1_426, .int o2_427, .int o3_428, .int xj])), (tp, .inr (6, [.ref tb, .int ts])), (tb, .inl (cB, 1200, .inl fb)), (sc, .inr (3, [.int sn, .int sb, .int si, .int sw, .int o4_429, .ref en, .ref ki, .ref on, .ref ot])), (ki, .inl (cK, 600, .inl o5_430)), (on, .inl (cO, 600, .inr (.inl o6_431))), (ot, .inl (cT, 600, .inr (.inl o7_432)))] := hD
                  have hK : va_K (dC, dI) vwCl [(cB, .byte), (cK, .int), (cO, .long), (cT, .long)] s := hK
                  refine lv_goto (tgt := 368) hx hb dX1_readKind_189 (by decide) ?_
                  have hP9 := hP.sub (ws' := [(rd, .inr (0, [.ref tp, .ref sc, .int xf, .int xp, .int o0_425, .int o1_426, .int o2_427, .int o3_428, .int xj])), (tp, .inr (6, [.ref tb, .int ts])), (tb, .inl (cB, 1200, .inl fb)), (sc, .inr (3, [.int sn, .int sb, .int si, .int sw, .int o4_429, .ref en, .ref ki, .ref on, .ref ot])), (ki, .inl (cK, 600, .inl o5_430)), (on, .inl (cO, 600, .inr (.inl o6_431))), (ot, .inl (cT, 600, .inr (.inl o7_432)))]) [0, 1, 2, 3, 4, 5, 6] rfl
                  have hD9 := hD.sub (ws' := [(rd, .inr (0, [.ref tp, .ref sc, .int xf, .int xp, .int o0_425, .int o1_426, .int o2_427, .int o3_428, .int xj])), (tp, .inr (6, [.ref tb, .int ts])), (tb, .inl (cB, 1200, .inl fb)), (sc, .inr (3, [.int sn, .int sb, .int si, .int sw, .int o4_429, .ref en, .ref ki, .ref on, .ref ot])), (ki, .inl (cK, 600, .inl o5_430)), (on, .inl (cO, 600, .inr (.inl o6_431))), (ot, .inl (cT, 600, .inr (.inl o7_432)))]) [0, 1, 2, 3, 4, 5, 6] (by decide) rfl
                  have hK9 := hK.sub (tys' := [(cB, .byte), (cK, .int), (cO, .long), (cT, .long)]) [0, 1, 2, 3] rfl
                  exact W.vret hx hb hr (fun t ht hW => ⟨⟨(), rfl, trivial, xf, xp, o0_425, o1_426, o2_427, o3_428, o4_429, o5_430, o6_431, o7_432, (rg_w b_xf (by decide) (by decide)), b_xp, b_o0_425, b_o1_426, b_o2_427, (rg_w b_o4_429 (by decide) (by decide)), (by omega), by rw [ht]; exact hP9, va_K.moved hW.alike hK9, hD9⟩, hS.F ht⟩) hS.2.2 dX1_readKind_368
              ·
                have n_c_260 : (r_259.toInt : Int) ≠ 0 := c_ne rfl (by decide) c_260
                have b_r_259 : (1 : Int) ≤ r_259.toInt ∧ r_259.toInt ≤ 1 := r_ne1 b_r_259 (by decide : (0 : Int) ≤ (0 : Int32).toInt ∧ (0 : Int32).toInt ≤ 0) n_c_260 (by decide)
                have g_434 := nz_r_259 c_260
                refine lv_aload_n hx hb dX1_readKind_155 rfl (lv_at hl 2 rfl) ?_
                refine lv_iconst (v := 0) hx hb dX1_readKind_156 (by decide) ?_
                refine lv_iload_n hx hb dX1_readKind_157 rfl (lv_at hl 1 rfl) ?_
                refine lv_iconst (v := 0) hx hb dX1_readKind_158 (by decide) ?_
                refine vp_callSl (W.runS (As := [.int sn, .int 0]) (rest := [.int 0, .ref rd]) ⟨hx, hb, hml, hown, hts⟩ (kX0_everySecond l dC dI sn 0 b_sn (rg_w (by decide : (0 : Int) ≤ (0 : Int32).toInt ∧ (0 : Int32).toInt ≤ 0) (by decide) (by decide))) (va_cwS 2 hts gX1_readKind6__X0_everySecond_S141 rfl rfl rfl hd_yX0_everySecond.2 ⟨lel 2 7 rfl, lel 45 150 rfl⟩) ⟨pn_fb, pn_use⟩ rfl rfl hl.1 rfl (lv_room (Nat.le_of_ble_eq_true rfl)) dX1_readKind_159 ⟨lel 0 0 rfl, lel 0 0 rfl⟩) (fun r_435 h_r_435 => ?_)
                refine lv_iload_n hx hb dX1_readKind_162 rfl (lv_at hl 1 rfl) ?_
                refine lv_iconst (v := 1) hx hb dX1_readKind_163 (by decide) ?_
                refine vp_callSl (W.runS (As := [.int sn, .int 1]) (rest := [.long r_435, .int 0, .ref rd]) ⟨hx, hb, hml, hown, hts⟩ (kX0_everySecond l dC dI sn 1 b_sn (rg_w (by decide : (1 : Int) ≤ (1 : Int32).toInt ∧ (1 : Int32).toInt ≤ 1) (by decide) (by decide))) (va_cwS 2 hts gX1_readKind6__X0_everySecond_S141 rfl rfl rfl hd_yX0_everySecond.2 ⟨lel 2 7 rfl, lel 45 150 rfl⟩) ⟨pn_fb, pn_use⟩ rfl rfl hl.1 rfl (lv_room (Nat.le_of_ble_eq_true rfl)) dX1_readKind_164 ⟨lel 0 0 rfl, lel 0 0 rfl⟩) (fun r_436 h_r_436 => ?_)
                have hFc := va_free (wc := [(rd, .inr (0, [.ref tp, .ref sc, .int xf, .int xp, .int xt, .int xa, .int xo, .int xv, .int xj])), (tp, .inr (6, [.ref tb, .int ts])), (tb, .inl (cB, 1200, .inl fb)), (sc, .inr (3, [.int sn, .int sb, .int si, .int sw, .int ss, .ref en, .ref ki, .ref on, .ref ot])), (ki, .inl (cK, 600, .inl fk)), (on, .inl (cO, 600, .inr (.inl fo))), (ot, .inl (cT, 600, .inr (.inl ft)))]) hD hS hA [0, 1, 2, 3, 4, 5, 6] rfl
                refine va_callv (va_runV (As := [.int 0, .long r_435, .long r_436]) (rest := []) ⟨hx, hb, hml, hown, hts⟩ (kX1_addPlain l dC dI rd xf xp xt xa xo xv xj tp tb ts cB fb sc sn sb si sw ss en ki on ot cK fk cO fo cT ft 0 r_435 r_436 (H.size) (rg_w b_xf (by decide) (by decide)) b_xp b_xt b_xa b_xo b_ts b_sn b_sb b_si b_sw b_ss (by omega)) (cwV 3 hts gX1_readKind6__X1_addPlain_V136 rfl rfl rfl hd_yX1_addPlain ⟨lel 2 7 rfl, lel 50 150 rfl⟩) ⟨hw_fb, rcv_X1 hK hP (q0 := 0) rfl, (hw_use hP hD hK hN [0, 1, 2, 3, 4, 5, 6] rfl (by decide) rfl [0, 1, 2, 3] rfl)⟩ rfl rfl hl.1 rfl (lv_room (Nat.le_of_ble_eq_true rfl)) dX1_readKind_167 ⟨lel 0 0 rfl, lel 0 0 rfl⟩) hS (fun q _ h => hFc q h) hFc (fun u_438 t H1 locs ht hvm hw_r_437 hB hz1 hk1 hS => ?_)
                obtain ⟨o0_439, o1_440, o2_441, o3_442, o4_443, o5_444, o6_445, o7_446, b_o0_439, b_o1_440, b_o2_441, b_o4_443, hf_447, hP1, hK1, hD1⟩ := hB
                rw [ht] at hP1
                have hK1 := va_K.moved hvm.symm hK1
                obtain ⟨hP, hD⟩ := va_join (wr := []) (w1 := [(rd, .inr (0, [.ref tp, .ref sc, .int xf, .int xp, .int o0_439, .int o1_440, .int o2_441, .int o3_442, .int xj])), (tp, .inr (6, [.ref tb, .int ts])), (tb, .inl (cB, 1200, .inl fb)), (sc, .inr (3, [.int sn, .int sb, .int si, .int sw, .int o4_443, .ref en, .ref ki, .ref on, .ref ot])), (ki, .inl (cK, 600, .inl o5_444)), (on, .inl (cO, 600, .inr (.inl o6_445))), (ot, .inl (cT, 600, .inr (.inl o7_446)))]) hP hD [0, 1, 2, 3, 4, 5, 6] [] rfl rfl (by decide) (by decide) hk1 hFc hP1 hD1
                have hK := (hK.sub (tys' := []) [] rfl).app hK1
                generalize H1 = H at hP hS ⊢
                have hP : va_P (dC, dI) vwCl [(rd, .inr (0, [.ref tp, .ref sc, .int xf, .int xp, .int o0_439, .int o1_440, .int o2_441, .int o3_442, .int xj])), (tp, .inr (6, [.ref tb, .int ts])), (tb, .inl (cB, 1200, .inl fb)), (sc, .inr (3, [.int sn, .int sb, .int si, .int sw, .int o4_443, .ref en, .ref ki, .ref on, .ref ot])), (ki, .inl (cK, 600, .inl o5_444)), (on, .inl (cO, 600, .inr (.inl o6_445))), (ot, .inl (cT, 600, .inr (.inl o7_446)))] H := hP
                have hD : va_D A [(rd, .inr (0, [.ref tp, .ref sc, .int xf, .int xp, .int o0_439, .int o1_440, .int o2_441, .int o3_442, .int xj])), (tp, .inr (6, [.ref tb, .int ts])), (tb, .inl (cB, 1200, .inl fb)), (sc, .inr (3, [.int sn, .int sb, .int si, .int sw, .int o4_443, .ref en, .ref ki, .ref on, .ref ot])), (ki, .inl (cK, 600, .inl o5_444)), (on, .inl (cO, 600, .inr (.inl o6_445))), (ot, .inl (cT, 600, .inr (.inl o7_446)))] := hD
                have hK : va_K (dC, dI) vwCl [(cB, .byte), (cK, .int), (cO, .long), (cT, .long)] s := hK
                refine lv_goto (tgt := 368) hx hb dX1_readKind_170 (by decide) ?_
                have hP9 := hP.sub (ws' := [(rd, .inr (0, [.ref tp, .ref sc, .int xf, .int xp, .int o0_439, .int o1_440, .int o2_441, .int o3_442, .int xj])), (tp, .inr (6, [.ref tb, .int ts])), (tb, .inl (cB, 1200, .inl fb)), (sc, .inr (3, [.int sn, .int sb, .int si, .int sw, .int o4_443, .ref en, .ref ki, .ref on, .ref ot])), (ki, .inl (cK, 600, .inl o5_444)), (on, .inl (cO, 600, .inr (.inl o6_445))), (ot, .inl (cT, 600, .inr (.inl o7_446)))]) [0, 1, 2, 3, 4, 5, 6] rfl
                have hD9 := hD.sub (ws' := [(rd, .inr (0, [.ref tp, .ref sc, .int xf, .int xp, .int o0_439, .int o1_440, .int o2_441, .int o3_442, .int xj])), (tp, .inr (6, [.ref tb, .int ts])), (tb, .inl (cB, 1200, .inl fb)), (sc, .inr (3, [.int sn, .int sb, .int si, .int sw, .int o4_443, .ref en, .ref ki, .ref on, .ref ot])), (ki, .inl (cK, 600, .inl o5_444)), (on, .inl (cO, 600, .inr (.inl o6_445))), (ot, .inl (cT, 600, .inr (.inl o7_446)))]) [0, 1, 2, 3, 4, 5, 6] (by decide) rfl
                have hK9 := hK.sub (tys' := [(cB, .byte), (cK, .int), (cO, .long), (cT, .long)]) [0, 1, 2, 3] rfl
                exact W.vret hx hb hr (fun t ht hW => ⟨⟨(), rfl, trivial, xf, xp, o0_439, o1_440, o2_441, o3_442, o4_443, o5_444, o6_445, o7_446, (rg_w b_xf (by decide) (by decide)), b_xp, b_o0_439, b_o1_440, b_o2_441, (rg_w b_o4_443 (by decide) (by decide)), (by omega), by rw [ht]; exact hP9, va_K.moved hW.alike hK9, hD9⟩, hS.F ht⟩) hS.2.2 dX1_readKind_368
            ·
              have n_c_257 : (r_256.toInt : Int) ≠ 0 := c_ne rfl (by decide) c_257
              have b_r_256 : (1 : Int) ≤ r_256.toInt ∧ r_256.toInt ≤ 1 := r_ne1 b_r_256 (by decide : (0 : Int) ≤ (0 : Int32).toInt ∧ (0 : Int32).toInt ≤ 0) n_c_257 (by decide)
              have g_448 := nz_r_256 c_257
              refine lv_aload_n hx hb dX1_readKind_130 rfl (lv_at hl 2 rfl) ?_
              refine lv_iconst (v := 0) hx hb dX1_readKind_131 (by decide) ?_
              refine lv_iload_n hx hb dX1_readKind_132 rfl (lv_at hl 1 rfl) ?_
              refine vp_callSl (W.runS (As := [.int sn]) (rest := [.int 0, .ref rd]) ⟨hx, hb, hml, hown, hts⟩ (kX0_firstHalf l dC dI sn b_sn) (va_cwS 1 hts gX1_readKind6__X0_firstHalf_S127 rfl rfl rfl hd_yX0_firstHalf.2 ⟨lel 3 7 rfl, lel 66 150 rfl⟩) ⟨pn_fb, pn_use⟩ rfl rfl hl.1 rfl (lv_room (Nat.le_of_ble_eq_true rfl)) dX1_readKind_133 ⟨lel 0 0 rfl, lel 0 0 rfl⟩) (fun r_449 h_r_449 => ?_)
              refine lv_iload_n hx hb dX1_readKind_136 rfl (lv_at hl 1 rfl) ?_
              refine vp_callSl (W.runS (As := [.int sn]) (rest := [.long r_449, .int 0, .ref rd]) ⟨hx, hb, hml, hown, hts⟩ (kX0_lastHalf l dC dI sn b_sn) (va_cwS 1 hts gX1_readKind6__X0_lastHalf_S133 rfl rfl rfl hd_yX0_lastHalf.2 ⟨lel 3 7 rfl, lel 66 150 rfl⟩) ⟨pn_fb, pn_use⟩ rfl rfl hl.1 rfl (lv_room (Nat.le_of_ble_eq_true rfl)) dX1_readKind_137 ⟨lel 0 0 rfl, lel 0 0 rfl⟩) (fun r_450 h_r_450 => ?_)
              have hFc := va_free (wc := [(rd, .inr (0, [.ref tp, .ref sc, .int xf, .int xp, .int xt, .int xa, .int xo, .int xv, .int xj])), (tp, .inr (6, [.ref tb, .int ts])), (tb, .inl (cB, 1200, .inl fb)), (sc, .inr (3, [.int sn, .int sb, .int si, .int sw, .int ss, .ref en, .ref ki, .ref on, .ref ot])), (ki, .inl (cK, 600, .inl fk)), (on, .inl (cO, 600, .inr (.inl fo))), (ot, .inl (cT, 600, .inr (.inl ft)))]) hD hS hA [0, 1, 2, 3, 4, 5, 6] rfl
              refine va_callv (va_runV (As := [.int 0, .long r_449, .long r_450]) (rest := []) ⟨hx, hb, hml, hown, hts⟩ (kX1_addPlain l dC dI rd xf xp xt xa xo xv xj tp tb ts cB fb sc sn sb si sw ss en ki on ot cK fk cO fo cT ft 0 r_449 r_450 (H.size) (rg_w b_xf (by decide) (by decide)) b_xp b_xt b_xa b_xo b_ts b_sn b_sb b_si b_sw b_ss (by omega)) (cwV 3 hts gX1_readKind6__X1_addPlain_V136 rfl rfl rfl hd_yX1_addPlain ⟨lel 2 7 rfl, lel 50 150 rfl⟩) ⟨hw_fb, rcv_X1 hK hP (q0 := 0) rfl, (hw_use hP hD hK hN [0, 1, 2, 3, 4, 5, 6] rfl (by decide) rfl [0, 1, 2, 3] rfl)⟩ rfl rfl hl.1 rfl (lv_room (Nat.le_of_ble_eq_true rfl)) dX1_readKind_140 ⟨lel 0 0 rfl, lel 0 0 rfl⟩) hS (fun q _ h => hFc q h) hFc (fun u_452 t H1 locs ht hvm hw_r_451 hB hz1 hk1 hS => ?_)
              obtain ⟨o0_453, o1_454, o2_455, o3_456, o4_457, o5_458, o6_459, o7_460, b_o0_453, b_o1_454, b_o2_455, b_o4_457, hf_461, hP1, hK1, hD1⟩ := hB
              rw [ht] at hP1
              have hK1 := va_K.moved hvm.symm hK1
              obtain ⟨hP, hD⟩ := va_join (wr := []) (w1 := [(rd, .inr (0, [.ref tp, .ref sc, .int xf, .int xp, .int o0_453, .int o1_454, .int o2_455, .int o3_456, .int xj])), (tp, .inr (6, [.ref tb, .int ts])), (tb, .inl (cB, 1200, .inl fb)), (sc, .inr (3, [.int sn, .int sb, .int si, .int sw, .int o4_457, .ref en, .ref ki, .ref on, .ref ot])), (ki, .inl (cK, 600, .inl o5_458)), (on, .inl (cO, 600, .inr (.inl o6_459))), (ot, .inl (cT, 600, .inr (.inl o7_460)))]) hP hD [0, 1, 2, 3, 4, 5, 6] [] rfl rfl (by decide) (by decide) hk1 hFc hP1 hD1
              have hK := (hK.sub (tys' := []) [] rfl).app hK1
              generalize H1 = H at hP hS ⊢
              have hP : va_P (dC, dI) vwCl [(rd, .inr (0, [.ref tp, .ref sc, .int xf, .int xp, .int o0_453, .int o1_454, .int o2_455, .int o3_456, .int xj])), (tp, .inr (6, [.ref tb, .int ts])), (tb, .inl (cB, 1200, .inl fb)), (sc, .inr (3, [.int sn, .int sb, .int si, .int sw, .int o4_457, .ref en, .ref ki, .ref on, .ref ot])), (ki, .inl (cK, 600, .inl o5_458)), (on, .inl (cO, 600, .inr (.inl o6_459))), (ot, .inl (cT, 600, .inr (.inl o7_460)))] H := hP
              have hD : va_D A [(rd, .inr (0, [.ref tp, .ref sc, .int xf, .int xp, .int o0_453, .int o1_454, .int o2_455, .int o3_456, .int xj])), (tp, .inr (6, [.ref tb, .int ts])), (tb, .inl (cB, 1200, .inl fb)), (sc, .inr (3, [.int sn, .int sb, .int si, .int sw, .int o4_457, .ref en, .ref ki, .ref on, .ref ot])), (ki, .inl (cK, 600, .inl o5_458)), (on, .inl (cO, 600, .inr (.inl o6_459))), (ot, .inl (cT, 600, .inr (.inl o7_460)))] := hD
              have hK : va_K (dC, dI) vwCl [(cB, .byte), (cK, .int), (cO, .long), (cT, .long)] s := hK
              refine lv_goto (tgt := 368) hx hb dX1_readKind_143 (by decide) ?_
              have hP9 := hP.sub (ws' := [(rd, .inr (0, [.ref tp, .ref sc, .int xf, .int xp, .int o0_453, .int o1_454, .int o2_455, .int o3_456, .int xj])), (tp, .inr (6, [.ref tb, .int ts])), (tb, .inl (cB, 1200, .inl fb)), (sc, .inr (3, [.int sn, .int sb, .int si, .int sw, .int o4_457, .ref en, .ref ki, .ref on, .ref ot])), (ki, .inl (cK, 600, .inl o5_458)), (on, .inl (cO, 600, .inr (.inl o6_459))), (ot, .inl (cT, 600, .inr (.inl o7_460)))]) [0, 1, 2, 3, 4, 5, 6] rfl
              have hD9 := hD.sub (ws' := [(rd, .inr (0, [.ref tp, .ref sc, .int xf, .int xp, .int o0_453, .int o1_454, .int o2_455, .int o3_456, .int xj])), (tp, .inr (6, [.ref tb, .int ts])), (tb, .inl (cB, 1200, .inl fb)), (sc, .inr (3, [.int sn, .int sb, .int si, .int sw, .int o4_457, .ref en, .ref ki, .ref on, .ref ot])), (ki, .inl (cK, 600, .inl o5_458)), (on, .inl (cO, 600, .inr (.inl o6_459))), (ot, .inl (cT, 600, .inr (.inl o7_460)))]) [0, 1, 2, 3, 4, 5, 6] (by decide) rfl
              have hK9 := hK.sub (tys' := [(cB, .byte), (cK, .int), (cO, .long), (cT, .long)]) [0, 1, 2, 3] rfl
              exact W.vret hx hb hr (fun t ht hW => ⟨⟨(), rfl, trivial, xf, xp, o0_453, o1_454, o2_455, o3_456, o4_457, o5_458, o6_459, o7_460, (rg_w b_xf (by decide) (by decide)), b_xp, b_o0_453, b_o1_454, b_o2_455, (rg_w b_o4_457 (by decide) (by decide)), (by omega), by rw [ht]; exact hP9, va_K.moved hW.alike hK9, hD9⟩, hS.F ht⟩) hS.2.2 dX1_readKind_368
          ·
            have n_c_254 : (r_253.toInt : Int) ≠ 0 := c_ne rfl (by decide) c_254
            have b_r_253 : (1 : Int) ≤ r_253.toInt ∧ r_253.toInt ≤ 1 := r_ne1 b_r_253 (by decide : (0 : Int) ≤ (0 : Int32).toInt ∧ (0 : Int32).toInt ≤ 0) n_c_254 (by decide)
            have g_462 := nz_r_253 c_254
            exact absurd (by assumption) (hns (by omega)).2
        ·
          have n_c_251 : (r_250.toInt : Int) ≠ 0 := c_ne rfl (by decide) c_251
          have b_r_250 : (1 : Int) ≤ r_250.toInt ∧ r_250.toInt ≤ 1 := r_ne1 b_r_250 (by decide : (0 : Int) ≤ (0 : Int32).toInt ∧ (0 : Int32).toInt ≤ 0) n_c_251 (by decide)
          have g_463 := nz_r_250 c_251
          have lt0_g_463 := (by decide : (40 : Int32).toInt = 40)
          exact False.elim (by have h9 := hns (by omega); omega)
      ·
        have n_c_249 : (y_247.toInt : Int) ≠ 0 := c_ne rfl (by decide) c_249
        have b_y_247 : (1 : Int) ≤ y_247.toInt ∧ y_247.toInt ≤ 1 := r_ne1 b_y_247 (by decide : (0 : Int) ≤ (0 : Int32).toInt ∧ (0 : Int32).toInt ≤ 0) n_c_249 (by decide)
        refine lv_iload_n hx hb dX1_readKind_44 rfl (lv_at hl 3 rfl) ?_
        refine lv_bipush (v := 6) hx hb dX1_readKind_45 (by decide) ?_
        refine lv_icmp_lt (tgt := 58) hx hb dX1_readKind_47 (by decide) (fun c_464 => absurd c_464 (by decide)) (fun c_464 => ?_)
        refine lv_aload_n hx hb dX1_readKind_50 rfl (lv_at hl 2 rfl) ?_
        refine lv_iconst (v := 3) hx hb dX1_readKind_51 (by decide) ?_
        have hFc := va_free (wc := [(rd, .inr (0, [.ref tp, .ref sc, .int xf, .int xp, .int xt, .int xa, .int xo, .int xv, .int xj]))]) hD hS hA [0] rfl
        refine va_callv (va_runV (As := [.int 3]) (rest := []) ⟨hx, hb, hml, hown, hts⟩ (kX1_refuse l dC dI rd xf xp xt xa xo xv xj tp sc 3 (H.size) (rg_w b_xf (by decide) (by decide)) b_xp b_xt b_xa b_xo (rg_w (by decide : (3 : Int) ≤ (3 : Int32).toInt ∧ (3 : Int32).toInt ≤ 3) (by decide) (by decide))) (cwV 1 hts gX1_readKind6__X1_refuse_V96 rfl rfl rfl hd_yX1_refuse ⟨lel 1 7 rfl, lel 21 150 rfl⟩) ⟨hw_fb, rcv_X1 hK hP (q0 := 0) rfl, (hw_use hP hD hK hN [0] rfl (by decide) rfl [] rfl)⟩ rfl rfl hl.1 rfl (lv_room (Nat.le_of_ble_eq_true rfl)) dX1_readKind_52 ⟨lel 0 0 rfl, lel 0 0 rfl⟩) hS (fun q _ h => hFc q h) hFc (fun u_466 t H1 locs ht hvm hw_r_465 hB hz1 hk1 hS => ?_)
        obtain ⟨o0_467, o1_468, b_o0_467, b_o1_468, hf_469, hf_470, hP1, hK1, hD1⟩ := hB
        rw [ht] at hP1
        have hK1 := va_K.moved hvm.symm hK1
        obtain ⟨hP, hD⟩ := va_join (wr := [(tp, .inr (6, [.ref tb, .int ts])), (tb, .inl (cB, 1200, .inl fb)), (sc, .inr (3, [.int sn, .int sb, .int si, .int sw, .int ss, .ref en, .ref ki, .ref on, .ref ot])), (ki, .inl (cK, 600, .inl fk)), (on, .inl (cO, 600, .inr (.inl fo))), (ot, .inl (cT, 600, .inr (.inl ft)))]) (w1 := [(rd, .inr (0, [.ref tp, .ref sc, .int o0_467, .int o1_468, .int xt, .int xa, .int xo, .int xv, .int xj]))]) hP hD [0] [1, 2, 3, 4, 5, 6] rfl rfl (by decide) (by decide) hk1 hFc hP1 hD1
        have hK := (hK.sub (tys' := [(cB, .byte), (cK, .int), (cO, .long), (cT, .long)]) [0, 1, 2, 3] rfl).app hK1
        generalize H1 = H at hP hS ⊢
        have hP := hP.sub (ws' := [(rd, .inr (0, [.ref tp, .ref sc, .int o0_467, .int o1_468, .int xt, .int xa, .int xo, .int xv, .int xj])), (tp, .inr (6, [.ref tb, .int ts])), (tb, .inl (cB, 1200, .inl fb)), (sc, .inr (3, [.int sn, .int sb, .int si, .int sw, .int ss, .ref en, .ref ki, .ref on, .ref ot])), (ki, .inl (cK, 600, .inl fk)), (on, .inl (cO, 600, .inr (.inl fo))), (ot, .inl (cT, 600, .inr (.inl ft)))]) [6, 0, 1, 2, 3, 4, 5] rfl
        have hD := hD.sub (ws' := [(rd, .inr (0, [.ref tp, .ref sc, .int o0_467, .int o1_468, .int xt, .int xa, .int xo, .int xv, .int xj])), (tp, .inr (6, [.ref tb, .int ts])), (tb, .inl (cB, 1200, .inl fb)), (sc, .inr (3, [.int sn, .int sb, .int si, .int sw, .int ss, .ref en, .ref ki, .ref on, .ref ot])), (ki, .inl (cK, 600, .inl fk)), (on, .inl (cO, 600, .inr (.inl fo))), (ot, .inl (cT, 600, .inr (.inl ft)))]) [6, 0, 1, 2, 3, 4, 5] (by decide) rfl
        have hP : va_P (dC, dI) vwCl [(rd, .inr (0, [.ref tp, .ref sc, .int o0_467, .int o1_468, .int xt, .int xa, .int xo, .int xv, .int xj])), (tp, .inr (6, [.ref tb, .int ts])), (tb, .inl (cB, 1200, .inl fb)), (sc, .inr (3, [.int sn, .int sb, .int si, .int sw, .int ss, .ref en, .ref ki, .ref on, .ref ot])), (ki, .inl (cK, 600, .inl fk)), (on, .inl (cO, 600, .inr (.inl fo))), (ot, .inl (cT, 600, .inr (.inl ft)))] H := hP
        have hD : va_D A [(rd, .inr (0, [.ref tp, .ref sc, .int o0_467, .int o1_468, .int xt, .int xa, .int xo, .int xv, .int xj])), (tp, .inr (6, [.ref tb, .int ts])), (tb, .inl (cB, 1200, .inl fb)), (sc, .inr (3, [.int sn, .int sb, .int si, .int sw, .int ss, .ref en, .ref ki, .ref on, .ref ot])), (ki, .inl (cK, 600, .inl fk)), (on, .inl (cO, 600, .inr (.inl fo))), (ot, .inl (cT, 600, .inr (.inl ft)))] := hD
        have hK : va_K (dC, dI) vwCl [(cB, .byte), (cK, .int), (cO, .long), (cT, .long)] s := hK
        refine lv_goto (tgt := 368) hx hb dX1_readKind_55 (by decide) ?_
        have hP9 := hP.sub (ws' := [(rd, .inr (0, [.ref tp, .ref sc, .int o0_467, .int o1_468, .int xt, .int xa, .int xo, .int xv, .int xj])), (tp, .inr (6, [.ref tb, .int ts])), (tb, .inl (cB, 1200, .inl fb)), (sc, .inr (3, [.int sn, .int sb, .int si, .int sw, .int ss, .ref en, .ref ki, .ref on, .ref ot])), (ki, .inl (cK, 600, .inl fk)), (on, .inl (cO, 600, .inr (.inl fo))), (ot, .inl (cT, 600, .inr (.inl ft)))]) [0, 1, 2, 3, 4, 5, 6] rfl
        have hD9 := hD.sub (ws' := [(rd, .inr (0, [.ref tp, .ref sc, .int o0_467, .int o1_468, .int xt, .int xa, .int xo, .int xv, .int xj])), (tp, .inr (6, [.ref tb, .int ts])), (tb, .inl (cB, 1200, .inl fb)), (sc, .inr (3, [.int sn, .int sb, .int si, .int sw, .int ss, .ref en, .ref ki, .ref on, .ref ot])), (ki, .inl (cK, 600, .inl fk)), (on, .inl (cO, 600, .inr (.inl fo))), (ot, .inl (cT, 600, .inr (.inl ft)))]) [0, 1, 2, 3, 4, 5, 6] (by decide) rfl
        have hK9 := hK.sub (tys' := [(cB, .byte), (cK, .int), (cO, .long), (cT, .long)]) [0, 1, 2, 3] rfl
        exact W.vret hx hb hr (fun t ht hW => ⟨⟨(), rfl, trivial, o0_467, o1_468, xt, xa, xo, xv, ss, fk, fo, ft, (rg_w b_o0_467 (by decide) (by decide)), b_o1_468, b_xt, b_xa, b_xo, b_ss, (by omega), by rw [ht]; exact hP9, va_K.moved hW.alike hK9, hD9⟩, hS.F ht⟩) hS.2.2 dX1_readKind_368
    ·
      have n_c_248 : (xf.toInt : Int) ≠ 0 := c_ne rfl (by decide) c_248
      have b_xf : (1 : Int) ≤ xf.toInt ∧ xf.toInt ≤ 3 := r_ne1 b_xf (by decide : (0 : Int) ≤ (0 : Int32).toInt ∧ (0 : Int32).toInt ≤ 0) n_c_248 (by decide)
      have hP9 := hP.sub (ws' := [(rd, .inr (0, [.ref tp, .ref sc, .int xf, .int xp, .int xt, .int xa, .int xo, .int xv, .int xj])), (tp, .inr (6, [.ref tb, .int ts])), (tb, .inl (cB, 1200, .inl fb)), (sc, .inr (3, [.int sn, .int sb, .int si, .int sw, .int ss, .ref en, .ref ki, .ref on, .ref ot])), (ki, .inl (cK, 600, .inl fk)), (on, .inl (cO, 600, .inr (.inl fo))), (ot, .inl (cT, 600, .inr (.inl ft)))]) [0, 1, 2, 3, 4, 5, 6] rfl
      have hD9 := hD.sub (ws' := [(rd, .inr (0, [.ref tp, .ref sc, .int xf, .int xp, .int xt, .int xa, .int xo, .int xv, .int xj])), (tp, .inr (6, [.ref tb, .int ts])), (tb, .inl (cB, 1200, .inl fb)), (sc, .inr (3, [.int sn, .int sb, .int si, .int sw, .int ss, .ref en, .ref ki, .ref on, .ref ot])), (ki, .inl (cK, 600, .inl fk)), (on, .inl (cO, 600, .inr (.inl fo))), (ot, .inl (cT, 600, .inr (.inl ft)))]) [0, 1, 2, 3, 4, 5, 6] (by decide) rfl
      have hK9 := hK.sub (tys' := [(cB, .byte), (cK, .int), (cO, .long), (cT, .long)]) [0, 1, 2, 3] rfl
      exact W.vret hx hb hr (fun t ht hW => ⟨⟨(), rfl, trivial, xf, xp, xt, xa, xo, xv, ss, fk, fo, ft, (rg_w b_xf (by decide) (by decide)), b_xp, b_xt, b_xa, b_xo, b_ss, (by omega), by rw [ht]; exact hP9, va_K.moved hW.alike hK9, hD9⟩, hS.F ht⟩) hS.2.2 dX1_readKind_39
  ·
    refine lv_if_ne (tgt := 26) hx hb dX1_readKind_14 (by decide) (fun c_240 => ?_) (fun c_240 => ?_)
    ·
      have n_c_240 : (r_239.toInt : Int) ≠ 0 := c_ne rfl (by decide) c_240
      have b_r_239 : (1 : Int) ≤ r_239.toInt ∧ r_239.toInt ≤ 1 := r_ne1 b_r_239 (by decide : (0 : Int) ≤ (0 : Int32).toInt ∧ (0 : Int32).toInt ≤ 0) n_c_240 (by decide)
      have g_471 := nz_r_239 c_240
      have lt0_g_471 := (by decide : (40 : Int32).toInt = 40)
      refine lv_iconst (v := 1) hx hb dX1_readKind_26 (by decide) ?_
      refine lv_goto (tgt := 31) hx hb dX1_readKind_27 (by decide) ?_
      exact hj_31_247 (1 : Int32) _ _ _ ⟨(show (0 : Int) ≤ (1 : Int32).toInt ∧ (1 : Int32).toInt ≤ 1 from (rg_w (by decide : (1 : Int) ≤ (1 : Int32).toInt ∧ (1 : Int32).toInt ≤ 1) (by decide) (by decide))), (show (1 : Int32).toInt = 0 → (xt.toInt ≠ 3 ∨ xv.toInt ≠ 40) ∧ ¬ WD fb xt xa xo 3 tf_123 from (fun h9 => absurd h9 (by decide))), hP, hD, hS, lv_sub hl [0, 1, 2] rfl⟩
    ·
      have n_c_240 : (r_239.toInt : Int) = 0 := c_eq rfl (by decide) c_240
      have b_r_239 : (0 : Int) ≤ r_239.toInt ∧ r_239.toInt ≤ 0 := r_eq1 b_r_239 (by decide : (0 : Int) ≤ (0 : Int32).toInt ∧ (0 : Int32).toInt ≤ 0) n_c_240 (by decide)
      have g_472 := zz_r_239 c_240
      have lt0_g_472 := (by decide : (40 : Int32).toInt = 40)
      refine lv_aload_n hx hb dX1_readKind_17 rfl (lv_at hl 1 rfl) ?_
      refine va_ldcS hx hb hown hR_123 dX1_readKind_18 ?_
      refine vp_callSi (W.runV (As := [.ref tq_123]) (rest := []) ⟨hx, hb, hml, hown, hts⟩ (kX1_isWord l dC dI rd xf xp xt xa xo xv xj tp tb ts cB fb sc tq_123 3 tf_123 n0 b_xf b_xp b_xt b_xa b_xo b_ts (by omega) (by omega)) (cwV 1 hts gX1_readKind6__X1_isWord_V89 rfl rfl rfl hd_yX1_isWord ⟨lel 5 7 rfl, lel 107 150 rfl⟩) ⟨px_fb, rcv_X1 hK hP (q0 := 0) rfl, (px_use hP hK hN hX (vs_up hS hAn) [0, 1, 2] rfl [0] rfl (tts_1 ht_123) tbs_0)⟩ rfl rfl hl.1 rfl (lv_room (Nat.le_of_ble_eq_true rfl)) dX1_readKind_20 ⟨lel 0 0 rfl, lel 0 0 rfl⟩) (fun r_473 h_r_473 => ?_)
      obtain ⟨b_r_473, nz_r_473, zz_r_473⟩ := h_r_473
      have b_r_473 : (0 : Int) ≤ r_473.toInt ∧ r_473.toInt ≤ 1 := b_r_473
      refine lv_if_eq (tgt := 30) hx hb dX1_readKind_23 (by decide) (fun c_474 => ?_) (fun c_474 => ?_)
      ·
        have n_c_474 : (r_473.toInt : Int) = 0 := c_eq rfl (by decide) c_474
        have b_r_473 : (0 : Int) ≤ r_473.toInt ∧ r_473.toInt ≤ 0 := r_eq1 b_r_473 (by decide : (0 : Int) ≤ (0 : Int32).toInt ∧ (0 : Int32).toInt ≤ 0) n_c_474 (by decide)
        have g_475 := zz_r_473 c_474
        refine lv_iconst (v := 0) hx hb dX1_readKind_30 (by decide) ?_
        exact hj_31_247 (0 : Int32) _ _ _ ⟨(show (0 : Int) ≤ (0 : Int32).toInt ∧ (0 : Int32).toInt ≤ 1 from (rg_w (by decide : (0 : Int) ≤ (0 : Int32).toInt ∧ (0 : Int32).toInt ≤ 0) (by decide) (by decide))), (show (0 : Int32).toInt = 0 → (xt.toInt ≠ 3 ∨ xv.toInt ≠ 40) ∧ ¬ WD fb xt xa xo 3 tf_123 from (fun _ => ⟨by omega, by assumption⟩)), hP, hD, hS, lv_sub hl [0, 1, 2] rfl⟩
      ·
        have n_c_474 : (r_473.toInt : Int) ≠ 0 := c_ne rfl (by decide) c_474
        have b_r_473 : (1 : Int) ≤ r_473.toInt ∧ r_473.toInt ≤ 1 := r_ne1 b_r_473 (by decide : (0 : Int) ≤ (0 : Int32).toInt ∧ (0 : Int32).toInt ≤ 0) n_c_474 (by decide)
        have g_476 := nz_r_473 c_474
        refine lv_iconst (v := 1) hx hb dX1_readKind_26 (by decide) ?_
        refine lv_goto (tgt := 31) hx hb dX1_readKind_27 (by decide) ?_
        exact hj_31_247 (1 : Int32) _ _ _ ⟨(show (0 : Int) ≤ (1 : Int32).toInt ∧ (1 : Int32).toInt ≤ 1 from (rg_w (by decide : (1 : Int) ≤ (1 : Int32).toInt ∧ (1 : Int32).toInt ≤ 1) (by decide) (by decide))), (show (1 : Int32).toInt = 0 → (xt.toInt ≠ 3 ∨ xv.toInt ≠ 40) ∧ ¬ WD fb xt xa xo 3 tf_123 from (fun h9 => absurd h9 (by decide))), hP, hD, hS, lv_sub hl [0, 1, 2] rfl⟩
theorem dX1_readPart_0 : decode cX1_readPart 0 = .ok (.aload_n 0, 1) := by decide +kernel
theorem dX1_readPart_1 : decode cX1_readPart 1 = .ok (.iload_n 1, 1) := by decide +kernel
theorem dX1_readPart_2 : decode cX1_readPart 2 = .ok (.invokevirtual 114, 3) := by decide +kernel
theorem dX1_readPart_5 : decode cX1_readPart 5 = .ok (.iconst 0, 1) := by decide +kernel
theorem dX1_readPart_6 : decode cX1_readPart 6 = .ok (.istore_n 2, 1) := by decide +kernel
theorem dX1_readPart_7 : decode cX1_readPart 7 = .ok (.iload_n 2, 1) := by decide +kernel
theorem dX1_readPart_8 : decode cX1_readPart 8 = .ok (.bipush 24, 2) := by decide +kernel
theorem dX1_readPart_10 : decode cX1_readPart 10 = .ok (.if_icmp .gt 45, 3) := by decide +kernel
theorem dX1_readPart_13 : decode cX1_readPart 13 = .ok (.aload_n 0, 1) := by decide +kernel
theorem dX1_readPart_14 : decode cX1_readPart 14 = .ok (.getfield 23, 3) := by decide +kernel
theorem dX1_readPart_17 : decode cX1_readPart 17 = .ok (.ifCond .ne 38, 3) := by decide +kernel
theorem dX1_readPart_20 : decode cX1_readPart 20 = .ok (.aload_n 0, 1) := by decide +kernel
theorem dX1_readPart_21 : decode cX1_readPart 21 = .ok (.ldc 117, 2) := by decide +kernel
theorem dX1_readPart_23 : decode cX1_readPart 23 = .ok (.invokevirtual 89, 3) := by decide +kernel
theorem dX1_readPart_26 : decode cX1_readPart 26 = .ok (.ifCond .eq 29, 3) := by decide +kernel
theorem dX1_readPart_29 : decode cX1_readPart 29 = .ok (.aload_n 0, 1) := by decide +kernel
theorem dX1_readPart_30 : decode cX1_readPart 30 = .ok (.invokevirtual 107, 3) := by decide +kernel
theorem dX1_readPart_33 : decode cX1_readPart 33 = .ok (.aload_n 0, 1) := by decide +kernel
theorem dX1_readPart_34 : decode cX1_readPart 34 = .ok (.iload_n 1, 1) := by decide +kernel
theorem dX1_readPart_35 : decode cX1_readPart 35 = .ok (.invokevirtual 114, 3) := by decide +kernel
theorem dX1_readPart_38 : decode cX1_readPart 38 = .ok (.aload_n 0, 1) := by decide +kernel
theorem dX1_readPart_39 : decode cX1_readPart 39 = .ok (.getfield 19, 3) := by decide +kernel
theorem dX1_readPart_42 : decode cX1_readPart 42 = .ok (.bipush 8, 2) := by decide +kernel
theorem dX1_readPart_44 : decode cX1_readPart 44 = .ok (.lconst 0, 1) := by decide +kernel
theorem dX1_readPart_45 : decode cX1_readPart 45 = .ok (.lconst 0, 1) := by decide +kernel
theorem dX1_readPart_46 : decode cX1_readPart 46 = .ok (.invokevirtual 110, 3) := by decide +kernel
theorem dX1_readPart_49 : decode cX1_readPart 49 = .ok (.iinc 2 1, 3) := by decide +kernel
theorem dX1_readPart_52 : decode cX1_readPart 52 = .ok (.goto (-45), 3) := by decide +kernel
theorem dX1_readPart_55 : decode cX1_readPart 55 = .ok (.return_, 1) := by decide +kernel
theorem hd_yX1_readPart : yX1_readPart.cls = RX1 ∧ yX1_readPart.cls ≠ "java/lang/invoke/MethodHandle" ∧ yX1_readPart.cls ≠ "java/lang/invoke/VarHandle" ∧ (parseMethodDescriptor yX1_readPart.desc).map (fun d => d.parameters.length) = some 1 := by decide +kernel
def uX1_readPart6 : List Cond := List.cons (.code yX1_readPart cX1_readPart 3 none) (HAppend.hAppend ([.methodLink RX1 114 yX1_readKind, .instanceMethod yX1_readKind, .selects RX1 yX1_readKind yX1_readKind, .initialized RX1, .fieldLink RX1 23 "LuckyTicket$Reader" "fault" "I", .methodLink RX1 89 yX1_isWord, .instanceMethod yX1_isWord, .selects RX1 yX1_isWord yX1_isWord, .methodLink RX1 107 yX1_passJoin, .instanceMethod yX1_passJoin, .selects RX1 yX1_passJoin yX1_passJoin, .fieldLink RX1 19 "LuckyTicket$Reader" "script" "LLuckyTicket$Script;", .methodLink RX1 110 yX4_add, .instanceMethod yX4_add, .selects RX4 yX4_add yX4_add, .initialized RX4] : List Cond) (HAppend.hAppend uX1_readKind6 (HAppend.hAppend uX1_isWord (HAppend.hAppend uX1_passJoin (HAppend.hAppend uX4_add wsX10)))))
theorem iX1_readPart6_X1 : ∀ w ∈ wsX10, w ∈ uX1_readPart6 := fun _ h => (List.mem_cons_of_mem _ (List.mem_append_right _ (List.mem_append_right _ (List.mem_append_right _ (List.mem_append_right _ (List.mem_append_right _ h))))))
theorem guX1_readPart6 : GU uX1_readPart6 := gu_cons (gu_app (by decide +kernel) (gu_ap guX1_readKind6 (gu_ap guX1_isWord (gu_ap guX1_passJoin (gu_ap guX4_add gws_X1)))))
theorem gX1_readPart6__X1_readKind6_V114 : GoodIn uX1_readPart6 (wsV RX1 114 RX1 yX1_readKind uX1_readKind6) := gin_V (List.mem_of_getElem? (i := 1) rfl) (List.mem_of_getElem? (i := 2) rfl) (List.mem_of_getElem? (i := 3) rfl) (List.mem_of_getElem? (i := 4) rfl) (fun _ h => (List.mem_cons_of_mem _ (List.mem_append_right _ (List.mem_append_left _ h)))) guX1_readKind6
theorem gX1_readPart6__X1_isWord_V89 : GoodIn uX1_readPart6 (wsV RX1 89 RX1 yX1_isWord uX1_isWord) := gin_V (List.mem_of_getElem? (i := 6) rfl) (List.mem_of_getElem? (i := 7) rfl) (List.mem_of_getElem? (i := 8) rfl) (List.mem_of_getElem? (i := 4) rfl) (fun _ h => (List.mem_cons_of_mem _ (List.mem_append_right _ (List.mem_append_right _ (List.mem_append_left _ h))))) guX1_isWord
theorem gX1_readPart6__X1_passJoin_V107 : GoodIn uX1_readPart6 (wsV RX1 107 RX1 yX1_passJoin uX1_passJoin) := gin_V (List.mem_of_getElem? (i := 9) rfl) (List.mem_of_getElem? (i := 10) rfl) (List.mem_of_getElem? (i := 11) rfl) (List.mem_of_getElem? (i := 4) rfl) (fun _ h => (List.mem_cons_of_mem _ (List.mem_append_right _ (List.mem_append_right _ (List.mem_append_right _ (List.mem_append_left _ h)))))) guX1_passJoin
theorem gX1_readPart6__X4_add_V110 : GoodIn uX1_readPart6 (wsV RX1 110 RX4 yX4_add uX4_add) := gin_V (List.mem_of_getElem? (i := 13) rfl) (List.mem_of_getElem? (i := 14) rfl) (List.mem_of_getElem? (i := 15) rfl) (List.mem_of_getElem? (i := 16) rfl) (fun _ h => (List.mem_cons_of_mem _ (List.mem_append_right _ (List.mem_append_right _ (List.mem_append_right _ (List.mem_append_right _ (List.mem_append_left _ h))))))) guX4_add
set_option maxHeartbeats 4000000 in
set_option maxRecDepth 100000 in
theorem kX1_readPart6 (l : Launch) (dC : Nat → ClassId) (dI : Nat → Nat → Nat) (rd : Nat) (xf : Int32) (xp : Int32) (xt : Int32) (xa : Int32) (xo : Int32) (xv : Int32) (xj : Int32) (tp : Nat) (tb : Nat) (ts : Int32) (cB : ClassId) (fb : Nat → Int32) (sc : Nat) (sn : Int32) (sb : Int32) (si : Int32) (sw : Int32) (ss : Int32) (en : Nat) (ki : Nat) (on : Nat) (ot : Nat) (cK : ClassId) (fk : Nat → Int32) (cO : ClassId) (fo : Nat → Int64) (cT : ClassId) (ft : Nat → Int64) (n0 : Nat) (sz : Nat) (b_xf : (0 : Int) ≤ xf.toInt ∧ xf.toInt ≤ 3) (b_xp : (-1 : Int) ≤ xp.toInt ∧ xp.toInt ≤ 1200) (b_xt : (0 : Int) ≤ xt.toInt ∧ xt.toInt ≤ 4) (b_xa : (0 : Int) ≤ xa.toInt ∧ xa.toInt ≤ 1200) (b_xo : (0 : Int) ≤ xo.toInt ∧ xo.toInt ≤ 1200) (b_ts : (0 : Int) ≤ ts.toInt ∧ ts.toInt ≤ 1200) (b_sn : (0 : Int) ≤ sn.toInt ∧ sn.toInt ≤ 12) (b_sb : (0 : Int) ≤ sb.toInt ∧ sb.toInt ≤ 16) (b_si : (0 : Int) ≤ si.toInt ∧ si.toInt ≤ 1300) (b_sw : (0 : Int) ≤ sw.toInt ∧ sw.toInt ≤ 9) (b_ss : (0 : Int) ≤ ss.toInt ∧ ss.toInt ≤ 600) (hrd : xa.toInt ≤ xo.toInt) : Met l yX1_readPart uX1_readPart6 ({ frames := 8, cells := 0, slots := 0, locals := 175 }) (va_Pc [.ref rd, .int 6] (hx_ (dC, dI) vwCl [(rd, .inr (0, [.ref tp, .ref sc, .int xf, .int xp, .int xt, .int xa, .int xo, .int xv, .int xj])), (tp, .inr (6, [.ref tb, .int ts])), (tb, .inl (cB, 1200, .inl fb)), (sc, .inr (3, [.int sn, .int sb, .int si, .int sw, .int ss, .ref en, .ref ki, .ref on, .ref ot])), (ki, .inl (cK, 600, .inl fk)), (on, .inl (cO, 600, .inr (.inl fo))), (ot, .inl (cT, 600, .inr (.inl ft)))] [(cB, .byte), (cK, .int), (cO, .long), (cT, .long)] sz n0 [])) (va_Qv (fun (_ : Unit) => True) (fun (_ : Unit) t => ∃ (o0_ : Int32) (o1_ : Int32) (o2_ : Int32) (o3_ : Int32) (o4_ : Int32) (o5_ : Int32) (o6_ : Int32) (o7_ : Int32) (o8_ : Nat → Int32) (o9_ : Nat → Int64) (o10_ : Nat → Int64), ((0 : Int) ≤ o0_.toInt ∧ o0_.toInt ≤ 3) ∧ ((-1 : Int) ≤ o1_.toInt ∧ o1_.toInt ≤ 1200) ∧ ((0 : Int) ≤ o2_.toInt ∧ o2_.toInt ≤ 4) ∧ ((0 : Int) ≤ o3_.toInt ∧ o3_.toInt ≤ 1200) ∧ ((0 : Int) ≤ o4_.toInt ∧ o4_.toInt ≤ 1200) ∧ ((0 : Int) ≤ o7_.toInt ∧ o7_.toInt ≤ 600) ∧ (o3_.toInt ≤ o4_.toInt) ∧ va_P (dC, dI) vwCl [(rd, .inr (0, [.ref tp, .ref sc, .int o0_, .int o1_, .int o2_, .int o3_, .int o4_, .int o5_, .int o6_])), (tp, .inr (6, [.ref tb, .int ts])), (tb, .inl (cB, 1200, .inl fb)), (sc, .inr (3, [.int sn, .int sb, .int si, .int sw, .int o7_, .ref en, .ref ki, .ref on, .ref ot])), (ki, .inl (cK, 600, .inl o8_)), (on, .inl (cO, 600, .inr (.inl o9_))), (ot, .inl (cT, 600, .inr (.inl o10_)))] t.heap ∧ va_K (dC, dI) vwCl [(cB, .byte), (cK, .int), (cO, .long), (cT, .long)] t ∧ va_D (va_A [(rd, .inr (0, [.ref tp, .ref sc, .int xf, .int xp, .int xt, .int xa, .int xo, .int xv, .int xj])), (tp, .inr (6, [.ref tb, .int ts])), (tb, .inl (cB, 1200, .inl fb)), (sc, .inr (3, [.int sn, .int sb, .int si, .int sw, .int ss, .ref en, .ref ki, .ref on, .ref ot])), (ki, .inl (cK, 600, .inl fk)), (on, .inl (cO, 600, .inr (.inl fo))), (ot, .inl (cT, 600, .inr (.inl ft)))] sz) [(rd, .inr (0, [.ref tp, .ref sc, .int o0_, .int o1_, .int o2_, .int o3_, .int o4_, .int o5_, .int o6_])), (tp, .inr (6, [.ref tb, .int ts])), (tb, .inl (cB, 1200, .inl fb)), (sc, .inr (3, [.int sn, .int sb, .int si, .int sw, .int o7_, .ref en, .ref ki, .ref on, .ref ot])), (ki, .inl (cK, 600, .inl o8_)), (on, .inl (cO, 600, .inr (.inl o9_))), (ot, .inl (cT, 600, .inr (.inl o10_)))]) (va_A [(rd, .inr (0, [.ref tp, .ref sc, .int xf, .int xp, .int xt, .int xa, .int xo, .int xv, .int xj])), (tp, .inr (6, [.ref tb, .int ts])), (tb, .inl (cB, 1200, .inl fb)), (sc, .inr (3, [.int sn, .int sb, .int si, .int sw, .int ss, .ref en, .ref ki, .ref on, .ref ot])), (ki, .inl (cK, 600, .inl fk)), (on, .inl (cO, 600, .inr (.inl fo))), (ot, .inl (cT, 600, .inr (.inl ft)))] sz)) 0 0 (va_A [(rd, .inr (0, [.ref tp, .ref sc, .int xf, .int xp, .int xt, .int xa, .int xo, .int xv, .int xj])), (tp, .inr (6, [.ref tb, .int ts])), (tb, .inl (cB, 1200, .inl fb)), (sc, .inr (3, [.int sn, .int sb, .int si, .int sw, .int ss, .ref en, .ref ki, .ref on, .ref ot])), (ki, .inl (cK, 600, .inl fk)), (on, .inl (cO, 600, .inr (.inl fo))), (ot, .inl (cT, 600, .inr (.inl ft)))] sz) := by
  refine Met.ofW (cc := cX1_readPart) (maxL := 3) (ret := none) pn_X1 rfl ?_
  intro p e s m args below meth c s₁ B hml hv
  obtain ⟨rfl, ⟨hsz, hP, hK, hD0, hN⟩, hn0, hDn, hX, hTx⟩ := hv
  have hx := B.exec
  have hb := B.bytes
  have hr := B.returns
  have hts := atoms_spec (ws := uX1_readPart6) B.pre
  have hown : s.vm.findClass RX1 = some m.cls := hown_of B.named rfl
  have hlocks := B.notSynchronized
  subst hsz
  have hD := hD0.self (sz := s.heap.size)
  have hAn : ∀ q, va_A [(rd, .inr (0, [.ref tp, .ref sc, .int xf, .int xp, .int xt, .int xa, .int xo, .int xv, .int xj])), (tp, .inr (6, [.ref tb, .int ts])), (tb, .inl (cB, 1200, .inl fb)), (sc, .inr (3, [.int sn, .int sb, .int si, .int sw, .int ss, .ref en, .ref ki, .ref on, .ref ot])), (ki, .inl (cK, 600, .inl fk)), (on, .inl (cO, 600, .inr (.inl fo))), (ot, .inl (cT, 600, .inr (.inl ft)))] s.heap.size q → n0 ≤ q := fun q h => h.elim (fun ⟨k, e, hk⟩ => hDn.2 k (q, e) hk) (fun h => Nat.le_trans hn0 h)
  generalize hAe : va_A [(rd, .inr (0, [.ref tp, .ref sc, .int xf, .int xp, .int xt, .int xa, .int xo, .int xv, .int xj])), (tp, .inr (6, [.ref tb, .int ts])), (tb, .inl (cB, 1200, .inl fb)), (sc, .inr (3, [.int sn, .int sb, .int si, .int sw, .int ss, .ref en, .ref ki, .ref on, .ref ot])), (ki, .inl (cK, 600, .inl fk)), (on, .inl (cO, 600, .inr (.inl fo))), (ot, .inl (cT, 600, .inr (.inl ft)))] s.heap.size = A at hD hAn ⊢
  have hA : ∀ q : Nat, s.heap.size ≤ q → A q := fun q h => by rw [← hAe]; exact Or.inr h
  have hS : va_S A s.heap s.heap [] := va_S.rf
  have hP : va_P (dC, dI) vwCl [(rd, .inr (0, [.ref tp, .ref sc, .int xf, .int xp, .int xt, .int xa, .int xo, .int xv, .int xj])), (tp, .inr (6, [.ref tb, .int ts])), (tb, .inl (cB, 1200, .inl fb)), (sc, .inr (3, [.int sn, .int sb, .int si, .int sw, .int ss, .ref en, .ref ki, .ref on, .ref ot])), (ki, .inl (cK, 600, .inl fk)), (on, .inl (cO, 600, .inr (.inl fo))), (ot, .inl (cT, 600, .inr (.inl ft)))] s.heap := hP
  obtain ⟨tq_117, tf_117, hR_117, ht_117⟩ := hX.2.2.1 (RX1, 117, "and", 3) (List.mem_of_getElem? (i := 5) rfl)
  have hR_117 : vk_R RX1 117 "and" tq_117 s := hR_117
  have ht_117 : txt n0 tq_117 3 tf_117 s := ht_117
  have hl := lv_entry ([.ref rd, .int 6]) (n := 3) (Nat.le_of_ble_eq_true rfl)
  rw [lg_entry_eq]
  generalize (lg_sl ([.ref rd, .int 6]) ++ List.replicate (3 - (lg_sl ([.ref rd, .int 6])).length) Slot.unset).toArray = ls at hl ⊢
  have hl : lv_has ls 3 [(0, .ref rd), (1, .int 6)] := hl
  refine lv_aload_n hx hb dX1_readPart_0 rfl (lv_at hl 0 rfl) ?_
  refine lv_iload_n hx hb dX1_readPart_1 rfl (lv_at hl 1 rfl) ?_
  have hFc := va_free (wc := [(rd, .inr (0, [.ref tp, .ref sc, .int xf, .int xp, .int xt, .int xa, .int xo, .int xv, .int xj])), (tp, .inr (6, [.ref tb, .int ts])), (tb, .inl (cB, 1200, .inl fb)), (sc, .inr (3, [.int sn, .int sb, .int si, .int sw, .int ss, .ref en, .ref ki, .ref on, .ref ot])), (ki, .inl (cK, 600, .inl fk)), (on, .inl (cO, 600, .inr (.inl fo))), (ot, .inl (cT, 600, .inr (.inl ft)))]) hD hS hA [0, 1, 2, 3, 4, 5, 6] rfl
  refine va_callv (va_runV (As := [.int 6]) (rest := []) ⟨hx, hb, hml, hown, hts⟩ (kX1_readKind6 l dC dI rd xf xp xt xa xo xv xj tp tb ts cB fb sc sn sb si sw ss en ki on ot cK fk cO fo cT ft n0 (s.heap.size) b_xf b_xp b_xt b_xa b_xo b_ts b_sn b_sb b_si b_sw b_ss (by omega)) (cwV 1 hts gX1_readPart6__X1_readKind6_V114 rfl rfl rfl hd_yX1_readKind ⟨lel 8 8 rfl, lel 175 175 rfl⟩) ⟨hx_fb, rcv_X1 hK hP (q0 := 0) rfl, (hx_use hP hD hK hN hX hS hAn hn0 [0, 1, 2, 3, 4, 5, 6] rfl (by decide) rfl [0, 1, 2, 3] rfl tts_0)⟩ rfl rfl hl.1 rfl (lv_room (Nat.le_of_ble_eq_true rfl)) dX1_readPart_2 ⟨lel 0 0 rfl, lel 0 0 rfl⟩) hS (fun q _ h => hFc q h) hFc (fun u_315 t H1 locs ht hvm hw_r_314 hB hz1 hk1 hS => ?_)
  obtain ⟨o0_316, o1_317, o2_318, o3_319, o4_320, o5_321, o6_322, o7_323, o8_324, o9_325, b_o0_316, b_o1_317, b_o2_318, b_o3_319, b_o4_320, b_o6_322, hf_326, hP1, hK1, hD1⟩ := hB
  rw [ht] at hP1
  have hK1 := va_K.moved hvm.symm hK1
  obtain ⟨hP, hD⟩ := va_join (wr := []) (w1 := [(rd, .inr (0, [.ref tp, .ref sc, .int o0_316, .int o1_317, .int o2_318, .int o3_319, .int o4_320, .int o5_321, .int xj])), (tp, .inr (6, [.ref tb, .int ts])), (tb, .inl (cB, 1200, .inl fb)), (sc, .inr (3, [.int sn, .int sb, .int si, .int sw, .int o6_322, .ref en, .ref ki, .ref on, .ref ot])), (ki, .inl (cK, 600, .inl o7_323)), (on, .inl (cO, 600, .inr (.inl o8_324))), (ot, .inl (cT, 600, .inr (.inl o9_325)))]) hP hD [0, 1, 2, 3, 4, 5, 6] [] rfl rfl (by decide) (by decide) hk1 hFc hP1 hD1
  have hK := (hK.sub (tys' := []) [] rfl).app hK1
  generalize H1 = H at hP hS ⊢
  have hP : va_P (dC, dI) vwCl [(rd, .inr (0, [.ref tp, .ref sc, .int o0_316, .int o1_317, .int o2_318, .int o3_319, .int o4_320, .int o5_321, .int xj])), (tp, .inr (6, [.ref tb, .int ts])), (tb, .inl (cB, 1200, .inl fb)), (sc, .inr (3, [.int sn, .int sb, .int si, .int sw, .int o6_322, .ref en, .ref ki, .ref on, .ref ot])), (ki, .inl (cK, 600, .inl o7_323)), (on, .inl (cO, 600, .inr (.inl o8_324))), (ot, .inl (cT, 600, .inr (.inl o9_325)))] H := hP
  have hD : va_D A [(rd, .inr (0, [.ref tp, .ref sc, .int o0_316, .int o1_317, .int o2_318, .int o3_319, .int o4_320, .int o5_321, .int xj])), (tp, .inr (6, [.ref tb, .int ts])), (tb, .inl (cB, 1200, .inl fb)), (sc, .inr (3, [.int sn, .int sb, .int si, .int sw, .int o6_322, .ref en, .ref ki, .ref on, .ref ot])), (ki, .inl (cK, 600, .inl o7_323)), (on, .inl (cO, 600, .inr (.inl o8_324))), (ot, .inl (cT, 600, .inr (.inl o9_325)))] := hD
  have hK : va_K (dC, dI) vwCl [(cB, .byte), (cK, .int), (cO, .long), (cT, .long)] s := hK
  refine lv_iconst (v := 0) hx hb dX1_readPart_5 (by decide) ?_
  refine lv_istore_n (lv' := [(2, .int 0), (0, .ref rd), (1, .int 6)]) hx hb dX1_readPart_6 rfl hl (by decide) rfl (fun ls hl => ?_)
  refine loopW (σ := Int32 × Int32 × Int32 × Int32 × Int32 × Int32 × Int32 × Int32 × Int32 × (Nat → Int32) × (Nat → Int64) × (Nat → Int64)) (fun v => (25 - v.1.toInt).toNat) (fun v H locs ls => ((0 : Int) ≤ v.1.toInt ∧ v.1.toInt ≤ 25) ∧ ((0 : Int) ≤ v.2.1.toInt ∧ v.2.1.toInt ≤ 3) ∧ ((-1 : Int) ≤ v.2.2.1.toInt ∧ v.2.2.1.toInt ≤ 1200) ∧ ((0 : Int) ≤ v.2.2.2.1.toInt ∧ v.2.2.2.1.toInt ≤ 4) ∧ ((0 : Int) ≤ v.2.2.2.2.1.toInt ∧ v.2.2.2.2.1.toInt ≤ 1200) ∧ ((0 : Int) ≤ v.2.2.2.2.2.1.toInt ∧ v.2.2.2.2.2.1.toInt ≤ 1200) ∧ ((0 : Int) ≤ v.2.2.2.2.2.2.2.2.1.toInt ∧ v.2.2.2.2.2.2.2.2.1.toInt ≤ 600) ∧ (v.2.2.2.2.1.toInt ≤ v.2.2.2.2.2.1.toInt) ∧ va_P (dC, dI) vwCl [(rd, .inr (0, [.ref tp, .ref sc, .int v.2.1, .int v.2.2.1, .int v.2.2.2.1, .int v.2.2.2.2.1, .int v.2.2.2.2.2.1, .int v.2.2.2.2.2.2.1, .int v.2.2.2.2.2.2.2.1])), (tp, .inr (6, [.ref tb, .int ts])), (tb, .inl (cB, 1200, .inl fb)), (sc, .inr (3, [.int sn, .int sb, .int si, .int sw, .int v.2.2.2.2.2.2.2.2.1, .ref en, .ref ki, .ref on, .ref ot])), (ki, .inl (cK, 600, .inl v.2.2.2.2.2.2.2.2.2.1)), (on, .inl (cO, 600, .inr (.inl v.2.2.2.2.2.2.2.2.2.2.1))), (ot, .inl (cT, 600, .inr (.inl v.2.2.2.2.2.2.2.2.2.2.2)))] H ∧ va_D A [(rd, .inr (0, [.ref tp, .ref sc, .int v.2.1, .int v.2.2.1, .int v.2.2.2.1, .int v.2.2.2.2.1, .int v.2.2.2.2.2.1, .int v.2.2.2.2.2.2.1, .int v.2.2.2.2.2.2.2.1])), (tp, .inr (6, [.ref tb, .int ts])), (tb, .inl (cB, 1200, .inl fb)), (sc, .inr (3, [.int sn, .int sb, .int si, .int sw, .int v.2.2.2.2.2.2.2.2.1, .ref en, .ref ki, .ref on, .ref ot])), (ki, .inl (cK, 600, .inl v.2.2.2.2.2.2.2.2.2.1)), (on, .inl (cO, 600, .inr (.inl v.2.2.2.2.2.2.2.2.2.2.1))), (ot, .inl (cT, 600, .inr (.inl v.2.2.2.2.2.2.2.2.2.2.2)))] ∧ va_S A s.heap H locs ∧ lv_has ls 3 [(2, .int v.1), (0, .ref rd), (1, .int 6)]) (fun v H locs ls hI ih_7_590 => ?_) ((0 : Int32), o0_316, o1_317, o2_318, o3_319, o4_320, o5_321, xj, o6_322, o7_323, o8_324, o9_325) ⟨(show (0 : Int) ≤ (0 : Int32).toInt ∧ (0 : Int32).toInt ≤ 25 from (rg_w (by decide : (0 : Int) ≤ (0 : Int32).toInt ∧ (0 : Int32).toInt ≤ 0) (by decide) (by decide))), (show (0 : Int) ≤ o0_316.toInt ∧ o0_316.toInt ≤ 3 from b_o0_316), (show (-1 : Int) ≤ o1_317.toInt ∧ o1_317.toInt ≤ 1200 from b_o1_317), (show (0 : Int) ≤ o2_318.toInt ∧ o2_318.toInt ≤ 4 from b_o2_318), (show (0 : Int) ≤ o3_319.toInt ∧ o3_319.toInt ≤ 1200 from b_o3_319), (show (0 : Int) ≤ o4_320.toInt ∧ o4_320.toInt ≤ 1200 from b_o4_320), (show (0 : Int) ≤ o6_322.toInt ∧ o6_322.toInt ≤ 600 from b_o6_322), (show o3_319.toInt ≤ o4_320.toInt from (by have zl : (0 : Int32).toInt = 0 := (by decide); have zl : (6 : Int32).toInt = 6 := (by decide); omega)), hP, hD, hS, lv_sub hl [0, 1, 2] rfl⟩
  obtain ⟨y_363, y_364, y_365, y_366, y_367, y_368, y_369, y_370, y_371, f_372, f_373, f_374⟩ := v
  obtain ⟨b_y_363, b_y_364, b_y_365, b_y_366, b_y_367, b_y_368, b_y_371, hrs, hP, hD, hS, hl⟩ := hI
  have b_y_363 : (0 : Int) ≤ y_363.toInt ∧ y_363.toInt ≤ 25 := b_y_363
  have b_y_364 : (0 : Int) ≤ y_364.toInt ∧ y_364.toInt ≤ 3 := b_y_364
  have b_y_365 : (-1 : Int) ≤ y_365.toInt ∧ y_365.toInt ≤ 1200 := b_y_365
  have b_y_366 : (0 : Int) ≤ y_366.toInt ∧ y_366.toInt ≤ 4 := b_y_366
  have b_y_367 : (0 : Int) ≤ y_367.toInt ∧ y_367.toInt ≤ 1200 := b_y_367
  have b_y_368 : (0 : Int) ≤ y_368.toInt ∧ y_368.toInt ≤ 1200 := b_y_368
  have b_y_371 : (0 : Int) ≤ y_371.toInt ∧ y_371.toInt ≤ 600 := b_y_371
  have hrs : y_367.toInt ≤ y_368.toInt := hrs
  have hP : va_P (dC, dI) vwCl [(rd, .inr (0, [.ref tp, .ref sc, .int y_364, .int y_365, .int y_366, .int y_367, .int y_368, .int y_369, .int y_370])), (tp, .inr (6, [.ref tb, .int ts])), (tb, .inl (cB, 1200, .inl fb)), (sc, .inr (3, [.int sn, .int sb, .int si, .int sw, .int y_371, .ref en, .ref ki, .ref on, .ref ot])), (ki, .inl (cK, 600, .inl f_372)), (on, .inl (cO, 600, .inr (.inl f_373))), (ot, .inl (cT, 600, .inr (.inl f_374)))] H := hP
  have hD : va_D A [(rd, .inr (0, [.ref tp, .ref sc, .int y_364, .int y_365, .int y_366, .int y_367, .int y_368, .int y_369, .int y_370])), (tp, .inr (6, [.ref tb, .int ts])), (tb, .inl (cB, 1200, .inl fb)), (sc, .inr (3, [.int sn, .int sb, .int si, .int sw, .int y_371, .ref en, .ref ki, .ref on, .ref ot])), (ki, .inl (cK, 600, .inl f_372)), (on, .inl (cO, 600, .inr (.inl f_373))), (ot, .inl (cT, 600, .inr (.inl f_374)))] := hD
  have hl : lv_has ls 3 [(2, .int y_363), (0, .ref rd), (1, .int 6)] := hl
  refine lv_iload_n hx hb dX1_readPart_7 rfl (lv_at hl 0 rfl) ?_
  refine lv_bipush (v := 24) hx hb dX1_readPart_8 (by decide) ?_
  refine lv_icmp_gt (tgt := 55) hx hb dX1_readPart_10 (by decide) (fun c_591 => ?_) (fun c_591 => ?_)
  ·
    have n_c_591 : (24 : Int) < y_363.toInt := c_gt rfl (by decide) c_591
    have b_y_363 : (25 : Int) ≤ y_363.toInt ∧ y_363.toInt ≤ 25 := r_lt2 (by decide : (24 : Int) ≤ (24 : Int32).toInt ∧ (24 : Int32).toInt ≤ 24) b_y_363 n_c_591 (by decide)
    have hP9 := hP.sub (ws' := [(rd, .inr (0, [.ref tp, .ref sc, .int y_364, .int y_365, .int y_366, .int y_367, .int y_368, .int y_369, .int y_370])), (tp, .inr (6, [.ref tb, .int ts])), (tb, .inl (cB, 1200, .inl fb)), (sc, .inr (3, [.int sn, .int sb, .int si, .int sw, .int y_371, .ref en, .ref ki, .ref on, .ref ot])), (ki, .inl (cK, 600, .inl f_372)), (on, .inl (cO, 600, .inr (.inl f_373))), (ot, .inl (cT, 600, .inr (.inl f_374)))]) [0, 1, 2, 3, 4, 5, 6] rfl
    have hD9 := hD.sub (ws' := [(rd, .inr (0, [.ref tp, .ref sc, .int y_364, .int y_365, .int y_366, .int y_367, .int y_368, .int y_369, .int y_370])), (tp, .inr (6, [.ref tb, .int ts])), (tb, .inl (cB, 1200, .inl fb)), (sc, .inr (3, [.int sn, .int sb, .int si, .int sw, .int y_371, .ref en, .ref ki, .ref on, .ref ot])), (ki, .inl (cK, 600, .inl f_372)), (on, .inl (cO, 600, .inr (.inl f_373))), (ot, .inl (cT, 600, .inr (.inl f_374)))]) [0, 1, 2, 3, 4, 5, 6] (by decide) rfl
    have hK9 := hK.sub (tys' := [(cB, .byte), (cK, .int), (cO, .long), (cT, .long)]) [0, 1, 2, 3] rfl
    exact W.vret hx hb hr (fun t ht hW => ⟨⟨(), rfl, trivial, y_364, y_365, y_366, y_367, y_368, y_369, y_370, y_371, f_372, f_373, f_374, b_y_364, b_y_365, b_y_366, b_y_367, b_y_368, b_y_371, (by omega), by rw [ht]; exact hP9, va_K.moved hW.alike hK9, hD9⟩, hS.F ht⟩) hS.2.2 dX1_readPart_55
  ·
    have n_c_591 : (y_363.toInt : Int) ≤ 24 := c_ngt rfl (by decide) c_591
    have b_y_363 : (0 : Int) ≤ y_363.toInt ∧ y_363.toInt ≤ 24 := r_le1 b_y_363 (by decide : (24 : Int) ≤ (24 : Int32).toInt ∧ (24 : Int32).toInt ≤ 24) n_c_591 (by decide)
    refine lv_aload_n hx hb dX1_readPart_13 rfl (lv_at hl 1 rfl) ?_
    refine va_get (D := (dC, dI)) (ci := 0) (v := .int y_364) (C := RX1) (T := TX1) (N := 9) hx hb hts iX1_readPart6_X1 hown hK hP 0 rfl rfl 2 (by decide) (hts (.fieldLink RX1 23 "LuckyTicket$Reader" "fault" "I") (List.mem_of_getElem? (i := 5) rfl)) (fun _ h9 => h9) rfl dX1_readPart_14 ?_
    refine lv_if_ne (tgt := 55) hx hb dX1_readPart_17 (by decide) (fun c_592 => ?_) (fun c_592 => ?_)
    ·
      have n_c_592 : (y_364.toInt : Int) ≠ 0 := c_ne rfl (by decide) c_592
      have b_y_364 : (1 : Int) ≤ y_364.toInt ∧ y_364.toInt ≤ 3 := r_ne1 b_y_364 (by decide : (0 : Int) ≤ (0 : Int32).toInt ∧ (0 : Int32).toInt ≤ 0) n_c_592 (by decide)
      have hP9 := hP.sub (ws' := [(rd, .inr (0, [.ref tp, .ref sc, .int y_364, .int y_365, .int y_366, .int y_367, .int y_368, .int y_369, .int y_370])), (tp, .inr (6, [.ref tb, .int ts])), (tb, .inl (cB, 1200, .inl fb)), (sc, .inr (3, [.int sn, .int sb, .int si, .int sw, .int y_371, .ref en, .ref ki, .ref on, .ref ot])), (ki, .inl (cK, 600, .inl f_372)), (on, .inl (cO, 600, .inr (.inl f_373))), (ot, .inl (cT, 600, .inr (.inl f_374)))]) [0, 1, 2, 3, 4, 5, 6] rfl
      have hD9 := hD.sub (ws' := [(rd, .inr (0, [.ref tp, .ref sc, .int y_364, .int y_365, .int y_366, .int y_367, .int y_368, .int y_369, .int y_370])), (tp, .inr (6, [.ref tb, .int ts])), (tb, .inl (cB, 1200, .inl fb)), (sc, .inr (3, [.int sn, .int sb, .int si, .int sw, .int y_371, .ref en, .ref ki, .ref on, .ref ot])), (ki, .inl (cK, 600, .inl f_372)), (on, .inl (cO, 600, .inr (.inl f_373))), (ot, .inl (cT, 600, .inr (.inl f_374)))]) [0, 1, 2, 3, 4, 5, 6] (by decide) rfl
      have hK9 := hK.sub (tys' := [(cB, .byte), (cK, .int), (cO, .long), (cT, .long)]) [0, 1, 2, 3] rfl
      exact W.vret hx hb hr (fun t ht hW => ⟨⟨(), rfl, trivial, y_364, y_365, y_366, y_367, y_368, y_369, y_370, y_371, f_372, f_373, f_374, (rg_w b_y_364 (by decide) (by decide)), b_y_365, b_y_366, b_y_367, b_y_368, b_y_371, (by omega), by rw [ht]; exact hP9, va_K.moved hW.alike hK9, hD9⟩, hS.F ht⟩) hS.2.2 dX1_readPart_55
    ·
      have n_c_592 : (y_364.toInt : Int) = 0 := c_eq rfl (by decide) c_592
      have b_y_364 : (0 : Int) ≤ y_364.toInt ∧ y_364.toInt ≤ 0 := r_eq1 b_y_364 (by decide : (0 : Int) ≤ (0 : Int32).toInt ∧ (0 : Int32).toInt ≤ 0) n_c_592 (by decide)
      refine lv_aload_n hx hb dX1_readPart_20 rfl (lv_at hl 1 rfl) ?_
      refine va_ldcS hx hb hown hR_117 dX1_readPart_21 ?_
      refine vp_callSi (W.runV (As := [.ref tq_117]) (rest := []) ⟨hx, hb, hml, hown, hts⟩ (kX1_isWord l dC dI rd y_364 y_365 y_366 y_367 y_368 y_369 y_370 tp tb ts cB fb sc tq_117 3 tf_117 n0 (rg_w b_y_364 (by decide) (by decide)) b_y_365 b_y_366 b_y_367 b_y_368 b_ts (by omega) (by omega)) (cwV 1 hts gX1_readPart6__X1_isWord_V89 rfl rfl rfl hd_yX1_isWord ⟨lel 5 8 rfl, lel 107 175 rfl⟩) ⟨px_fb, rcv_X1 hK hP (q0 := 0) rfl, (px_use hP hK hN hX (vs_up hS hAn) [0, 1, 2] rfl [0] rfl (tts_1 ht_117) tbs_0)⟩ rfl rfl hl.1 rfl (lv_room (Nat.le_of_ble_eq_true rfl)) dX1_readPart_23 ⟨lel 0 0 rfl, lel 0 0 rfl⟩) (fun r_593 h_r_593 => ?_)
      obtain ⟨b_r_593, nz_r_593, zz_r_593⟩ := h_r_593
      have b_r_593 : (0 : Int) ≤ r_593.toInt ∧ r_593.toInt ≤ 1 := b_r_593
      refine lv_if_eq (tgt := 55) hx hb dX1_readPart_26 (by decide) (fun c_594 => ?_) (fun c_594 => ?_)
      ·
        have n_c_594 : (r_593.toInt : Int) = 0 := c_eq rfl (by decide) c_594
        have b_r_593 : (0 : Int) ≤ r_593.toInt ∧ r_593.toInt ≤ 0 := r_eq1 b_r_593 (by decide : (0 : Int) ≤ (0 : Int32).toInt ∧ (0 : Int32).toInt ≤ 0) n_c_594 (by decide)
        have g_595 := zz_r_593 c_594
        have hP9 := hP.sub (ws' := [(rd, .inr (0, [.ref tp, .ref sc, .int y_364, .int y_365, .int y_366, .int y_367, .int y_368, .int y_369, .int y_370])), (tp, .inr (6, [.ref tb, .int ts])), (tb, .inl (cB, 1200, .inl fb)), (sc, .inr (3, [.int sn, .int sb, .int si, .int sw, .int y_371, .ref en, .ref ki, .ref on, .ref ot])), (ki, .inl (cK, 600, .inl f_372)), (on, .inl (cO, 600, .inr (.inl f_373))), (ot, .inl (cT, 600, .inr (.inl f_374)))]) [0, 1, 2, 3, 4, 5, 6] rfl
        have hD9 := hD.sub (ws' := [(rd, .inr (0, [.ref tp, .ref sc, .int y_364, .int y_365, .int y_366, .int y_367, .int y_368, .int y_369, .int y_370])), (tp, .inr (6, [.ref tb, .int ts])), (tb, .inl (cB, 1200, .inl fb)), (sc, .inr (3, [.int sn, .int sb, .int si, .int sw, .int y_371, .ref en, .ref ki, .ref on, .ref ot])), (ki, .inl (cK, 600, .inl f_372)), (on, .inl (cO, 600, .inr (.inl f_373))), (ot, .inl (cT, 600, .inr (.inl f_374)))]) [0, 1, 2, 3, 4, 5, 6] (by decide) rfl
        have hK9 := hK.sub (tys' := [(cB, .byte), (cK, .int), (cO, .long), (cT, .long)]) [0, 1, 2, 3] rfl
        exact W.vret hx hb hr (fun t ht hW => ⟨⟨(), rfl, trivial, y_364, y_365, y_366, y_367, y_368, y_369, y_370, y_371, f_372, f_373, f_374, (rg_w b_y_364 (by decide) (by decide)), b_y_365, b_y_366, b_y_367, b_y_368, b_y_371, (by omega), by rw [ht]; exact hP9, va_K.moved hW.alike hK9, hD9⟩, hS.F ht⟩) hS.2.2 dX1_readPart_55
      ·
        have n_c_594 : (r_593.toInt : Int) ≠ 0 := c_ne rfl (by decide) c_594
        have b_r_593 : (1 : Int) ≤ r_593.toInt ∧ r_593.toInt ≤ 1 := r_ne1 b_r_593 (by decide : (0 : Int) ≤ (0 : Int32).toInt ∧ (0 : Int32).toInt ≤ 0) n_c_594 (by decide)
        have g_596 := nz_r_593 c_594
        refine lv_aload_n hx hb dX1_readPart_29 rfl (lv_at hl 1 rfl) ?_
        have hFc := va_free (wc := [(rd, .inr (0, [.ref tp, .ref sc, .int y_364, .int y_365, .int y_366, .int y_367, .int y_368, .int y_369, .int y_370])), (tp, .inr (6, [.ref tb, .int ts])), (tb, .inl (cB, 1200, .inl fb))]) hD hS hA [0, 1, 2] rfl
        refine va_callv (va_runV (As := []) (rest := []) ⟨hx, hb, hml, hown, hts⟩ (kX1_passJoin l dC dI rd y_364 y_365 y_366 y_367 y_368 y_369 y_370 tp tb ts cB fb sc (H.size) (rg_w b_y_364 (by decide) (by decide)) b_y_365 b_y_366 b_y_367 b_y_368 b_ts (by omega)) (cwV 0 hts gX1_readPart6__X1_passJoin_V107 rfl rfl rfl hd_yX1_passJoin ⟨lel 2 8 rfl, lel 42 175 rfl⟩) ⟨hw_fb, rcv_X1 hK hP (q0 := 0) rfl, (hw_use hP hD hK hN [0, 1, 2] rfl (by decide) rfl [0] rfl)⟩ rfl rfl hl.1 rfl (lv_room (Nat.le_of_ble_eq_true rfl)) dX1_readPart_30 ⟨lel 0 0 rfl, lel 0 0 rfl⟩) hS (fun q _ h => hFc q h) hFc (fun u_598 t H1 locs ht hvm hw_r_597 hB hz1 hk1 hS => ?_)
        obtain ⟨o0_599, o1_600, o2_601, o3_602, o4_603, o5_604, o6_605, b_o0_599, b_o1_600, b_o2_601, b_o3_602, b_o4_603, hf_606, hP1, hK1, hD1⟩ := hB
        rw [ht] at hP1
        have hK1 := va_K.moved hvm.symm hK1
        obtain ⟨hP, hD⟩ := va_join (wr := [(sc, .inr (3, [.int sn, .int sb, .int si, .int sw, .int y_371, .ref en, .ref ki, .ref on, .ref ot])), (ki, .inl (cK, 600, .inl f_372)), (on, .inl (cO, 600, .inr (.inl f_373))), (ot, .inl (cT, 600, .inr (.inl f_374)))]) (w1 := [(rd, .inr (0, [.ref tp, .ref sc, .int o0_599, .int o1_600, .int o2_601, .int o3_602, .int o4_603, .int o5_604, .int o6_605])), (tp, .inr (6, [.ref tb, .int ts])), (tb, .inl (cB, 1200, .inl fb))]) hP hD [0, 1, 2] [3, 4, 5, 6] rfl rfl (by decide) (by decide) hk1 hFc hP1 hD1
        have hK := (hK.sub (tys' := [(cK, .int), (cO, .long), (cT, .long)]) [1, 2, 3] rfl).app hK1
        generalize H1 = H at hP hS ⊢
        have hP := hP.sub (ws' := [(rd, .inr (0, [.ref tp, .ref sc, .int o0_599, .int o1_600, .int o2_601, .int o3_602, .int o4_603, .int o5_604, .int o6_605])), (tp, .inr (6, [.ref tb, .int ts])), (tb, .inl (cB, 1200, .inl fb)), (sc, .inr (3, [.int sn, .int sb, .int si, .int sw, .int y_371, .ref en, .ref ki, .ref on, .ref ot])), (ki, .inl (cK, 600, .inl f_372)), (on, .inl (cO, 600, .inr (.inl f_373))), (ot, .inl (cT, 600, .inr (.inl f_374)))]) [4, 5, 6, 0, 1, 2, 3] rfl
        have hD := hD.sub (ws' := [(rd, .inr (0, [.ref tp, .ref sc, .int o0_599, .int o1_600, .int o2_601, .int o3_602, .int o4_603, .int o5_604, .int o6_605])), (tp, .inr (6, [.ref tb, .int ts])), (tb, .inl (cB, 1200, .inl fb)), (sc, .inr (3, [.int sn, .int sb, .int si, .int sw, .int y_371, .ref en, .ref ki, .ref on, .ref ot])), (ki, .inl (cK, 600, .inl f_372)), (on, .inl (cO, 600, .inr (.inl f_373))), (ot, .inl (cT, 600, .inr (.inl f_374)))]) [4, 5, 6, 0, 1, 2, 3] (by decide) rfl
        have hK := hK.sub (tys' := [(cB, .byte), (cK, .int), (cO, .long), (cT, .long)]) [3, 0, 1, 2] rfl
        have hP : va_P (dC, dI) vwCl [(rd, .inr (0, [.ref tp, .ref sc, .int o0_599, .int o1_600, .int o2_601, .int o3_602, .int o4_603, .int o5_604, .int o6_605])), (tp, .inr (6, [.ref tb, .int ts])), (tb, .inl (cB, 1200, .inl fb)), (sc, .inr (3, [.int sn, .int sb, .int si, .int sw, .int y_371, .ref en, .ref ki, .ref on, .ref ot])), (ki, .inl (cK, 600, .inl f_372)), (on, .inl (cO, 600, .inr (.inl f_373))), (ot, .inl (cT, 600, .inr (.inl f_374)))] H := hP
        have hD : va_D A [(rd, .inr (0, [.ref tp, .ref sc, .int o0_599, .int o1_600, .int o2_601, .int o3_602, .int o4_603, .int o5_604, .int o6_605])), (tp, .inr (6, [.ref tb, .int ts])), (tb, .inl (cB, 1200, .inl fb)), (sc, .inr (3, [.int sn, .int sb, .int si, .int sw, .int y_371, .ref en, .ref ki, .ref on, .ref ot])), (ki, .inl (cK, 600, .inl f_372)), (on, .inl (cO, 600, .inr (.inl f_373))), (ot, .inl (cT, 600, .inr (.inl f_374)))] := hD
        have hK : va_K (dC, dI) vwCl [(cB, .byte), (cK, .int), (cO, .long), (cT, .long)] s := hK
        refine lv_aload_n hx hb dX1_readPart_33 rfl (lv_at hl 1 rfl) ?_
        refine lv_iload_n hx hb dX1_readPart_34 rfl (lv_at hl 2 rfl) ?_
        have hFc := va_free (wc := [(rd, .inr (0, [.ref tp, .ref sc, .int o0_599, .int o1_600, .int o2_601, .int o3_602, .int o4_603, .int o5_604, .int o6_605])), (tp, .inr (6, [.ref tb, .int ts])), (tb, .inl (cB, 1200, .inl fb)), (sc, .inr (3, [.int sn, .int sb, .int si, .int sw, .int y_371, .ref en, .ref ki, .ref on, .ref ot])), (ki, .inl (cK, 600, .inl f_372)), (on, .inl (cO, 600, .inr (.inl f_373))), (ot, .inl (cT, 600, .inr (.inl f_374)))]) hD hS hA [0, 1, 2, 3, 4, 5, 6] rfl
        refine va_callv (va_runV (As := [.int 6]) (rest := []) ⟨hx, hb, hml, hown, hts⟩ (kX1_readKind6 l dC dI rd o0_599 o1_600 o2_601 o3_602 o4_603 o5_604 o6_605 tp tb ts cB fb sc sn sb si sw y_371 en ki on ot cK f_372 cO f_373 cT f_374 n0 (H.size) b_o0_599 b_o1_600 b_o2_601 b_o3_602 b_o4_603 b_ts b_sn b_sb b_si b_sw b_y_371 (by omega)) (cwV 1 hts gX1_readPart6__X1_readKind6_V114 rfl rfl rfl hd_yX1_readKind ⟨lel 8 8 rfl, lel 175 175 rfl⟩) ⟨hx_fb, rcv_X1 hK hP (q0 := 0) rfl, (hx_use hP hD hK hN hX hS hAn hn0 [0, 1, 2, 3, 4, 5, 6] rfl (by decide) rfl [0, 1, 2, 3] rfl tts_0)⟩ rfl rfl hl.1 rfl (lv_room (Nat.le_of_ble_eq_true rfl)) dX1_readPart_35 ⟨lel 0 0 rfl, lel 0 0 rfl⟩) hS (fun q _ h => hFc q h) hFc (fun u_608 t H1 locs ht hvm hw_r_607 hB hz1 hk1 hS => ?_)
        obtain ⟨o0_609, o1_610, o2_611, o3_612, o4_613, o5_614, o6_615, o7_616, o8_617, o9_618, b_o0_609, b_o1_610, b_o2_611, b_o3_612, b_o4_613, b_o6_615, hf_619, hP1, hK1, hD1⟩ := hB
        rw [ht] at hP1
        have hK1 := va_K.moved hvm.symm hK1
        obtain ⟨hP, hD⟩ := va_join (wr := []) (w1 := [(rd, .inr (0, [.ref tp, .ref sc, .int o0_609, .int o1_610, .int o2_611, .int o3_612, .int o4_613, .int o5_614, .int o6_605])), (tp, .inr (6, [.ref tb, .int ts])), (tb, .inl (cB, 1200, .inl fb)), (sc, .inr (3, [.int sn, .int sb, .int si, .int sw, .int o6_615, .ref en, .ref ki, .ref on, .ref ot])), (ki, .inl (cK, 600, .inl o7_616)), (on, .inl (cO, 600, .inr (.inl o8_617))), (ot, .inl (cT, 600, .inr (.inl o9_618)))]) hP hD [0, 1, 2, 3, 4, 5, 6] [] rfl rfl (by decide) (by decide) hk1 hFc hP1 hD1
        have hK := (hK.sub (tys' := []) [] rfl).app hK1
        generalize H1 = H at hP hS ⊢
        have hP : va_P (dC, dI) vwCl [(rd, .inr (0, [.ref tp, .ref sc, .int o0_609, .int o1_610, .int o2_611, .int o3_612, .int o4_613, .int o5_614, .int o6_605])), (tp, .inr (6, [.ref tb, .int ts])), (tb, .inl (cB, 1200, .inl fb)), (sc, .inr (3, [.int sn, .int sb, .int si, .int sw, .int o6_615, .ref en, .ref ki, .ref on, .ref ot])), (ki, .inl (cK, 600, .inl o7_616)), (on, .inl (cO, 600, .inr (.inl o8_617))), (ot, .inl (cT, 600, .inr (.inl o9_618)))] H := hP
        have hD : va_D A [(rd, .inr (0, [.ref tp, .ref sc, .int o0_609, .int o1_610, .int o2_611, .int o3_612, .int o4_613, .int o5_614, .int o6_605])), (tp, .inr (6, [.ref tb, .int ts])), (tb, .inl (cB, 1200, .inl fb)), (sc, .inr (3, [.int sn, .int sb, .int si, .int sw, .int o6_615, .ref en, .ref ki, .ref on, .ref ot])), (ki, .inl (cK, 600, .inl o7_616)), (on, .inl (cO, 600, .inr (.inl o8_617))), (ot, .inl (cT, 600, .inr (.inl o9_618)))] := hD
        have hK : va_K (dC, dI) vwCl [(cB, .byte), (cK, .int), (cO, .long), (cT, .long)] s := hK
        refine lv_aload_n hx hb dX1_readPart_38 rfl (lv_at hl 1 rfl) ?_
        refine va_get (D := (dC, dI)) (ci := 0) (v := .ref sc) (C := RX1) (T := TX1) (N := 9) hx hb hts iX1_readPart6_X1 hown hK hP 0 rfl rfl 1 (by decide) (hts (.fieldLink RX1 19 "LuckyTicket$Reader" "script" "LLuckyTicket$Script;") (List.mem_of_getElem? (i := 12) rfl)) (fun _ h9 => h9) rfl dX1_readPart_39 ?_
        refine lv_bipush (v := 8) hx hb dX1_readPart_42 (by decide) ?_
        refine lv_lconst (v := 0) hx hb dX1_readPart_44 (by decide) ?_
        refine lv_lconst (v := 0) hx hb dX1_readPart_45 (by decide) ?_
        have hFc := va_free (wc := [(sc, .inr (3, [.int sn, .int sb, .int si, .int sw, .int o6_615, .ref en, .ref ki, .ref on, .ref ot])), (ki, .inl (cK, 600, .inl o7_616)), (on, .inl (cO, 600, .inr (.inl o8_617))), (ot, .inl (cT, 600, .inr (.inl o9_618)))]) hD hS hA [3, 4, 5, 6] rfl
        refine va_callv (va_runV (As := [.int 8, .long 0, .long 0]) (rest := []) ⟨hx, hb, hml, hown, hts⟩ (kX4_add l dC dI sc sn sb si sw o6_615 en ki on ot cK o7_616 cO o8_617 cT o9_618 8 0 0 (H.size) b_sn b_sb b_si b_sw b_o6_615) (cwV 3 hts gX1_readPart6__X4_add_V110 rfl rfl rfl hd_yX4_add ⟨lel 1 8 rfl, lel 25 175 rfl⟩) ⟨hw_fb, rcv_X4 hK hP (q0 := 3) rfl, (hw_use hP hD hK hN [3, 4, 5, 6] rfl (by decide) rfl [1, 2, 3] rfl)⟩ rfl rfl hl.1 rfl (lv_room (Nat.le_of_ble_eq_true rfl)) dX1_readPart_46 ⟨lel 0 0 rfl, lel 0 0 rfl⟩) hS (fun q _ h => hFc q h) hFc (fun u_621 t H1 locs ht hvm hw_r_620 hB hz1 hk1 hS => ?_)
        obtain ⟨o0_622, o1_623, o2_624, o3_625, b_o0_622, hP1, hK1, hD1⟩ := hB
        rw [ht] at hP1
        have hK1 := va_K.moved hvm.symm hK1
        obtain ⟨hP, hD⟩ := va_join (wr := [(rd, .inr (0, [.ref tp, .ref sc, .int o0_609, .int o1_610, .int o2_611, .int o3_612, .int o4_613, .int o5_614, .int o6_605])), (tp, .inr (6, [.ref tb, .int ts])), (tb, .inl (cB, 1200, .inl fb))]) (w1 := [(sc, .inr (3, [.int sn, .int sb, .int si, .int sw, .int o0_622, .ref en, .ref ki, .ref on, .ref ot])), (ki, .inl (cK, 600, .inl o1_623)), (on, .inl (cO, 600, .inr (.inl o2_624))), (ot, .inl (cT, 600, .inr (.inl o3_625)))]) hP hD [3, 4, 5, 6] [0, 1, 2] rfl rfl (by decide) (by decide) hk1 hFc hP1 hD1
        have hK := (hK.sub (tys' := [(cB, .byte)]) [0] rfl).app hK1
        generalize H1 = H at hP hS ⊢
        have hP : va_P (dC, dI) vwCl [(rd, .inr (0, [.ref tp, .ref sc, .int o0_609, .int o1_610, .int o2_611, .int o3_612, .int o4_613, .int o5_614, .int o6_605])), (tp, .inr (6, [.ref tb, .int ts])), (tb, .inl (cB, 1200, .inl fb)), (sc, .inr (3, [.int sn, .int sb, .int si, .int sw, .int o0_622, .ref en, .ref ki, .ref on, .ref ot])), (ki, .inl (cK, 600, .inl o1_623)), (on, .inl (cO, 600, .inr (.inl o2_624))), (ot, .inl (cT, 600, .inr (.inl o3_625)))] H := hP
        have hD : va_D A [(rd, .inr (0, [.ref tp, .ref sc, .int o0_609, .int o1_610, .int o2_611, .int o3_612, .int o4_613, .int o5_614, .int o6_605])), (tp, .inr (6, [.ref tb, .int ts])), (tb, .inl (cB, 1200, .inl fb)), (sc, .inr (3, [.int sn, .int sb, .int si, .int sw, .int o0_622, .ref en, .ref ki, .ref on, .ref ot])), (ki, .inl (cK, 600, .inl o1_623)), (on, .inl (cO, 600, .inr (.inl o2_624))), (ot, .inl (cT, 600, .inr (.inl o3_625)))] := hD
        have hK : va_K (dC, dI) vwCl [(cB, .byte), (cK, .int), (cO, .long), (cT, .long)] s := hK
        obtain ⟨z_626, e_z_626⟩ : ∃ y : Int32, y = y_363 + 1 := ⟨_, rfl⟩
        refine lv_iinc (v := z_626) (lv' := [(2, .int z_626), (0, .ref rd), (1, .int 6)]) hx hb dX1_readPart_49 hl (k := 0) rfl (by rw [e_z_626]; rfl) (by decide) rfl (fun ls hl => ?_)
        obtain ⟨q_z_626, b_z_626⟩ := ti_add (lo := 1) (hi := 25) e_z_626 rfl (by decide : (1 : Int32).toInt = 1) b_y_363 (by decide : (1 : Int) ≤ (1 : Int32).toInt ∧ (1 : Int32).toInt ≤ 1) (by decide)
        refine lv_goto (tgt := 7) hx hb dX1_readPart_52 (by decide) ?_
        exact ih_7_590 (z_626, o0_609, o1_610, o2_611, o3_612, o4_613, o5_614, o6_605, o0_622, o1_623, o2_624, o3_625) _ _ _ ⟨(show (0 : Int) ≤ z_626.toInt ∧ z_626.toInt ≤ 25 from (rg_w b_z_626 (by decide) (by decide))), (show (0 : Int) ≤ o0_609.toInt ∧ o0_609.toInt ≤ 3 from b_o0_609), (show (-1 : Int) ≤ o1_610.toInt ∧ o1_610.toInt ≤ 1200 from b_o1_610), (show (0 : Int) ≤ o2_611.toInt ∧ o2_611.toInt ≤ 4 from b_o2_611), (show (0 : Int) ≤ o3_612.toInt ∧ o3_612.toInt ≤ 1200 from b_o3_612), (show (0 : Int) ≤ o4_613.toInt ∧ o4_613.toInt ≤ 1200 from b_o4_613), (show (0 : Int) ≤ o0_622.toInt ∧ o0_622.toInt ≤ 600 from (rg_w b_o0_622 (by decide) (by decide))), (show o3_612.toInt ≤ o4_613.toInt from (by have zl : (6 : Int32).toInt = 6 := (by decide); omega)), hP, hD, hS, lv_sub hl [0, 1, 2] rfl⟩ (show (25 - z_626.toInt).toNat < (25 - y_363.toInt).toNat by omega)
theorem dX1_readLaw_0 : decode cX1_readLaw 0 = .ok (.aload_n 0, 1) := by decide +kernel
theorem dX1_readLaw_1 : decode cX1_readLaw 1 = .ok (.iload_n 1, 1) := by decide +kernel
theorem dX1_readLaw_2 : decode cX1_readLaw 2 = .ok (.invokevirtual 102, 3) := by decide +kernel
theorem dX1_readLaw_5 : decode cX1_readLaw 5 = .ok (.iconst 0, 1) := by decide +kernel
theorem dX1_readLaw_6 : decode cX1_readLaw 6 = .ok (.istore_n 2, 1) := by decide +kernel
theorem dX1_readLaw_7 : decode cX1_readLaw 7 = .ok (.iload_n 2, 1) := by decide +kernel
theorem dX1_readLaw_8 : decode cX1_readLaw 8 = .ok (.bipush 24, 2) := by decide +kernel
theorem dX1_readLaw_10 : decode cX1_readLaw 10 = .ok (.if_icmp .gt 45, 3) := by decide +kernel
theorem dX1_readLaw_13 : decode cX1_readLaw 13 = .ok (.aload_n 0, 1) := by decide +kernel
theorem dX1_readLaw_14 : decode cX1_readLaw 14 = .ok (.getfield 23, 3) := by decide +kernel
theorem dX1_readLaw_17 : decode cX1_readLaw 17 = .ok (.ifCond .ne 38, 3) := by decide +kernel
theorem dX1_readLaw_20 : decode cX1_readLaw 20 = .ok (.aload_n 0, 1) := by decide +kernel
theorem dX1_readLaw_21 : decode cX1_readLaw 21 = .ok (.ldc 105, 2) := by decide +kernel
theorem dX1_readLaw_23 : decode cX1_readLaw 23 = .ok (.invokevirtual 89, 3) := by decide +kernel
theorem dX1_readLaw_26 : decode cX1_readLaw 26 = .ok (.ifCond .eq 29, 3) := by decide +kernel
theorem dX1_readLaw_29 : decode cX1_readLaw 29 = .ok (.aload_n 0, 1) := by decide +kernel
theorem dX1_readLaw_30 : decode cX1_readLaw 30 = .ok (.invokevirtual 107, 3) := by decide +kernel
theorem dX1_readLaw_33 : decode cX1_readLaw 33 = .ok (.aload_n 0, 1) := by decide +kernel
theorem dX1_readLaw_34 : decode cX1_readLaw 34 = .ok (.iload_n 1, 1) := by decide +kernel
theorem dX1_readLaw_35 : decode cX1_readLaw 35 = .ok (.invokevirtual 102, 3) := by decide +kernel
theorem dX1_readLaw_38 : decode cX1_readLaw 38 = .ok (.aload_n 0, 1) := by decide +kernel
theorem dX1_readLaw_39 : decode cX1_readLaw 39 = .ok (.getfield 19, 3) := by decide +kernel
theorem dX1_readLaw_42 : decode cX1_readLaw 42 = .ok (.bipush 9, 2) := by decide +kernel
theorem dX1_readLaw_44 : decode cX1_readLaw 44 = .ok (.lconst 0, 1) := by decide +kernel
theorem dX1_readLaw_45 : decode cX1_readLaw 45 = .ok (.lconst 0, 1) := by decide +kernel
theorem dX1_readLaw_46 : decode cX1_readLaw 46 = .ok (.invokevirtual 110, 3) := by decide +kernel
theorem dX1_readLaw_49 : decode cX1_readLaw 49 = .ok (.iinc 2 1, 3) := by decide +kernel
theorem dX1_readLaw_52 : decode cX1_readLaw 52 = .ok (.goto (-45), 3) := by decide +kernel
theorem dX1_readLaw_55 : decode cX1_readLaw 55 = .ok (.return_, 1) := by decide +kernel
theorem hd_yX1_readLaw : yX1_readLaw.cls = RX1 ∧ yX1_readLaw.cls ≠ "java/lang/invoke/MethodHandle" ∧ yX1_readLaw.cls ≠ "java/lang/invoke/VarHandle" ∧ (parseMethodDescriptor yX1_readLaw.desc).map (fun d => d.parameters.length) = some 1 := by decide +kernel
def uX1_readLaw6 : List Cond := List.cons (.code yX1_readLaw cX1_readLaw 3 none) (HAppend.hAppend ([.methodLink RX1 102 yX1_readPart, .instanceMethod yX1_readPart, .selects RX1 yX1_readPart yX1_readPart, .initialized RX1, .fieldLink RX1 23 "LuckyTicket$Reader" "fault" "I", .methodLink RX1 89 yX1_isWord, .instanceMethod yX1_isWord, .selects RX1 yX1_isWord yX1_isWord, .methodLink RX1 107 yX1_passJoin, .instanceMethod yX1_passJoin, .selects RX1 yX1_passJoin yX1_passJoin, .fieldLink RX1 19 "LuckyTicket$Reader" "script" "LLuckyTicket$Script;", .methodLink RX1 110 yX4_add, .instanceMethod yX4_add, .selects RX4 yX4_add yX4_add, .initialized RX4] : List Cond) (HAppend.hAppend uX1_readPart6 (HAppend.hAppend uX1_isWord (HAppend.hAppend uX1_passJoin (HAppend.hAppend uX4_add wsX10)))))
theorem iX1_readLaw6_X1 : ∀ w ∈ wsX10, w ∈ uX1_readLaw6 := fun _ h => (List.mem_cons_of_mem _ (List.mem_append_right _ (List.mem_append_right _ (List.mem_append_right _ (List.mem_append_right _ (List.mem_append_right _ h))))))
theorem guX1_readLaw6 : GU uX1_readLaw6 := gu_cons (gu_app (by decide +kernel) (gu_ap guX1_readPart6 (gu_ap guX1_isWord (gu_ap guX1_passJoin (gu_ap guX4_add gws_X1)))))
theorem gX1_readLaw6__X1_readPart6_V102 : GoodIn uX1_readLaw6 (wsV RX1 102 RX1 yX1_readPart uX1_readPart6) := gin_V (List.mem_of_getElem? (i := 1) rfl) (List.mem_of_getElem? (i := 2) rfl) (List.mem_of_getElem? (i := 3) rfl) (List.mem_of_getElem? (i := 4) rfl) (fun _ h => (List.mem_cons_of_mem _ (List.mem_append_right _ (List.mem_append_left _ h)))) guX1_readPart6
theorem gX1_readLaw6__X1_isWord_V89 : GoodIn uX1_readLaw6 (wsV RX1 89 RX1 yX1_isWord uX1_isWord) := gin_V (List.mem_of_getElem? (i := 6) rfl) (List.mem_of_getElem? (i := 7) rfl) (List.mem_of_getElem? (i := 8) rfl) (List.mem_of_getElem? (i := 4) rfl) (fun _ h => (List.mem_cons_of_mem _ (List.mem_append_right _ (List.mem_append_right _ (List.mem_append_left _ h))))) guX1_isWord
theorem gX1_readLaw6__X1_passJoin_V107 : GoodIn uX1_readLaw6 (wsV RX1 107 RX1 yX1_passJoin uX1_passJoin) := gin_V (List.mem_of_getElem? (i := 9) rfl) (List.mem_of_getElem? (i := 10) rfl) (List.mem_of_getElem? (i := 11) rfl) (List.mem_of_getElem? (i := 4) rfl) (fun _ h => (List.mem_cons_of_mem _ (List.mem_append_right _ (List.mem_append_right _ (List.mem_append_right _ (List.mem_append_left _ h)))))) guX1_passJoin
theorem gX1_readLaw6__X4_add_V110 : GoodIn uX1_readLaw6 (wsV RX1 110 RX4 yX4_add uX4_add) := gin_V (List.mem_of_getElem? (i := 13) rfl) (List.mem_of_getElem? (i := 14) rfl) (List.mem_of_getElem? (i := 15) rfl) (List.mem_of_getElem? (i := 16) rfl) (fun _ h => (List.mem_cons_of_mem _ (List.mem_append_right _ (List.mem_append_right _ (List.mem_append_right _ (List.mem_append_right _ (List.mem_append_left _ h))))))) guX4_add
set_option maxHeartbeats 4000000 in
set_option maxRecDepth 100000 in
theorem kX1_readLaw6 (l : Launch) (dC : Nat → ClassId) (dI : Nat → Nat → Nat) (rd : Nat) (xf : Int32) (xp : Int32) (xt : Int32) (xa : Int32) (xo : Int32) (xv : Int32) (xj : Int32) (tp : Nat) (tb : Nat) (ts : Int32) (cB : ClassId) (fb : Nat → Int32) (sc : Nat) (sn : Int32) (sb : Int32) (si : Int32) (sw : Int32) (ss : Int32) (en : Nat) (ki : Nat) (on : Nat) (ot : Nat) (cK : ClassId) (fk : Nat → Int32) (cO : ClassId) (fo : Nat → Int64) (cT : ClassId) (ft : Nat → Int64) (n0 : Nat) (sz : Nat) (b_xf : (0 : Int) ≤ xf.toInt ∧ xf.toInt ≤ 3) (b_xp : (-1 : Int) ≤ xp.toInt ∧ xp.toInt ≤ 1200) (b_xt : (0 : Int) ≤ xt.toInt ∧ xt.toInt ≤ 4) (b_xa : (0 : Int) ≤ xa.toInt ∧ xa.toInt ≤ 1200) (b_xo : (0 : Int) ≤ xo.toInt ∧ xo.toInt ≤ 1200) (b_ts : (0 : Int) ≤ ts.toInt ∧ ts.toInt ≤ 1200) (b_sn : (0 : Int) ≤ sn.toInt ∧ sn.toInt ≤ 12) (b_sb : (0 : Int) ≤ sb.toInt ∧ sb.toInt ≤ 16) (b_si : (0 : Int) ≤ si.toInt ∧ si.toInt ≤ 1300) (b_sw : (0 : Int) ≤ sw.toInt ∧ sw.toInt ≤ 9) (b_ss : (0 : Int) ≤ ss.toInt ∧ ss.toInt ≤ 600) (hrd : xa.toInt ≤ xo.toInt) : Met l yX1_readLaw uX1_readLaw6 ({ frames := 9, cells := 0, slots := 0, locals := 197 }) (va_Pc [.ref rd, .int 6] (hx_ (dC, dI) vwCl [(rd, .inr (0, [.ref tp, .ref sc, .int xf, .int xp, .int xt, .int xa, .int xo, .int xv, .int xj])), (tp, .inr (6, [.ref tb, .int ts])), (tb, .inl (cB, 1200, .inl fb)), (sc, .inr (3, [.int sn, .int sb, .int si, .int sw, .int ss, .ref en, .ref ki, .ref on, .ref ot])), (ki, .inl (cK, 600, .inl fk)), (on, .inl (cO, 600, .inr (.inl fo))), (ot, .inl (cT, 600, .inr (.inl ft)))] [(cB, .byte), (cK, .int), (cO, .long), (cT, .long)] sz n0 [])) (va_Qv (fun (_ : Unit) => True) (fun (_ : Unit) t => ∃ (o0_ : Int32) (o1_ : Int32) (o2_ : Int32) (o3_ : Int32) (o4_ : Int32) (o5_ : Int32) (o6_ : Int32) (o7_ : Int32) (o8_ : Nat → Int32) (o9_ : Nat → Int64) (o10_ : Nat → Int64), ((0 : Int) ≤ o0_.toInt ∧ o0_.toInt ≤ 3) ∧ ((-1 : Int) ≤ o1_.toInt ∧ o1_.toInt ≤ 1200) ∧ ((0 : Int) ≤ o2_.toInt ∧ o2_.toInt ≤ 4) ∧ ((0 : Int) ≤ o3_.toInt ∧ o3_.toInt ≤ 1200) ∧ ((0 : Int) ≤ o4_.toInt ∧ o4_.toInt ≤ 1200) ∧ ((0 : Int) ≤ o7_.toInt ∧ o7_.toInt ≤ 600) ∧ (o3_.toInt ≤ o4_.toInt) ∧ va_P (dC, dI) vwCl [(rd, .inr (0, [.ref tp, .ref sc, .int o0_, .int o1_, .int o2_, .int o3_, .int o4_, .int o5_, .int o6_])), (tp, .inr (6, [.ref tb, .int ts])), (tb, .inl (cB, 1200, .inl fb)), (sc, .inr (3, [.int sn, .int sb, .int si, .int sw, .int o7_, .ref en, .ref ki, .ref on, .ref ot])), (ki, .inl (cK, 600, .inl o8_)), (on, .inl (cO, 600, .inr (.inl o9_))), (ot, .inl (cT, 600, .inr (.inl o10_)))] t.heap ∧ va_K (dC, dI) vwCl [(cB, .byte), (cK, .int), (cO, .long), (cT, .long)] t ∧ va_D (va_A [(rd, .inr (0, [.ref tp, .ref sc, .int xf, .int xp, .int xt, .int xa, .int xo, .int xv, .int xj])), (tp, .inr (6, [.ref tb, .int ts])), (tb, .inl (cB, 1200, .inl fb)), (sc, .inr (3, [.int sn, .int sb, .int si, .int sw, .int ss, .ref en, .ref ki, .ref on, .ref ot])), (ki, .inl (cK, 600, .inl fk)), (on, .inl (cO, 600, .inr (.inl fo))), (ot, .inl (cT, 600, .inr (.inl ft)))] sz) [(rd, .inr (0, [.ref tp, .ref sc, .int o0_, .int o1_, .int o2_, .int o3_, .int o4_, .int o5_, .int o6_])), (tp, .inr (6, [.ref tb, .int ts])), (tb, .inl (cB, 1200, .inl fb)), (sc, .inr (3, [.int sn, .int sb, .int si, .int sw, .int o7_, .ref en, .ref ki, .ref on, .ref ot])), (ki, .inl (cK, 600, .inl o8_)), (on, .inl (cO, 600, .inr (.inl o9_))), (ot, .inl (cT, 600, .inr (.inl o10_)))]) (va_A [(rd, .inr (0, [.ref tp, .ref sc, .int xf, .int xp, .int xt, .int xa, .int xo, .int xv, .int xj])), (tp, .inr (6, [.ref tb, .int ts])), (tb, .inl (cB, 1200, .inl fb)), (sc, .inr (3, [.int sn, .int sb, .int si, .int sw, .int ss, .ref en, .ref ki, .ref on, .ref ot])), (ki, .inl (cK, 600, .inl fk)), (on, .inl (cO, 600, .inr (.inl fo))), (ot, .inl (cT, 600, .inr (.inl ft)))] sz)) 0 0 (va_A [(rd, .inr (0, [.ref tp, .ref sc, .int xf, .int xp, .int xt, .int xa, .int xo, .int xv, .int xj])), (tp, .inr (6, [.ref tb, .int ts])), (tb, .inl (cB, 1200, .inl fb)), (sc, .inr (3, [.int sn, .int sb, .int si, .int sw, .int ss, .ref en, .ref ki, .ref on, .ref ot])), (ki, .inl (cK, 600, .inl fk)), (on, .inl (cO, 600, .inr (.inl fo))), (ot, .inl (cT, 600, .inr (.inl ft)))] sz) := by
  refine Met.ofW (cc := cX1_readLaw) (maxL := 3) (ret := none) pn_X1 rfl ?_
  intro p e s m args below meth c s₁ B hml hv
  obtain ⟨rfl, ⟨hsz, hP, hK, hD0, hN⟩, hn0, hDn, hX, hTx⟩ := hv
  have hx := B.exec
  have hb := B.bytes
  have hr := B.returns
  have hts := atoms_spec (ws := uX1_readLaw6) B.pre
  have hown : s.vm.findClass RX1 = some m.cls := hown_of B.named rfl
  have hlocks := B.notSynchronized
  subst hsz
  have hD := hD0.self (sz := s.heap.size)
  have hAn : ∀ q, va_A [(rd, .inr (0, [.ref tp, .ref sc, .int xf, .int xp, .int xt, .int xa, .int xo, .int xv, .int xj])), (tp, .inr (6, [.ref tb, .int ts])), (tb, .inl (cB, 1200, .inl fb)), (sc, .inr (3, [.int sn, .int sb, .int si, .int sw, .int ss, .ref en, .ref ki, .ref on, .ref ot])), (ki, .inl (cK, 600, .inl fk)), (on, .inl (cO, 600, .inr (.inl fo))), (ot, .inl (cT, 600, .inr (.inl ft)))] s.heap.size q → n0 ≤ q := fun q h => h.elim (fun ⟨k, e, hk⟩ => hDn.2 k (q, e) hk) (fun h => Nat.le_trans hn0 h)
  generalize hAe : va_A [(rd, .inr (0, [.ref tp, .ref sc, .int xf, .int xp, .int xt, .int xa, .int xo, .int xv, .int xj])), (tp, .inr (6, [.ref tb, .int ts])), (tb, .inl (cB, 1200, .inl fb)), (sc, .inr (3, [.int sn, .int sb, .int si, .int sw, .int ss, .ref en, .ref ki, .ref on, .ref ot])), (ki, .inl (cK, 600, .inl fk)), (on, .inl (cO, 600, .inr (.inl fo))), (ot, .inl (cT, 600, .inr (.inl ft)))] s.heap.size = A at hD hAn ⊢
  have hA : ∀ q : Nat, s.heap.size ≤ q → A q := fun q h => by rw [← hAe]; exact Or.inr h
  have hS : va_S A s.heap s.heap [] := va_S.rf
  have hP : va_P (dC, dI) vwCl [(rd, .inr (0, [.ref tp, .ref sc, .int xf, .int xp, .int xt, .int xa, .int xo, .int xv, .int xj])), (tp, .inr (6, [.ref tb, .int ts])), (tb, .inl (cB, 1200, .inl fb)), (sc, .inr (3, [.int sn, .int sb, .int si, .int sw, .int ss, .ref en, .ref ki, .ref on, .ref ot])), (ki, .inl (cK, 600, .inl fk)), (on, .inl (cO, 600, .inr (.inl fo))), (ot, .inl (cT, 600, .inr (.inl ft)))] s.heap := hP
  obtain ⟨tq_105, tf_105, hR_105, ht_105⟩ := hX.2.2.1 (RX1, 105, "or", 2) (List.mem_of_getElem? (i := 4) rfl)
  have hR_105 : vk_R RX1 105 "or" tq_105 s := hR_105
  have ht_105 : txt n0 tq_105 2 tf_105 s := ht_105
  have hl := lv_entry ([.ref rd, .int 6]) (n := 3) (Nat.le_of_ble_eq_true rfl)
  rw [lg_entry_eq]
  generalize (lg_sl ([.ref rd, .int 6]) ++ List.replicate (3 - (lg_sl ([.ref rd, .int 6])).length) Slot.unset).toArray = ls at hl ⊢
  have hl : lv_has ls 3 [(0, .ref rd), (1, .int 6)] := hl
  refine lv_aload_n hx hb dX1_readLaw_0 rfl (lv_at hl 0 rfl) ?_
  refine lv_iload_n hx hb dX1_readLaw_1 rfl (lv_at hl 1 rfl) ?_
  have hFc := va_free (wc := [(rd, .inr (0, [.ref tp, .ref sc, .int xf, .int xp, .int xt, .int xa, .int xo, .int xv, .int xj])), (tp, .inr (6, [.ref tb, .int ts])), (tb, .inl (cB, 1200, .inl fb)), (sc, .inr (3, [.int sn, .int sb, .int si, .int sw, .int ss, .ref en, .ref ki, .ref on, .ref ot])), (ki, .inl (cK, 600, .inl fk)), (on, .inl (cO, 600, .inr (.inl fo))), (ot, .inl (cT, 600, .inr (.inl ft)))]) hD hS hA [0, 1, 2, 3, 4, 5, 6] rfl
  refine va_callv (va_runV (As := [.int 6]) (rest := []) ⟨hx, hb, hml, hown, hts⟩ (kX1_readPart6 l dC dI rd xf xp xt xa xo xv xj tp tb ts cB fb sc sn sb si sw ss en ki on ot cK fk cO fo cT ft n0 (s.heap.size) b_xf b_xp b_xt b_xa b_xo b_ts b_sn b_sb b_si b_sw b_ss (by omega)) (cwV 1 hts gX1_readLaw6__X1_readPart6_V102 rfl rfl rfl hd_yX1_readPart ⟨lel 9 9 rfl, lel 197 197 rfl⟩) ⟨hx_fb, rcv_X1 hK hP (q0 := 0) rfl, (hx_use hP hD hK hN hX hS hAn hn0 [0, 1, 2, 3, 4, 5, 6] rfl (by decide) rfl [0, 1, 2, 3] rfl tts_0)⟩ rfl rfl hl.1 rfl (lv_room (Nat.le_of_ble_eq_true rfl)) dX1_readLaw_2 ⟨lel 0 0 rfl, lel 0 0 rfl⟩) hS (fun q _ h => hFc q h) hFc (fun u_324 t H1 locs ht hvm hw_r_323 hB hz1 hk1 hS => ?_)
  obtain ⟨o0_325, o1_326, o2_327, o3_328, o4_329, o5_330, o6_331, o7_332, o8_333, o9_334, o10_335, b_o0_325, b_o1_326, b_o2_327, b_o3_328, b_o4_329, b_o7_332, hf_336, hP1, hK1, hD1⟩ := hB
  rw [ht] at hP1
  have hK1 := va_K.moved hvm.symm hK1
  obtain ⟨hP, hD⟩ := va_join (wr := []) (w1 := [(rd, .inr (0, [.ref tp, .ref sc, .int o0_325, .int o1_326, .int o2_327, .int o3_328, .int o4_329, .int o5_330, .int o6_331])), (tp, .inr (6, [.ref tb, .int ts])), (tb, .inl (cB, 1200, .inl fb)), (sc, .inr (3, [.int sn, .int sb, .int si, .int sw, .int o7_332, .ref en, .ref ki, .ref on, .ref ot])), (ki, .inl (cK, 600, .inl o8_333)), (on, .inl (cO, 600, .inr (.inl o9_334))), (ot, .inl (cT, 600, .inr (.inl o10_335)))]) hP hD [0, 1, 2, 3, 4, 5, 6] [] rfl rfl (by decide) (by decide) hk1 hFc hP1 hD1
  have hK := (hK.sub (tys' := []) [] rfl).app hK1
  generalize H1 = H at hP hS ⊢
  have hP : va_P (dC, dI) vwCl [(rd, .inr (0, [.ref tp, .ref sc, .int o0_325, .int o1_326, .int o2_327, .int o3_328, .int o4_329, .int o5_330, .int o6_331])), (tp, .inr (6, [.ref tb, .int ts])), (tb, .inl (cB, 1200, .inl fb)), (sc, .inr (3, [.int sn, .int sb, .int si, .int sw, .int o7_332, .ref en, .ref ki, .ref on, .ref ot])), (ki, .inl (cK, 600, .inl o8_333)), (on, .inl (cO, 600, .inr (.inl o9_334))), (ot, .inl (cT, 600, .inr (.inl o10_335)))] H := hP
  have hD : va_D A [(rd, .inr (0, [.ref tp, .ref sc, .int o0_325, .int o1_326, .int o2_327, .int o3_328, .int o4_329, .int o5_330, .int o6_331])), (tp, .inr (6, [.ref tb, .int ts])), (tb, .inl (cB, 1200, .inl fb)), (sc, .inr (3, [.int sn, .int sb, .int si, .int sw, .int o7_332, .ref en, .ref ki, .ref on, .ref ot])), (ki, .inl (cK, 600, .inl o8_333)), (on, .inl (cO, 600, .inr (.inl o9_334))), (ot, .inl (cT, 600, .inr (.inl o10_335)))] := hD
  have hK : va_K (dC, dI) vwCl [(cB, .byte), (cK, .int), (cO, .long), (cT, .long)] s := hK
  refine lv_iconst (v := 0) hx hb dX1_readLaw_5 (by decide) ?_
  refine lv_istore_n (lv' := [(2, .int 0), (0, .ref rd), (1, .int 6)]) hx hb dX1_readLaw_6 rfl hl (by decide) rfl (fun ls hl => ?_)
  refine loopW (σ := Int32 × Int32 × Int32 × Int32 × Int32 × Int32 × Int32 × Int32 × Int32 × (Nat → Int32) × (Nat → Int64) × (Nat → Int64)) (fun v => (25 - v.1.toInt).toNat) (fun v H locs ls => ((0 : Int) ≤ v.1.toInt ∧ v.1.toInt ≤ 25) ∧ ((0 : Int) ≤ v.2.1.toInt ∧ v.2.1.toInt ≤ 3) ∧ ((-1 : Int) ≤ v.2.2.1.toInt ∧ v.2.2.1.toInt ≤ 1200) ∧ ((0 : Int) ≤ v.2.2.2.1.toInt ∧ v.2.2.2.1.toInt ≤ 4) ∧ ((0 : Int) ≤ v.2.2.2.2.1.toInt ∧ v.2.2.2.2.1.toInt ≤ 1200) ∧ ((0 : Int) ≤ v.2.2.2.2.2.1.toInt ∧ v.2.2.2.2.2.1.toInt ≤ 1200) ∧ ((0 : Int) ≤ v.2.2.2.2.2.2.2.2.1.toInt ∧ v.2.2.2.2.2.2.2.2.1.toInt ≤ 600) ∧ (v.2.2.2.2.1.toInt ≤ v.2.2.2.2.2.1.toInt) ∧ va_P (dC, dI) vwCl [(rd, .inr (0, [.ref tp, .ref sc, .int v.2.1, .int v.2.2.1, .int v.2.2.2.1, .int v.2.2.2.2.1, .int v.2.2.2.2.2.1, .int v.2.2.2.2.2.2.1, .int v.2.2.2.2.2.2.2.1])), (tp, .inr (6, [.ref tb, .int ts])), (tb, .inl (cB, 1200, .inl fb)), (sc, .inr (3, [.int sn, .int sb, .int si, .int sw, .int v.2.2.2.2.2.2.2.2.1, .ref en, .ref ki, .ref on, .ref ot])), (ki, .inl (cK, 600, .inl v.2.2.2.2.2.2.2.2.2.1)), (on, .inl (cO, 600, .inr (.inl v.2.2.2.2.2.2.2.2.2.2.1))), (ot, .inl (cT, 600, .inr (.inl v.2.2.2.2.2.2.2.2.2.2.2)))] H ∧ va_D A [(rd, .inr (0, [.ref tp, .ref sc, .int v.2.1, .int v.2.2.1, .int v.2.2.2.1, .int v.2.2.2.2.1, .int v.2.2.2.2.2.1, .int v.2.2.2.2.2.2.1, .int v.2.2.2.2.2.2.2.1])), (tp, .inr (6, [.ref tb, .int ts])), (tb, .inl (cB, 1200, .inl fb)), (sc, .inr (3, [.int sn, .int sb, .int si, .int sw, .int v.2.2.2.2.2.2.2.2.1, .ref en, .ref ki, .ref on, .ref ot])), (ki, .inl (cK, 600, .inl v.2.2.2.2.2.2.2.2.2.1)), (on, .inl (cO, 600, .inr (.inl v.2.2.2.2.2.2.2.2.2.2.1))), (ot, .inl (cT, 600, .inr (.inl v.2.2.2.2.2.2.2.2.2.2.2)))] ∧ va_S A s.heap H locs ∧ lv_has ls 3 [(2, .int v.1), (0, .ref rd), (1, .int 6)]) (fun v H locs ls hI ih_7_607 => ?_) ((0 : Int32), o0_325, o1_326, o2_327, o3_328, o4_329, o5_330, o6_331, o7_332, o8_333, o9_334, o10_335) ⟨(show (0 : Int) ≤ (0 : Int32).toInt ∧ (0 : Int32).toInt ≤ 25 from (rg_w (by decide : (0 : Int) ≤ (0 : Int32).toInt ∧ (0 : Int32).toInt ≤ 0) (by decide) (by decide))), (show (0 : Int) ≤ o0_325.toInt ∧ o0_325.toInt ≤ 3 from b_o0_325), (show (-1 : Int) ≤ o1_326.toInt ∧ o1_326.toInt ≤ 1200 from b_o1_326), (show (0 : Int) ≤ o2_327.toInt ∧ o2_327.toInt ≤ 4 from b_o2_327), (show (0 : Int) ≤ o3_328.toInt ∧ o3_328.toInt ≤ 1200 from b_o3_328), (show (0 : Int) ≤ o4_329.toInt ∧ o4_329.toInt ≤ 1200 from b_o4_329), (show (0 : Int) ≤ o7_332.toInt ∧ o7_332.toInt ≤ 600 from b_o7_332), (show o3_328.toInt ≤ o4_329.toInt from (by have zl : (0 : Int32).toInt = 0 := (by decide); have zl : (6 : Int32).toInt = 6 := (by decide); omega)), hP, hD, hS, lv_sub hl [0, 1, 2] rfl⟩
  obtain ⟨y_374, y_375, y_376, y_377, y_378, y_379, y_380, y_381, y_382, f_383, f_384, f_385⟩ := v
  obtain ⟨b_y_374, b_y_375, b_y_376, b_y_377, b_y_378, b_y_379, b_y_382, hrs, hP, hD, hS, hl⟩ := hI
  have b_y_374 : (0 : Int) ≤ y_374.toInt ∧ y_374.toInt ≤ 25 := b_y_374
  have b_y_375 : (0 : Int) ≤ y_375.toInt ∧ y_375.toInt ≤ 3 := b_y_375
  have b_y_376 : (-1 : Int) ≤ y_376.toInt ∧ y_376.toInt ≤ 1200 := b_y_376
  have b_y_377 : (0 : Int) ≤ y_377.toInt ∧ y_377.toInt ≤ 4 := b_y_377
  have b_y_378 : (0 : Int) ≤ y_378.toInt ∧ y_378.toInt ≤ 1200 := b_y_378
  have b_y_379 : (0 : Int) ≤ y_379.toInt ∧ y_379.toInt ≤ 1200 := b_y_379
  have b_y_382 : (0 : Int) ≤ y_382.toInt ∧ y_382.toInt ≤ 600 := b_y_382
  have hrs : y_378.toInt ≤ y_379.toInt := hrs
  have hP : va_P (dC, dI) vwCl [(rd, .inr (0, [.ref tp, .ref sc, .int y_375, .int y_376, .int y_377, .int y_378, .int y_379, .int y_380, .int y_381])), (tp, .inr (6, [.ref tb, .int ts])), (tb, .inl (cB, 1200, .inl fb)), (sc, .inr (3, [.int sn, .int sb, .int si, .int sw, .int y_382, .ref en, .ref ki, .ref on, .ref ot])), (ki, .inl (cK, 600, .inl f_383)), (on, .inl (cO, 600, .inr (.inl f_384))), (ot, .inl (cT, 600, .inr (.inl f_385)))] H := hP
  have hD : va_D A [(rd, .inr (0, [.ref tp, .ref sc, .int y_375, .int y_376, .int y_377, .int y_378, .int y_379, .int y_380, .int y_381])), (tp, .inr (6, [.ref tb, .int ts])), (tb, .inl (cB, 1200, .inl fb)), (sc, .inr (3, [.int sn, .int sb, .int si, .int sw, .int y_382, .ref en, .ref ki, .ref on, .ref ot])), (ki, .inl (cK, 600, .inl f_383)), (on, .inl (cO, 600, .inr (.inl f_384))), (ot, .inl (cT, 600, .inr (.inl f_385)))] := hD
  have hl : lv_has ls 3 [(2, .int y_374), (0, .ref rd), (1, .int 6)] := hl
  refine lv_iload_n hx hb dX1_readLaw_7 rfl (lv_at hl 0 rfl) ?_
  refine lv_bipush (v := 24) hx hb dX1_readLaw_8 (by decide) ?_
  refine lv_icmp_gt (tgt := 55) hx hb dX1_readLaw_10 (by decide) (fun c_608 => ?_) (fun c_608 => ?_)
  ·
    have n_c_608 : (24 : Int) < y_374.toInt := c_gt rfl (by decide) c_608
    have b_y_374 : (25 : Int) ≤ y_374.toInt ∧ y_374.toInt ≤ 25 := r_lt2 (by decide : (24 : Int) ≤ (24 : Int32).toInt ∧ (24 : Int32).toInt ≤ 24) b_y_374 n_c_608 (by decide)
    have hP9 := hP.sub (ws' := [(rd, .inr (0, [.ref tp, .ref sc, .int y_375, .int y_376, .int y_377, .int y_378, .int y_379, .int y_380, .int y_381])), (tp, .inr (6, [.ref tb, .int ts])), (tb, .inl (cB, 1200, .inl fb)), (sc, .inr (3, [.int sn, .int sb, .int si, .int sw, .int y_382, .ref en, .ref ki, .ref on, .ref ot])), (ki, .inl (cK, 600, .inl f_383)), (on, .inl (cO, 600, .inr (.inl f_384))), (ot, .inl (cT, 600, .inr (.inl f_385)))]) [0, 1, 2, 3, 4, 5, 6] rfl
    have hD9 := hD.sub (ws' := [(rd, .inr (0, [.ref tp, .ref sc, .int y_375, .int y_376, .int y_377, .int y_378, .int y_379, .int y_380, .int y_381])), (tp, .inr (6, [.ref tb, .int ts])), (tb, .inl (cB, 1200, .inl fb)), (sc, .inr (3, [.int sn, .int sb, .int si, .int sw, .int y_382, .ref en, .ref ki, .ref on, .ref ot])), (ki, .inl (cK, 600, .inl f_383)), (on, .inl (cO, 600, .inr (.inl f_384))), (ot, .inl (cT, 600, .inr (.inl f_385)))]) [0, 1, 2, 3, 4, 5, 6] (by decide) rfl
    have hK9 := hK.sub (tys' := [(cB, .byte), (cK, .int), (cO, .long), (cT, .long)]) [0, 1, 2, 3] rfl
    exact W.vret hx hb hr (fun t ht hW => ⟨⟨(), rfl, trivial, y_375, y_376, y_377, y_378, y_379, y_380, y_381, y_382, f_383, f_384, f_385, b_y_375, b_y_376, b_y_377, b_y_378, b_y_379, b_y_382, (by omega), by rw [ht]; exact hP9, va_K.moved hW.alike hK9, hD9⟩, hS.F ht⟩) hS.2.2 dX1_readLaw_55
  ·
    have n_c_608 : (y_374.toInt : Int) ≤ 24 := c_ngt rfl (by decide) c_608
    have b_y_374 : (0 : Int) ≤ y_374.toInt ∧ y_374.toInt ≤ 24 := r_le1 b_y_374 (by decide : (24 : Int) ≤ (24 : Int32).toInt ∧ (24 : Int32).toInt ≤ 24) n_c_608 (by decide)
    refine lv_aload_n hx hb dX1_readLaw_13 rfl (lv_at hl 1 rfl) ?_
    refine va_get (D := (dC, dI)) (ci := 0) (v := .int y_375) (C := RX1) (T := TX1) (N := 9) hx hb hts iX1_readLaw6_X1 hown hK hP 0 rfl rfl 2 (by decide) (hts (.fieldLink RX1 23 "LuckyTicket$Reader" "fault" "I") (List.mem_of_getElem? (i := 5) rfl)) (fun _ h9 => h9) rfl dX1_readLaw_14 ?_
    refine lv_if_ne (tgt := 55) hx hb dX1_readLaw_17 (by decide) (fun c_609 => ?_) (fun c_609 => ?_)
    ·
      have n_c_609 : (y_375.toInt : Int) ≠ 0 := c_ne rfl (by decide) c_609
      have b_y_375 : (1 : Int) ≤ y_375.toInt ∧ y_375.toInt ≤ 3 := r_ne1 b_y_375 (by decide : (0 : Int) ≤ (0 : Int32).toInt ∧ (0 : Int32).toInt ≤ 0) n_c_609 (by decide)
      have hP9 := hP.sub (ws' := [(rd, .inr (0, [.ref tp, .ref sc, .int y_375, .int y_376, .int y_377, .int y_378, .int y_379, .int y_380, .int y_381])), (tp, .inr (6, [.ref tb, .int ts])), (tb, .inl (cB, 1200, .inl fb)), (sc, .inr (3, [.int sn, .int sb, .int si, .int sw, .int y_382, .ref en, .ref ki, .ref on, .ref ot])), (ki, .inl (cK, 600, .inl f_383)), (on, .inl (cO, 600, .inr (.inl f_384))), (ot, .inl (cT, 600, .inr (.inl f_385)))]) [0, 1, 2, 3, 4, 5, 6] rfl
      have hD9 := hD.sub (ws' := [(rd, .inr (0, [.ref tp, .ref sc, .int y_375, .int y_376, .int y_377, .int y_378, .int y_379, .int y_380, .int y_381])), (tp, .inr (6, [.ref tb, .int ts])), (tb, .inl (cB, 1200, .inl fb)), (sc, .inr (3, [.int sn, .int sb, .int si, .int sw, .int y_382, .ref en, .ref ki, .ref on, .ref ot])), (ki, .inl (cK, 600, .inl f_383)), (on, .inl (cO, 600, .inr (.inl f_384))), (ot, .inl (cT, 600, .inr (.inl f_385)))]) [0, 1, 2, 3, 4, 5, 6] (by decide) rfl
      have hK9 := hK.sub (tys' := [(cB, .byte), (cK, .int), (cO, .long), (cT, .long)]) [0, 1, 2, 3] rfl
      exact W.vret hx hb hr (fun t ht hW => ⟨⟨(), rfl, trivial, y_375, y_376, y_377, y_378, y_379, y_380, y_381, y_382, f_383, f_384, f_385, (rg_w b_y_375 (by decide) (by decide)), b_y_376, b_y_377, b_y_378, b_y_379, b_y_382, (by omega), by rw [ht]; exact hP9, va_K.moved hW.alike hK9, hD9⟩, hS.F ht⟩) hS.2.2 dX1_readLaw_55
    ·
      have n_c_609 : (y_375.toInt : Int) = 0 := c_eq rfl (by decide) c_609
      have b_y_375 : (0 : Int) ≤ y_375.toInt ∧ y_375.toInt ≤ 0 := r_eq1 b_y_375 (by decide : (0 : Int) ≤ (0 : Int32).toInt ∧ (0 : Int32).toInt ≤ 0) n_c_609 (by decide)
      refine lv_aload_n hx hb dX1_readLaw_20 rfl (lv_at hl 1 rfl) ?_
      refine va_ldcS hx hb hown hR_105 dX1_readLaw_21 ?_
      refine vp_callSi (W.runV (As := [.ref tq_105]) (rest := []) ⟨hx, hb, hml, hown, hts⟩ (kX1_isWord l dC dI rd y_375 y_376 y_377 y_378 y_379 y_380 y_381 tp tb ts cB fb sc tq_105 2 tf_105 n0 (rg_w b_y_375 (by decide) (by decide)) b_y_376 b_y_377 b_y_378 b_y_379 b_ts (by omega) (by omega)) (cwV 1 hts gX1_readLaw6__X1_isWord_V89 rfl rfl rfl hd_yX1_isWord ⟨lel 5 9 rfl, lel 107 197 rfl⟩) ⟨px_fb, rcv_X1 hK hP (q0 := 0) rfl, (px_use hP hK hN hX (vs_up hS hAn) [0, 1, 2] rfl [0] rfl (tts_1 ht_105) tbs_0)⟩ rfl rfl hl.1 rfl (lv_room (Nat.le_of_ble_eq_true rfl)) dX1_readLaw_23 ⟨lel 0 0 rfl, lel 0 0 rfl⟩) (fun r_610 h_r_610 => ?_)
      obtain ⟨b_r_610, nz_r_610, zz_r_610⟩ := h_r_610
      have b_r_610 : (0 : Int) ≤ r_610.toInt ∧ r_610.toInt ≤ 1 := b_r_610
      refine lv_if_eq (tgt := 55) hx hb dX1_readLaw_26 (by decide) (fun c_611 => ?_) (fun c_611 => ?_)
      ·
        have n_c_611 : (r_610.toInt : Int) = 0 := c_eq rfl (by decide) c_611
        have b_r_610 : (0 : Int) ≤ r_610.toInt ∧ r_610.toInt ≤ 0 := r_eq1 b_r_610 (by decide : (0 : Int) ≤ (0 : Int32).toInt ∧ (0 : Int32).toInt ≤ 0) n_c_611 (by decide)
        have g_612 := zz_r_610 c_611
        have hP9 := hP.sub (ws' := [(rd, .inr (0, [.ref tp, .ref sc, .int y_375, .int y_376, .int y_377, .int y_378, .int y_379, .int y_380, .int y_381])), (tp, .inr (6, [.ref tb, .int ts])), (tb, .inl (cB, 1200, .inl fb)), (sc, .inr (3, [.int sn, .int sb, .int si, .int sw, .int y_382, .ref en, .ref ki, .ref on, .ref ot])), (ki, .inl (cK, 600, .inl f_383)), (on, .inl (cO, 600, .inr (.inl f_384))), (ot, .inl (cT, 600, .inr (.inl f_385)))]) [0, 1, 2, 3, 4, 5, 6] rfl
        have hD9 := hD.sub (ws' := [(rd, .inr (0, [.ref tp, .ref sc, .int y_375, .int y_376, .int y_377, .int y_378, .int y_379, .int y_380, .int y_381])), (tp, .inr (6, [.ref tb, .int ts])), (tb, .inl (cB, 1200, .inl fb)), (sc, .inr (3, [.int sn, .int sb, .int si, .int sw, .int y_382, .ref en, .ref ki, .ref on, .ref ot])), (ki, .inl (cK, 600, .inl f_383)), (on, .inl (cO, 600, .inr (.inl f_384))), (ot, .inl (cT, 600, .inr (.inl f_385)))]) [0, 1, 2, 3, 4, 5, 6] (by decide) rfl
        have hK9 := hK.sub (tys' := [(cB, .byte), (cK, .int), (cO, .long), (cT, .long)]) [0, 1, 2, 3] rfl
        exact W.vret hx hb hr (fun t ht hW => ⟨⟨(), rfl, trivial, y_375, y_376, y_377, y_378, y_379, y_380, y_381, y_382, f_383, f_384, f_385, (rg_w b_y_375 (by decide) (by decide)), b_y_376, b_y_377, b_y_378, b_y_379, b_y_382, (by omega), by rw [ht]; exact hP9, va_K.moved hW.alike hK9, hD9⟩, hS.F ht⟩) hS.2.2 dX1_readLaw_55
      ·
        have n_c_611 : (r_610.toInt : Int) ≠ 0 := c_ne rfl (by decide) c_611
        have b_r_610 : (1 : Int) ≤ r_610.toInt ∧ r_610.toInt ≤ 1 := r_ne1 b_r_610 (by decide : (0 : Int) ≤ (0 : Int32).toInt ∧ (0 : Int32).toInt ≤ 0) n_c_611 (by decide)
        have g_613 := nz_r_610 c_611
        refine lv_aload_n hx hb dX1_readLaw_29 rfl (lv_at hl 1 rfl) ?_
        have hFc := va_free (wc := [(rd, .inr (0, [.ref tp, .ref sc, .int y_375, .int y_376, .int y_377, .int y_378, .int y_379, .int y_380, .int y_381])), (tp, .inr (6, [.ref tb, .int ts])), (tb, .inl (cB, 1200, .inl fb))]) hD hS hA [0, 1, 2] rfl
        refine va_callv (va_runV (As := []) (rest := []) ⟨hx, hb, hml, hown, hts⟩ (kX1_passJoin l dC dI rd y_375 y_376 y_377 y_378 y_379 y_380 y_381 tp tb ts cB fb sc (H.size) (rg_w b_y_375 (by decide) (by decide)) b_y_376 b_y_377 b_y_378 b_y_379 b_ts (by omega)) (cwV 0 hts gX1_readLaw6__X1_passJoin_V107 rfl rfl rfl hd_yX1_passJoin ⟨lel 2 9 rfl, lel 42 197 rfl⟩) ⟨hw_fb, rcv_X1 hK hP (q0 := 0) rfl, (hw_use hP hD hK hN [0, 1, 2] rfl (by decide) rfl [0] rfl)⟩ rfl rfl hl.1 rfl (lv_room (Nat.le_of_ble_eq_true rfl)) dX1_readLaw_30 ⟨lel 0 0 rfl, lel 0 0 rfl⟩) hS (fun q _ h => hFc q h) hFc (fun u_615 t H1 locs ht hvm hw_r_614 hB hz1 hk1 hS => ?_)
        obtain ⟨o0_616, o1_617, o2_618, o3_619, o4_620, o5_621, o6_622, b_o0_616, b_o1_617, b_o2_618, b_o3_619, b_o4_620, hf_623, hP1, hK1, hD1⟩ := hB
        rw [ht] at hP1
        have hK1 := va_K.moved hvm.symm hK1
        obtain ⟨hP, hD⟩ := va_join (wr := [(sc, .inr (3, [.int sn, .int sb, .int si, .int sw, .int y_382, .ref en, .ref ki, .ref on, .ref ot])), (ki, .inl (cK, 600, .inl f_383)), (on, .inl (cO, 600, .inr (.inl f_384))), (ot, .inl (cT, 600, .inr (.inl f_385)))]) (w1 := [(rd, .inr (0, [.ref tp, .ref sc, .int o0_616, .int o1_617, .int o2_618, .int o3_619, .int o4_620, .int o5_621, .int o6_622])), (tp, .inr (6, [.ref tb, .int ts])), (tb, .inl (cB, 1200, .inl fb))]) hP hD [0, 1, 2] [3, 4, 5, 6] rfl rfl (by decide) (by decide) hk1 hFc hP1 hD1
        have hK := (hK.sub (tys' := [(cK, .int), (cO, .long), (cT, .long)]) [1, 2, 3] rfl).app hK1
        generalize H1 = H at hP hS ⊢
        have hP := hP.sub (ws' := [(rd, .inr (0, [.ref tp, .ref sc, .int o0_616, .int o1_617, .int o2_618, .int o3_619, .int o4_620, .int o5_621, .int o6_622])), (tp, .inr (6, [.ref tb, .int ts])), (tb, .inl (cB, 1200, .inl fb)), (sc, .inr (3, [.int sn, .int sb, .int si, .int sw, .int y_382, .ref en, .ref ki, .ref on, .ref ot])), (ki, .inl (cK, 600, .inl f_383)), (on, .inl (cO, 600, .inr (.inl f_384))), (ot, .inl (cT, 600, .inr (.inl f_385)))]) [4, 5, 6, 0, 1, 2, 3] rfl
        have hD := hD.sub (ws' := [(rd, .inr (0, [.ref tp, .ref sc, .int o0_616, .int o1_617, .int o2_618, .int o3_619, .int o4_620, .int o5_621, .int o6_622])), (tp, .inr (6, [.ref tb, .int ts])), (tb, .inl (cB, 1200, .inl fb)), (sc, .inr (3, [.int sn, .int sb, .int si, .int sw, .int y_382, .ref en, .ref ki, .ref on, .ref ot])), (ki, .inl (cK, 600, .inl f_383)), (on, .inl (cO, 600, .inr (.inl f_384))), (ot, .inl (cT, 600, .inr (.inl f_385)))]) [4, 5, 6, 0, 1, 2, 3] (by decide) rfl
        have hK := hK.sub (tys' := [(cB, .byte), (cK, .int), (cO, .long), (cT, .long)]) [3, 0, 1, 2] rfl
        have hP : va_P (dC, dI) vwCl [(rd, .inr (0, [.ref tp, .ref sc, .int o0_616, .int o1_617, .int o2_618, .int o3_619, .int o4_620, .int o5_621, .int o6_622])), (tp, .inr (6, [.ref tb, .int ts])), (tb, .inl (cB, 1200, .inl fb)), (sc, .inr (3, [.int sn, .int sb, .int si, .int sw, .int y_382, .ref en, .ref ki, .ref on, .ref ot])), (ki, .inl (cK, 600, .inl f_383)), (on, .inl (cO, 600, .inr (.inl f_384))), (ot, .inl (cT, 600, .inr (.inl f_385)))] H := hP
        have hD : va_D A [(rd, .inr (0, [.ref tp, .ref sc, .int o0_616, .int o1_617, .int o2_618, .int o3_619, .int o4_620, .int o5_621, .int o6_622])), (tp, .inr (6, [.ref tb, .int ts])), (tb, .inl (cB, 1200, .inl fb)), (sc, .inr (3, [.int sn, .int sb, .int si, .int sw, .int y_382, .ref en, .ref ki, .ref on, .ref ot])), (ki, .inl (cK, 600, .inl f_383)), (on, .inl (cO, 600, .inr (.inl f_384))), (ot, .inl (cT, 600, .inr (.inl f_385)))] := hD
        have hK : va_K (dC, dI) vwCl [(cB, .byte), (cK, .int), (cO, .long), (cT, .long)] s := hK
        refine lv_aload_n hx hb dX1_readLaw_33 rfl (lv_at hl 1 rfl) ?_
        refine lv_iload_n hx hb dX1_readLaw_34 rfl (lv_at hl 2 rfl) ?_
        have hFc := va_free (wc := [(rd, .inr (0, [.ref tp, .ref sc, .int o0_616, .int o1_617, .int o2_618, .int o3_619, .int o4_620, .int o5_621, .int o6_622])), (tp, .inr (6, [.ref tb, .int ts])), (tb, .inl (cB, 1200, .inl fb)), (sc, .inr (3, [.int sn, .int sb, .int si, .int sw, .int y_382, .ref en, .ref ki, .ref on, .ref ot])), (ki, .inl (cK, 600, .inl f_383)), (on, .inl (cO, 600, .inr (.inl f_384))), (ot, .inl (cT, 600, .inr (.inl f_385)))]) hD hS hA [0, 1, 2, 3, 4, 5, 6] rfl
        refine va_callv (va_runV (As := [.int 6]) (rest := []) ⟨hx, hb, hml, hown, hts⟩ (kX1_readPart6 l dC dI rd o0_616 o1_617 o2_618 o3_619 o4_620 o5_621 o6_622 tp tb ts cB fb sc sn sb si sw y_382 en ki on ot cK f_383 cO f_384 cT f_385 n0 (H.size) b_o0_616 b_o1_617 b_o2_618 b_o3_619 b_o4_620 b_ts b_sn b_sb b_si b_sw b_y_382 (by omega)) (cwV 1 hts gX1_readLaw6__X1_readPart6_V102 rfl rfl rfl hd_yX1_readPart ⟨lel 9 9 rfl, lel 197 197 rfl⟩) ⟨hx_fb, rcv_X1 hK hP (q0 := 0) rfl, (hx_use hP hD hK hN hX hS hAn hn0 [0, 1, 2, 3, 4, 5, 6] rfl (by decide) rfl [0, 1, 2, 3] rfl tts_0)⟩ rfl rfl hl.1 rfl (lv_room (Nat.le_of_ble_eq_true rfl)) dX1_readLaw_35 ⟨lel 0 0 rfl, lel 0 0 rfl⟩) hS (fun q _ h => hFc q h) hFc (fun u_625 t H1 locs ht hvm hw_r_624 hB hz1 hk1 hS => ?_)
        obtain ⟨o0_626, o1_627, o2_628, o3_629, o4_630, o5_631, o6_632, o7_633, o8_634, o9_635, o10_636, b_o0_626, b_o1_627, b_o2_628, b_o3_629, b_o4_630, b_o7_633, hf_637, hP1, hK1, hD1⟩ := hB
        rw [ht] at hP1
        have hK1 := va_K.moved hvm.symm hK1
        obtain ⟨hP, hD⟩ := va_join (wr := []) (w1 := [(rd, .inr (0, [.ref tp, .ref sc, .int o0_626, .int o1_627, .int o2_628, .int o3_629, .int o4_630, .int o5_631, .int o6_632])), (tp, .inr (6, [.ref tb, .int ts])), (tb, .inl (cB, 1200, .inl fb)), (sc, .inr (3, [.int sn, .int sb, .int si, .int sw, .int o7_633, .ref en, .ref ki, .ref on, .ref ot])), (ki, .inl (cK, 600, .inl o8_634)), (on, .inl (cO, 600, .inr (.inl o9_635))), (ot, .inl (cT, 600, .inr (.inl o10_636)))]) hP hD [0, 1, 2, 3, 4, 5, 6] [] rfl rfl (by decide) (by decide) hk1 hFc hP1 hD1
        have hK := (hK.sub (tys' := []) [] rfl).app hK1
        generalize H1 = H at hP hS ⊢
        have hP : va_P (dC, dI) vwCl [(rd, .inr (0, [.ref tp, .ref sc, .int o0_626, .int o1_627, .int o2_628, .int o3_629, .int o4_630, .int o5_631, .int o6_632])), (tp, .inr (6, [.ref tb, .int ts])), (tb, .inl (cB, 1200, .inl fb)), (sc, .inr (3, [.int sn, .int sb, .int si, .int sw, .int o7_633, .ref en, .ref ki, .ref on, .ref ot])), (ki, .inl (cK, 600, .inl o8_634)), (on, .inl (cO, 600, .inr (.inl o9_635))), (ot, .inl (cT, 600, .inr (.inl o10_636)))] H := hP
        have hD : va_D A [(rd, .inr (0, [.ref tp, .ref sc, .int o0_626, .int o1_627, .int o2_628, .int o3_629, .int o4_630, .int o5_631, .int o6_632])), (tp, .inr (6, [.ref tb, .int ts])), (tb, .inl (cB, 1200, .inl fb)), (sc, .inr (3, [.int sn, .int sb, .int si, .int sw, .int o7_633, .ref en, .ref ki, .ref on, .ref ot])), (ki, .inl (cK, 600, .inl o8_634)), (on, .inl (cO, 600, .inr (.inl o9_635))), (ot, .inl (cT, 600, .inr (.inl o10_636)))] := hD
        have hK : va_K (dC, dI) vwCl [(cB, .byte), (cK, .int), (cO, .long), (cT, .long)] s := hK
        refine lv_aload_n hx hb dX1_readLaw_38 rfl (lv_at hl 1 rfl) ?_
        refine va_get (D := (dC, dI)) (ci := 0) (v := .ref sc) (C := RX1) (T := TX1) (N := 9) hx hb hts iX1_readLaw6_X1 hown hK hP 0 rfl rfl 1 (by decide) (hts (.fieldLink RX1 19 "LuckyTicket$Reader" "script" "LLuckyTicket$Script;") (List.mem_of_getElem? (i := 12) rfl)) (fun _ h9 => h9) rfl dX1_readLaw_39 ?_
        refine lv_bipush (v := 9) hx hb dX1_readLaw_42 (by decide) ?_
        refine lv_lconst (v := 0) hx hb dX1_readLaw_44 (by decide) ?_
        refine lv_lconst (v := 0) hx hb dX1_readLaw_45 (by decide) ?_
        have hFc := va_free (wc := [(sc, .inr (3, [.int sn, .int sb, .int si, .int sw, .int o7_633, .ref en, .ref ki, .ref on, .ref ot])), (ki, .inl (cK, 600, .inl o8_634)), (on, .inl (cO, 600, .inr (.inl o9_635))), (ot, .inl (cT, 600, .inr (.inl o10_636)))]) hD hS hA [3, 4, 5, 6] rfl
        refine va_callv (va_runV (As := [.int 9, .long 0, .long 0]) (rest := []) ⟨hx, hb, hml, hown, hts⟩ (kX4_add l dC dI sc sn sb si sw o7_633 en ki on ot cK o8_634 cO o9_635 cT o10_636 9 0 0 (H.size) b_sn b_sb b_si b_sw b_o7_633) (cwV 3 hts gX1_readLaw6__X4_add_V110 rfl rfl rfl hd_yX4_add ⟨lel 1 9 rfl, lel 25 197 rfl⟩) ⟨hw_fb, rcv_X4 hK hP (q0 := 3) rfl, (hw_use hP hD hK hN [3, 4, 5, 6] rfl (by decide) rfl [1, 2, 3] rfl)⟩ rfl rfl hl.1 rfl (lv_room (Nat.le_of_ble_eq_true rfl)) dX1_readLaw_46 ⟨lel 0 0 rfl, lel 0 0 rfl⟩) hS (fun q _ h => hFc q h) hFc (fun u_639 t H1 locs ht hvm hw_r_638 hB hz1 hk1 hS => ?_)
        obtain ⟨o0_640, o1_641, o2_642, o3_643, b_o0_640, hP1, hK1, hD1⟩ := hB
        rw [ht] at hP1
        have hK1 := va_K.moved hvm.symm hK1
        obtain ⟨hP, hD⟩ := va_join (wr := [(rd, .inr (0, [.ref tp, .ref sc, .int o0_626, .int o1_627, .int o2_628, .int o3_629, .int o4_630, .int o5_631, .int o6_632])), (tp, .inr (6, [.ref tb, .int ts])), (tb, .inl (cB, 1200, .inl fb))]) (w1 := [(sc, .inr (3, [.int sn, .int sb, .int si, .int sw, .int o0_640, .ref en, .ref ki, .ref on, .ref ot])), (ki, .inl (cK, 600, .inl o1_641)), (on, .inl (cO, 600, .inr (.inl o2_642))), (ot, .inl (cT, 600, .inr (.inl o3_643)))]) hP hD [3, 4, 5, 6] [0, 1, 2] rfl rfl (by decide) (by decide) hk1 hFc hP1 hD1
        have hK := (hK.sub (tys' := [(cB, .byte)]) [0] rfl).app hK1
        generalize H1 = H at hP hS ⊢
        have hP : va_P (dC, dI) vwCl [(rd, .inr (0, [.ref tp, .ref sc, .int o0_626, .int o1_627, .int o2_628, .int o3_629, .int o4_630, .int o5_631, .int o6_632])), (tp, .inr (6, [.ref tb, .int ts])), (tb, .inl (cB, 1200, .inl fb)), (sc, .inr (3, [.int sn, .int sb, .int si, .int sw, .int o0_640, .ref en, .ref ki, .ref on, .ref ot])), (ki, .inl (cK, 600, .inl o1_641)), (on, .inl (cO, 600, .inr (.inl o2_642))), (ot, .inl (cT, 600, .inr (.inl o3_643)))] H := hP
        have hD : va_D A [(rd, .inr (0, [.ref tp, .ref sc, .int o0_626, .int o1_627, .int o2_628, .int o3_629, .int o4_630, .int o5_631, .int o6_632])), (tp, .inr (6, [.ref tb, .int ts])), (tb, .inl (cB, 1200, .inl fb)), (sc, .inr (3, [.int sn, .int sb, .int si, .int sw, .int o0_640, .ref en, .ref ki, .ref on, .ref ot])), (ki, .inl (cK, 600, .inl o1_641)), (on, .inl (cO, 600, .inr (.inl o2_642))), (ot, .inl (cT, 600, .inr (.inl o3_643)))] := hD
        have hK : va_K (dC, dI) vwCl [(cB, .byte), (cK, .int), (cO, .long), (cT, .long)] s := hK
        obtain ⟨z_644, e_z_644⟩ : ∃ y : Int32, y = y_374 + 1 := ⟨_, rfl⟩
        refine lv_iinc (v := z_644) (lv' := [(2, .int z_644), (0, .ref rd), (1, .int 6)]) hx hb dX1_readLaw_49 hl (k := 0) rfl (by rw [e_z_644]; rfl) (by decide) rfl (fun ls hl => ?_)
        obtain ⟨q_z_644, b_z_644⟩ := ti_add (lo := 1) (hi := 25) e_z_644 rfl (by decide : (1 : Int32).toInt = 1) b_y_374 (by decide : (1 : Int) ≤ (1 : Int32).toInt ∧ (1 : Int32).toInt ≤ 1) (by decide)
        refine lv_goto (tgt := 7) hx hb dX1_readLaw_52 (by decide) ?_
        exact ih_7_607 (z_644, o0_626, o1_627, o2_628, o3_629, o4_630, o5_631, o6_632, o0_640, o1_641, o2_642, o3_643) _ _ _ ⟨(show (0 : Int) ≤ z_644.toInt ∧ z_644.toInt ≤ 25 from (rg_w b_z_644 (by decide) (by decide))), (show (0 : Int) ≤ o0_626.toInt ∧ o0_626.toInt ≤ 3 from b_o0_626), (show (-1 : Int) ≤ o1_627.toInt ∧ o1_627.toInt ≤ 1200 from b_o1_627), (show (0 : Int) ≤ o2_628.toInt ∧ o2_628.toInt ≤ 4 from b_o2_628), (show (0 : Int) ≤ o3_629.toInt ∧ o3_629.toInt ≤ 1200 from b_o3_629), (show (0 : Int) ≤ o4_630.toInt ∧ o4_630.toInt ≤ 1200 from b_o4_630), (show (0 : Int) ≤ o0_640.toInt ∧ o0_640.toInt ≤ 600 from (rg_w b_o0_640 (by decide) (by decide))), (show o3_629.toInt ≤ o4_630.toInt from (by have zl : (6 : Int32).toInt = 6 := (by decide); omega)), hP, hD, hS, lv_sub hl [0, 1, 2] rfl⟩ (show (25 - z_644.toInt).toNat < (25 - y_374.toInt).toNat by omega)
