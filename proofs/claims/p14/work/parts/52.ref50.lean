theorem dX12_divide_0 : decode cX12_divide 0 = .ok (.aload_n 1, 1) := by decide +kernel
theorem dX12_divide_1 : decode cX12_divide 1 = .ok (.iload_n 2, 1) := by decide +kernel
theorem dX12_divide_2 : decode cX12_divide 2 = .ok (.invokestatic 221, 3) := by decide +kernel
theorem dX12_divide_5 : decode cX12_divide 5 = .ok (.istore 9, 2) := by decide +kernel
theorem dX12_divide_7 : decode cX12_divide 7 = .ok (.aload_n 3, 1) := by decide +kernel
theorem dX12_divide_8 : decode cX12_divide 8 = .ok (.iload 4, 2) := by decide +kernel
theorem dX12_divide_10 : decode cX12_divide 10 = .ok (.invokestatic 221, 3) := by decide +kernel
theorem dX12_divide_13 : decode cX12_divide 13 = .ok (.istore 10, 2) := by decide +kernel
theorem dX12_divide_15 : decode cX12_divide 15 = .ok (.aload_n 1, 1) := by decide +kernel
theorem dX12_divide_16 : decode cX12_divide 16 = .ok (.iload_n 2, 1) := by decide +kernel
theorem dX12_divide_17 : decode cX12_divide 17 = .ok (.invokestatic 225, 3) := by decide +kernel
theorem dX12_divide_20 : decode cX12_divide 20 = .ok (.istore 11, 2) := by decide +kernel
theorem dX12_divide_22 : decode cX12_divide 22 = .ok (.aload_n 3, 1) := by decide +kernel
theorem dX12_divide_23 : decode cX12_divide 23 = .ok (.iload 4, 2) := by decide +kernel
theorem dX12_divide_25 : decode cX12_divide 25 = .ok (.invokestatic 225, 3) := by decide +kernel
theorem dX12_divide_28 : decode cX12_divide 28 = .ok (.istore 12, 2) := by decide +kernel
theorem dX12_divide_30 : decode cX12_divide 30 = .ok (.iload 9, 2) := by decide +kernel
theorem dX12_divide_32 : decode cX12_divide 32 = .ok (.iload 10, 2) := by decide +kernel
theorem dX12_divide_34 : decode cX12_divide 34 = .ok (.if_icmp .ge 21, 3) := by decide +kernel
theorem dX12_divide_37 : decode cX12_divide 37 = .ok (.aload 5, 2) := by decide +kernel
theorem dX12_divide_39 : decode cX12_divide 39 = .ok (.iload 6, 2) := by decide +kernel
theorem dX12_divide_41 : decode cX12_divide 41 = .ok (.iconst 0, 1) := by decide +kernel
theorem dX12_divide_42 : decode cX12_divide 42 = .ok (.iastore, 1) := by decide +kernel
theorem dX12_divide_43 : decode cX12_divide 43 = .ok (.aload_n 1, 1) := by decide +kernel
theorem dX12_divide_44 : decode cX12_divide 44 = .ok (.iload_n 2, 1) := by decide +kernel
theorem dX12_divide_45 : decode cX12_divide 45 = .ok (.aload 7, 2) := by decide +kernel
theorem dX12_divide_47 : decode cX12_divide 47 = .ok (.iload 8, 2) := by decide +kernel
theorem dX12_divide_49 : decode cX12_divide 49 = .ok (.invokestatic 233, 3) := by decide +kernel
theorem dX12_divide_52 : decode cX12_divide 52 = .ok (.goto 223, 3) := by decide +kernel
theorem dX12_divide_55 : decode cX12_divide 55 = .ok (.iload 10, 2) := by decide +kernel
theorem dX12_divide_57 : decode cX12_divide 57 = .ok (.iconst 1, 1) := by decide +kernel
theorem dX12_divide_58 : decode cX12_divide 58 = .ok (.if_icmp .ne 98, 3) := by decide +kernel
theorem dX12_divide_61 : decode cX12_divide 61 = .ok (.lconst 0, 1) := by decide +kernel
theorem dX12_divide_62 : decode cX12_divide 62 = .ok (.lstore 13, 2) := by decide +kernel
theorem dX12_divide_64 : decode cX12_divide 64 = .ok (.iload 9, 2) := by decide +kernel
theorem dX12_divide_66 : decode cX12_divide 66 = .ok (.istore 15, 2) := by decide +kernel
theorem dX12_divide_68 : decode cX12_divide 68 = .ok (.iload 15, 2) := by decide +kernel
theorem dX12_divide_70 : decode cX12_divide 70 = .ok (.ifCond .le 56, 3) := by decide +kernel
theorem dX12_divide_73 : decode cX12_divide 73 = .ok (.lload 13, 2) := by decide +kernel
theorem dX12_divide_75 : decode cX12_divide 75 = .ok (.ldc2_w 219, 3) := by decide +kernel
theorem dX12_divide_78 : decode cX12_divide 78 = .ok (.lmul, 1) := by decide +kernel
theorem dX12_divide_79 : decode cX12_divide 79 = .ok (.aload_n 1, 1) := by decide +kernel
theorem dX12_divide_80 : decode cX12_divide 80 = .ok (.iload_n 2, 1) := by decide +kernel
theorem dX12_divide_81 : decode cX12_divide 81 = .ok (.iload 15, 2) := by decide +kernel
theorem dX12_divide_83 : decode cX12_divide 83 = .ok (.iadd, 1) := by decide +kernel
theorem dX12_divide_84 : decode cX12_divide 84 = .ok (.iaload, 1) := by decide +kernel
theorem dX12_divide_85 : decode cX12_divide 85 = .ok (.i2l, 1) := by decide +kernel
theorem dX12_divide_86 : decode cX12_divide 86 = .ok (.ladd, 1) := by decide +kernel
theorem dX12_divide_87 : decode cX12_divide 87 = .ok (.lstore 16, 2) := by decide +kernel
theorem dX12_divide_89 : decode cX12_divide 89 = .ok (.aload 5, 2) := by decide +kernel
theorem dX12_divide_91 : decode cX12_divide 91 = .ok (.iload 6, 2) := by decide +kernel
theorem dX12_divide_93 : decode cX12_divide 93 = .ok (.iload 15, 2) := by decide +kernel
theorem dX12_divide_95 : decode cX12_divide 95 = .ok (.iadd, 1) := by decide +kernel
theorem dX12_divide_96 : decode cX12_divide 96 = .ok (.lload 16, 2) := by decide +kernel
theorem dX12_divide_98 : decode cX12_divide 98 = .ok (.aload_n 3, 1) := by decide +kernel
theorem dX12_divide_99 : decode cX12_divide 99 = .ok (.iload 4, 2) := by decide +kernel
theorem dX12_divide_101 : decode cX12_divide 101 = .ok (.iconst 1, 1) := by decide +kernel
theorem dX12_divide_102 : decode cX12_divide 102 = .ok (.iadd, 1) := by decide +kernel
theorem dX12_divide_103 : decode cX12_divide 103 = .ok (.iaload, 1) := by decide +kernel
theorem dX12_divide_104 : decode cX12_divide 104 = .ok (.i2l, 1) := by decide +kernel
theorem dX12_divide_105 : decode cX12_divide 105 = .ok (.ldiv, 1) := by decide +kernel
theorem dX12_divide_106 : decode cX12_divide 106 = .ok (.l2i, 1) := by decide +kernel
theorem dX12_divide_107 : decode cX12_divide 107 = .ok (.iastore, 1) := by decide +kernel
theorem dX12_divide_108 : decode cX12_divide 108 = .ok (.lload 16, 2) := by decide +kernel
theorem dX12_divide_110 : decode cX12_divide 110 = .ok (.aload_n 3, 1) := by decide +kernel
theorem dX12_divide_111 : decode cX12_divide 111 = .ok (.iload 4, 2) := by decide +kernel
theorem dX12_divide_113 : decode cX12_divide 113 = .ok (.iconst 1, 1) := by decide +kernel
theorem dX12_divide_114 : decode cX12_divide 114 = .ok (.iadd, 1) := by decide +kernel
theorem dX12_divide_115 : decode cX12_divide 115 = .ok (.iaload, 1) := by decide +kernel
theorem dX12_divide_116 : decode cX12_divide 116 = .ok (.i2l, 1) := by decide +kernel
theorem dX12_divide_117 : decode cX12_divide 117 = .ok (.lrem, 1) := by decide +kernel
theorem dX12_divide_118 : decode cX12_divide 118 = .ok (.lstore 13, 2) := by decide +kernel
theorem dX12_divide_120 : decode cX12_divide 120 = .ok (.iinc 15 (-1), 3) := by decide +kernel
theorem dX12_divide_123 : decode cX12_divide 123 = .ok (.goto (-55), 3) := by decide +kernel
theorem dX12_divide_126 : decode cX12_divide 126 = .ok (.aload 5, 2) := by decide +kernel
theorem dX12_divide_128 : decode cX12_divide 128 = .ok (.iload 6, 2) := by decide +kernel
theorem dX12_divide_130 : decode cX12_divide 130 = .ok (.iload 9, 2) := by decide +kernel
theorem dX12_divide_132 : decode cX12_divide 132 = .ok (.iload 11, 2) := by decide +kernel
theorem dX12_divide_134 : decode cX12_divide 134 = .ok (.iload 12, 2) := by decide +kernel
theorem dX12_divide_136 : decode cX12_divide 136 = .ok (.imul, 1) := by decide +kernel
theorem dX12_divide_137 : decode cX12_divide 137 = .ok (.invokestatic 237, 3) := by decide +kernel
theorem dX12_divide_140 : decode cX12_divide 140 = .ok (.aload 7, 2) := by decide +kernel
theorem dX12_divide_142 : decode cX12_divide 142 = .ok (.iload 8, 2) := by decide +kernel
theorem dX12_divide_144 : decode cX12_divide 144 = .ok (.iload 11, 2) := by decide +kernel
theorem dX12_divide_146 : decode cX12_divide 146 = .ok (.i2l, 1) := by decide +kernel
theorem dX12_divide_147 : decode cX12_divide 147 = .ok (.lload 13, 2) := by decide +kernel
theorem dX12_divide_149 : decode cX12_divide 149 = .ok (.lmul, 1) := by decide +kernel
theorem dX12_divide_150 : decode cX12_divide 150 = .ok (.invokestatic 241, 3) := by decide +kernel
theorem dX12_divide_153 : decode cX12_divide 153 = .ok (.goto 122, 3) := by decide +kernel
theorem dX12_divide_156 : decode cX12_divide 156 = .ok (.aload_n 0, 1) := by decide +kernel
theorem dX12_divide_157 : decode cX12_divide 157 = .ok (.aload_n 1, 1) := by decide +kernel
theorem dX12_divide_158 : decode cX12_divide 158 = .ok (.iload_n 2, 1) := by decide +kernel
theorem dX12_divide_159 : decode cX12_divide 159 = .ok (.aload_n 3, 1) := by decide +kernel
theorem dX12_divide_160 : decode cX12_divide 160 = .ok (.iload 4, 2) := by decide +kernel
theorem dX12_divide_162 : decode cX12_divide 162 = .ok (.iload 9, 2) := by decide +kernel
theorem dX12_divide_164 : decode cX12_divide 164 = .ok (.iload 10, 2) := by decide +kernel
theorem dX12_divide_166 : decode cX12_divide 166 = .ok (.aload 5, 2) := by decide +kernel
theorem dX12_divide_168 : decode cX12_divide 168 = .ok (.iload 6, 2) := by decide +kernel
theorem dX12_divide_170 : decode cX12_divide 170 = .ok (.invokevirtual 245, 3) := by decide +kernel
theorem dX12_divide_173 : decode cX12_divide 173 = .ok (.aload 5, 2) := by decide +kernel
theorem dX12_divide_175 : decode cX12_divide 175 = .ok (.iload 6, 2) := by decide +kernel
theorem dX12_divide_177 : decode cX12_divide 177 = .ok (.iload 9, 2) := by decide +kernel
theorem dX12_divide_179 : decode cX12_divide 179 = .ok (.iload 10, 2) := by decide +kernel
theorem dX12_divide_181 : decode cX12_divide 181 = .ok (.isub, 1) := by decide +kernel
theorem dX12_divide_182 : decode cX12_divide 182 = .ok (.iconst 1, 1) := by decide +kernel
theorem dX12_divide_183 : decode cX12_divide 183 = .ok (.iadd, 1) := by decide +kernel
theorem dX12_divide_184 : decode cX12_divide 184 = .ok (.iload 11, 2) := by decide +kernel
theorem dX12_divide_186 : decode cX12_divide 186 = .ok (.iload 12, 2) := by decide +kernel
theorem dX12_divide_188 : decode cX12_divide 188 = .ok (.imul, 1) := by decide +kernel
theorem dX12_divide_189 : decode cX12_divide 189 = .ok (.invokestatic 237, 3) := by decide +kernel
theorem dX12_divide_192 : decode cX12_divide 192 = .ok (.ldc 232, 2) := by decide +kernel
theorem dX12_divide_194 : decode cX12_divide 194 = .ok (.aload_n 3, 1) := by decide +kernel
theorem dX12_divide_195 : decode cX12_divide 195 = .ok (.iload 4, 2) := by decide +kernel
theorem dX12_divide_197 : decode cX12_divide 197 = .ok (.iload 10, 2) := by decide +kernel
theorem dX12_divide_199 : decode cX12_divide 199 = .ok (.iadd, 1) := by decide +kernel
theorem dX12_divide_200 : decode cX12_divide 200 = .ok (.iaload, 1) := by decide +kernel
theorem dX12_divide_201 : decode cX12_divide 201 = .ok (.iconst 1, 1) := by decide +kernel
theorem dX12_divide_202 : decode cX12_divide 202 = .ok (.iadd, 1) := by decide +kernel
theorem dX12_divide_203 : decode cX12_divide 203 = .ok (.idiv, 1) := by decide +kernel
theorem dX12_divide_204 : decode cX12_divide 204 = .ok (.istore 13, 2) := by decide +kernel
theorem dX12_divide_206 : decode cX12_divide 206 = .ok (.lconst 0, 1) := by decide +kernel
theorem dX12_divide_207 : decode cX12_divide 207 = .ok (.lstore 14, 2) := by decide +kernel
theorem dX12_divide_209 : decode cX12_divide 209 = .ok (.iload 10, 2) := by decide +kernel
theorem dX12_divide_211 : decode cX12_divide 211 = .ok (.istore 16, 2) := by decide +kernel
theorem dX12_divide_213 : decode cX12_divide 213 = .ok (.iload 16, 2) := by decide +kernel
theorem dX12_divide_215 : decode cX12_divide 215 = .ok (.ifCond .le 49, 3) := by decide +kernel
theorem dX12_divide_218 : decode cX12_divide 218 = .ok (.lload 14, 2) := by decide +kernel
theorem dX12_divide_220 : decode cX12_divide 220 = .ok (.ldc2_w 219, 3) := by decide +kernel
theorem dX12_divide_223 : decode cX12_divide 223 = .ok (.lmul, 1) := by decide +kernel
theorem dX12_divide_224 : decode cX12_divide 224 = .ok (.aload_n 0, 1) := by decide +kernel
theorem dX12_divide_225 : decode cX12_divide 225 = .ok (.getfield 13, 3) := by decide +kernel
theorem dX12_divide_228 : decode cX12_divide 228 = .ok (.iload 16, 2) := by decide +kernel
theorem dX12_divide_230 : decode cX12_divide 230 = .ok (.iaload, 1) := by decide +kernel
theorem dX12_divide_231 : decode cX12_divide 231 = .ok (.i2l, 1) := by decide +kernel
theorem dX12_divide_232 : decode cX12_divide 232 = .ok (.ladd, 1) := by decide +kernel
theorem dX12_divide_233 : decode cX12_divide 233 = .ok (.lstore 17, 2) := by decide +kernel
theorem dX12_divide_235 : decode cX12_divide 235 = .ok (.aload 7, 2) := by decide +kernel
theorem dX12_divide_237 : decode cX12_divide 237 = .ok (.iload 8, 2) := by decide +kernel
theorem dX12_divide_239 : decode cX12_divide 239 = .ok (.iload 16, 2) := by decide +kernel
theorem dX12_divide_241 : decode cX12_divide 241 = .ok (.iadd, 1) := by decide +kernel
theorem dX12_divide_242 : decode cX12_divide 242 = .ok (.lload 17, 2) := by decide +kernel
theorem dX12_divide_244 : decode cX12_divide 244 = .ok (.iload 13, 2) := by decide +kernel
theorem dX12_divide_246 : decode cX12_divide 246 = .ok (.i2l, 1) := by decide +kernel
theorem dX12_divide_247 : decode cX12_divide 247 = .ok (.ldiv, 1) := by decide +kernel
theorem dX12_divide_248 : decode cX12_divide 248 = .ok (.l2i, 1) := by decide +kernel
theorem dX12_divide_249 : decode cX12_divide 249 = .ok (.iastore, 1) := by decide +kernel
theorem dX12_divide_250 : decode cX12_divide 250 = .ok (.lload 17, 2) := by decide +kernel
theorem dX12_divide_252 : decode cX12_divide 252 = .ok (.iload 13, 2) := by decide +kernel
theorem dX12_divide_254 : decode cX12_divide 254 = .ok (.i2l, 1) := by decide +kernel
theorem dX12_divide_255 : decode cX12_divide 255 = .ok (.lrem, 1) := by decide +kernel
theorem dX12_divide_256 : decode cX12_divide 256 = .ok (.lstore 14, 2) := by decide +kernel
theorem dX12_divide_258 : decode cX12_divide 258 = .ok (.iinc 16 (-1), 3) := by decide +kernel
theorem dX12_divide_261 : decode cX12_divide 261 = .ok (.goto (-48), 3) := by decide +kernel
theorem dX12_divide_264 : decode cX12_divide 264 = .ok (.aload 7, 2) := by decide +kernel
theorem dX12_divide_266 : decode cX12_divide 266 = .ok (.iload 8, 2) := by decide +kernel
theorem dX12_divide_268 : decode cX12_divide 268 = .ok (.iload 10, 2) := by decide +kernel
theorem dX12_divide_270 : decode cX12_divide 270 = .ok (.iload 11, 2) := by decide +kernel
theorem dX12_divide_272 : decode cX12_divide 272 = .ok (.invokestatic 237, 3) := by decide +kernel
theorem dX12_divide_275 : decode cX12_divide 275 = .ok (.aload 7, 2) := by decide +kernel
theorem dX12_divide_277 : decode cX12_divide 277 = .ok (.iload 8, 2) := by decide +kernel
theorem dX12_divide_279 : decode cX12_divide 279 = .ok (.iaload, 1) := by decide +kernel
theorem dX12_divide_280 : decode cX12_divide 280 = .ok (.ifCond .eq 51, 3) := by decide +kernel
theorem dX12_divide_283 : decode cX12_divide 283 = .ok (.iload 11, 2) := by decide +kernel
theorem dX12_divide_285 : decode cX12_divide 285 = .ok (.iload 12, 2) := by decide +kernel
theorem dX12_divide_287 : decode cX12_divide 287 = .ok (.if_icmp .eq 44, 3) := by decide +kernel
theorem dX12_divide_290 : decode cX12_divide 290 = .ok (.aload_n 0, 1) := by decide +kernel
theorem dX12_divide_291 : decode cX12_divide 291 = .ok (.getfield 20, 3) := by decide +kernel
theorem dX12_divide_294 : decode cX12_divide 294 = .ok (.iconst 0, 1) := by decide +kernel
theorem dX12_divide_295 : decode cX12_divide 295 = .ok (.lconst 1, 1) := by decide +kernel
theorem dX12_divide_296 : decode cX12_divide 296 = .ok (.invokestatic 241, 3) := by decide +kernel
theorem dX12_divide_299 : decode cX12_divide 299 = .ok (.aload 5, 2) := by decide +kernel
theorem dX12_divide_301 : decode cX12_divide 301 = .ok (.iload 6, 2) := by decide +kernel
theorem dX12_divide_303 : decode cX12_divide 303 = .ok (.aload_n 0, 1) := by decide +kernel
theorem dX12_divide_304 : decode cX12_divide 304 = .ok (.getfield 20, 3) := by decide +kernel
theorem dX12_divide_307 : decode cX12_divide 307 = .ok (.iconst 0, 1) := by decide +kernel
theorem dX12_divide_308 : decode cX12_divide 308 = .ok (.iconst 1, 1) := by decide +kernel
theorem dX12_divide_309 : decode cX12_divide 309 = .ok (.aload 5, 2) := by decide +kernel
theorem dX12_divide_311 : decode cX12_divide 311 = .ok (.iload 6, 2) := by decide +kernel
theorem dX12_divide_313 : decode cX12_divide 313 = .ok (.invokestatic 249, 3) := by decide +kernel
theorem dX12_divide_316 : decode cX12_divide 316 = .ok (.aload 7, 2) := by decide +kernel
theorem dX12_divide_318 : decode cX12_divide 318 = .ok (.iload 8, 2) := by decide +kernel
theorem dX12_divide_320 : decode cX12_divide 320 = .ok (.aload_n 3, 1) := by decide +kernel
theorem dX12_divide_321 : decode cX12_divide 321 = .ok (.iload 4, 2) := by decide +kernel
theorem dX12_divide_323 : decode cX12_divide 323 = .ok (.iconst 0, 1) := by decide +kernel
theorem dX12_divide_324 : decode cX12_divide 324 = .ok (.aload 7, 2) := by decide +kernel
theorem dX12_divide_326 : decode cX12_divide 326 = .ok (.iload 8, 2) := by decide +kernel
theorem dX12_divide_328 : decode cX12_divide 328 = .ok (.invokestatic 249, 3) := by decide +kernel
theorem dX12_divide_331 : decode cX12_divide 331 = .ok (.return_, 1) := by decide +kernel
theorem w_163 : Cond.selects RX12 yX12_longDivide yX12_longDivide ∈ tb := sel_11 (q := (yX12_longDivide, 105)) 3 (by decide +kernel)
theorem w_1965 : Cond.fieldLink RX12 20 (TX12 4).1 (TX12 4).2.1 (TX12 4).2.2.1 ∈ tb := tbc_8 82 (by decide +kernel) rfl
theorem w_2460 : Cond.methodLink RX12 241 yX12_put ∈ tb := tbc_10 97 (by decide +kernel) rfl
theorem w_2461 : Cond.static yX12_put ∈ tb := tbc_10 98 (by decide +kernel) rfl
theorem w_2462 : Cond.code yX12_put cX12_put 7 none ∈ tb := tbc_10 99 (by decide +kernel) rfl
theorem w_2537 : Cond.methodLink RX12 233 yX12_copy ∈ tb := tbc_10 174 (by decide +kernel) rfl
theorem w_2538 : Cond.static yX12_copy ∈ tb := tbc_10 175 (by decide +kernel) rfl
theorem w_2539 : Cond.code yX12_copy cX12_copy 6 none ∈ tb := tbc_10 176 (by decide +kernel) rfl
theorem w_2593 : Cond.methodLink RX12 237 yX12_trim ∈ tb := tbc_10 230 (by decide +kernel) rfl
theorem w_2594 : Cond.static yX12_trim ∈ tb := tbc_10 231 (by decide +kernel) rfl
theorem w_2595 : Cond.code yX12_trim cX12_trim 5 none ∈ tb := tbc_10 232 (by decide +kernel) rfl
theorem w_2596 : Cond.methodLink RX12 245 yX12_longDivide ∈ tb := tbc_10 233 (by decide +kernel) rfl
theorem w_2598 : Cond.instanceMethod yX12_longDivide ∈ tb := tbc_10 235 (by decide +kernel) rfl
theorem w_2599 : Cond.code yX12_longDivide cX12_longDivide 26 none ∈ tb := tbc_10 236 (by decide +kernel) rfl
theorem w_2605 : Cond.methodLink RX12 249 yX12_add ∈ tb := tbc_11 2 (by decide +kernel) rfl
theorem w_2606 : Cond.static yX12_add ∈ tb := tbc_11 3 (by decide +kernel) rfl
theorem w_2607 : Cond.code yX12_add cX12_add 16 none ∈ tb := tbc_11 4 (by decide +kernel) rfl
section RW52
variable {p : Program} {l : Launch} {e : Env} {R : Room} {s : State} {m : MethodId} {args : Array Value} {below : List Frame} {meth : Method} {c : Code} {H : Heap} {locs : List Loc} {cells slots : Nat} {Q : State → Prop}
variable {cc : ByteArray} {pc nL : Nat} {ls : Array Slot} {rest st0 : List Value} {G : sG} {n : Nat} {S : sS}
theorem g_X12_20 (Cx : sC G p m c cc nL s args RX12) (hW : sW G n S H) {k : Nat} (hk : k < n) (ht : tau k = .inl 12) {v : Value} (hv : S.2.2.2 k 4 = v) (hdg : decode cc pc = .ok (.getfield 20, 3)) (kk : W p l e R s m args below meth c H locs cells slots Q (F0 m (pc + 3) ls (v :: rest))) : W p l e R s m args below meth c H locs cells slots Q (F0 m pc ls (.ref (G.2.2.1 + k) :: rest)) :=
  sGet Cx inX12 rfl 4 (by decide) w_1965 hW hk ht hv hdg kk
theorem c_X12_241 (Cx : sC G p m c cc nL s args RX12) {rm : Room} {mc ms : Nat} (h1 : rm.cells = mc) (h2 : rm.slots = ms) (h3 : rm.frames + 1 ≤ R.frames ∧ 8 + (7 + 11) + rm.locals ≤ R.locals) : CallB R s args RX12 241 yX12_put cX12_put 7 none (.code yX12_put cX12_put 7 none :: tb) rm mc ms 3 ∧ (Cond.static yX12_put).before args s = true :=
  sCS Cx 3 w_2460 w_2461 w_217 w_2462 (by decide +kernel) h1 h2 h3
theorem c_X12_249 (Cx : sC G p m c cc nL s args RX12) {rm : Room} {mc ms : Nat} (h1 : rm.cells = mc) (h2 : rm.slots = ms) (h3 : rm.frames + 1 ≤ R.frames ∧ 8 + (16 + 11) + rm.locals ≤ R.locals) : CallB R s args RX12 249 yX12_add cX12_add 16 none (.code yX12_add cX12_add 16 none :: tb) rm mc ms 7 ∧ (Cond.static yX12_add).before args s = true :=
  sCS Cx 7 w_2605 w_2606 w_217 w_2607 (by decide +kernel) h1 h2 h3
theorem c_X12_245 (Cx : sC G p m c cc nL s args RX12) {rm : Room} {mc ms : Nat} (h1 : rm.cells = mc) (h2 : rm.slots = ms) (h3 : rm.frames + 1 ≤ R.frames ∧ 8 + (26 + 11) + rm.locals ≤ R.locals) : CallW R s args RX12 RX12 245 yX12_longDivide cX12_longDivide 26 none (.code yX12_longDivide cX12_longDivide 26 none :: tb) rm mc ms 8 :=
  sCw Cx 8 w_2596 w_2598 w_163 w_217 w_2599 (by decide +kernel) h1 h2 h3
theorem c_X12_237 (Cx : sC G p m c cc nL s args RX12) {rm : Room} {mc ms : Nat} (h1 : rm.cells = mc) (h2 : rm.slots = ms) (h3 : rm.frames + 1 ≤ R.frames ∧ 8 + (5 + 11) + rm.locals ≤ R.locals) : CallB R s args RX12 237 yX12_trim cX12_trim 5 none (.code yX12_trim cX12_trim 5 none :: tb) rm mc ms 4 ∧ (Cond.static yX12_trim).before args s = true :=
  sCS Cx 4 w_2593 w_2594 w_217 w_2595 (by decide +kernel) h1 h2 h3
theorem c_X12_233 (Cx : sC G p m c cc nL s args RX12) {rm : Room} {mc ms : Nat} (h1 : rm.cells = mc) (h2 : rm.slots = ms) (h3 : rm.frames + 1 ≤ R.frames ∧ 8 + (6 + 11) + rm.locals ≤ R.locals) : CallB R s args RX12 233 yX12_copy cX12_copy 6 none (.code yX12_copy cX12_copy 6 none :: tb) rm mc ms 4 ∧ (Cond.static yX12_copy).before args s = true :=
  sCS Cx 4 w_2537 w_2538 w_217 w_2539 (by decide +kernel) h1 h2 h3
end RW52
