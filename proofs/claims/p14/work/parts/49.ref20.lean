theorem dX12_add_0 : decode cX12_add 0 = .ok (.aload_n 0, 1) := by decide +kernel
theorem dX12_add_1 : decode cX12_add 1 = .ok (.iload_n 1, 1) := by decide +kernel
theorem dX12_add_2 : decode cX12_add 2 = .ok (.invokestatic 225, 3) := by decide +kernel
theorem dX12_add_5 : decode cX12_add 5 = .ok (.istore 7, 2) := by decide +kernel
theorem dX12_add_7 : decode cX12_add 7 = .ok (.iload 4, 2) := by decide +kernel
theorem dX12_add_9 : decode cX12_add 9 = .ok (.ifCond .eq 12, 3) := by decide +kernel
theorem dX12_add_12 : decode cX12_add 12 = .ok (.aload_n 2, 1) := by decide +kernel
theorem dX12_add_13 : decode cX12_add 13 = .ok (.iload_n 3, 1) := by decide +kernel
theorem dX12_add_14 : decode cX12_add 14 = .ok (.invokestatic 225, 3) := by decide +kernel
theorem dX12_add_17 : decode cX12_add 17 = .ok (.ineg, 1) := by decide +kernel
theorem dX12_add_18 : decode cX12_add 18 = .ok (.goto 8, 3) := by decide +kernel
theorem dX12_add_21 : decode cX12_add 21 = .ok (.aload_n 2, 1) := by decide +kernel
theorem dX12_add_22 : decode cX12_add 22 = .ok (.iload_n 3, 1) := by decide +kernel
theorem dX12_add_23 : decode cX12_add 23 = .ok (.invokestatic 225, 3) := by decide +kernel
theorem dX12_add_26 : decode cX12_add 26 = .ok (.istore 8, 2) := by decide +kernel
theorem dX12_add_28 : decode cX12_add 28 = .ok (.aload_n 0, 1) := by decide +kernel
theorem dX12_add_29 : decode cX12_add 29 = .ok (.iload_n 1, 1) := by decide +kernel
theorem dX12_add_30 : decode cX12_add 30 = .ok (.invokestatic 221, 3) := by decide +kernel
theorem dX12_add_33 : decode cX12_add 33 = .ok (.istore 9, 2) := by decide +kernel
theorem dX12_add_35 : decode cX12_add 35 = .ok (.aload_n 2, 1) := by decide +kernel
theorem dX12_add_36 : decode cX12_add 36 = .ok (.iload_n 3, 1) := by decide +kernel
theorem dX12_add_37 : decode cX12_add 37 = .ok (.invokestatic 221, 3) := by decide +kernel
theorem dX12_add_40 : decode cX12_add 40 = .ok (.istore 10, 2) := by decide +kernel
theorem dX12_add_42 : decode cX12_add 42 = .ok (.iload 7, 2) := by decide +kernel
theorem dX12_add_44 : decode cX12_add 44 = .ok (.ifCond .eq 15, 3) := by decide +kernel
theorem dX12_add_47 : decode cX12_add 47 = .ok (.iload 8, 2) := by decide +kernel
theorem dX12_add_49 : decode cX12_add 49 = .ok (.ifCond .eq 10, 3) := by decide +kernel
theorem dX12_add_52 : decode cX12_add 52 = .ok (.iload 7, 2) := by decide +kernel
theorem dX12_add_54 : decode cX12_add 54 = .ok (.iload 8, 2) := by decide +kernel
theorem dX12_add_56 : decode cX12_add 56 = .ok (.if_icmp .ne 122, 3) := by decide +kernel
theorem dX12_add_59 : decode cX12_add 59 = .ok (.lconst 0, 1) := by decide +kernel
theorem dX12_add_60 : decode cX12_add 60 = .ok (.lstore 11, 2) := by decide +kernel
theorem dX12_add_62 : decode cX12_add 62 = .ok (.iconst 0, 1) := by decide +kernel
theorem dX12_add_63 : decode cX12_add 63 = .ok (.istore 13, 2) := by decide +kernel
theorem dX12_add_65 : decode cX12_add 65 = .ok (.iload 13, 2) := by decide +kernel
theorem dX12_add_67 : decode cX12_add 67 = .ok (.iload 9, 2) := by decide +kernel
theorem dX12_add_69 : decode cX12_add 69 = .ok (.if_icmp .lt 17, 3) := by decide +kernel
theorem dX12_add_72 : decode cX12_add 72 = .ok (.iload 13, 2) := by decide +kernel
theorem dX12_add_74 : decode cX12_add 74 = .ok (.iload 10, 2) := by decide +kernel
theorem dX12_add_76 : decode cX12_add 76 = .ok (.if_icmp .lt 10, 3) := by decide +kernel
theorem dX12_add_79 : decode cX12_add 79 = .ok (.lload 11, 2) := by decide +kernel
theorem dX12_add_81 : decode cX12_add 81 = .ok (.lconst 0, 1) := by decide +kernel
theorem dX12_add_82 : decode cX12_add 82 = .ok (.lcmp, 1) := by decide +kernel
theorem dX12_add_83 : decode cX12_add 83 = .ok (.ifCond .le 74, 3) := by decide +kernel
theorem dX12_add_86 : decode cX12_add 86 = .ok (.iinc 13 1, 3) := by decide +kernel
theorem dX12_add_89 : decode cX12_add 89 = .ok (.lload 11, 2) := by decide +kernel
theorem dX12_add_91 : decode cX12_add 91 = .ok (.iload 13, 2) := by decide +kernel
theorem dX12_add_93 : decode cX12_add 93 = .ok (.iload 9, 2) := by decide +kernel
theorem dX12_add_95 : decode cX12_add 95 = .ok (.if_icmp .gt 12, 3) := by decide +kernel
theorem dX12_add_98 : decode cX12_add 98 = .ok (.aload_n 0, 1) := by decide +kernel
theorem dX12_add_99 : decode cX12_add 99 = .ok (.iload_n 1, 1) := by decide +kernel
theorem dX12_add_100 : decode cX12_add 100 = .ok (.iload 13, 2) := by decide +kernel
theorem dX12_add_102 : decode cX12_add 102 = .ok (.iadd, 1) := by decide +kernel
theorem dX12_add_103 : decode cX12_add 103 = .ok (.iaload, 1) := by decide +kernel
theorem dX12_add_104 : decode cX12_add 104 = .ok (.goto 4, 3) := by decide +kernel
theorem dX12_add_107 : decode cX12_add 107 = .ok (.iconst 0, 1) := by decide +kernel
theorem dX12_add_108 : decode cX12_add 108 = .ok (.i2l, 1) := by decide +kernel
theorem dX12_add_109 : decode cX12_add 109 = .ok (.ladd, 1) := by decide +kernel
theorem dX12_add_110 : decode cX12_add 110 = .ok (.iload 13, 2) := by decide +kernel
theorem dX12_add_112 : decode cX12_add 112 = .ok (.iload 10, 2) := by decide +kernel
theorem dX12_add_114 : decode cX12_add 114 = .ok (.if_icmp .gt 12, 3) := by decide +kernel
theorem dX12_add_117 : decode cX12_add 117 = .ok (.aload_n 2, 1) := by decide +kernel
theorem dX12_add_118 : decode cX12_add 118 = .ok (.iload_n 3, 1) := by decide +kernel
theorem dX12_add_119 : decode cX12_add 119 = .ok (.iload 13, 2) := by decide +kernel
theorem dX12_add_121 : decode cX12_add 121 = .ok (.iadd, 1) := by decide +kernel
theorem dX12_add_122 : decode cX12_add 122 = .ok (.iaload, 1) := by decide +kernel
theorem dX12_add_123 : decode cX12_add 123 = .ok (.goto 4, 3) := by decide +kernel
theorem dX12_add_126 : decode cX12_add 126 = .ok (.iconst 0, 1) := by decide +kernel
theorem dX12_add_127 : decode cX12_add 127 = .ok (.i2l, 1) := by decide +kernel
theorem dX12_add_128 : decode cX12_add 128 = .ok (.ladd, 1) := by decide +kernel
theorem dX12_add_129 : decode cX12_add 129 = .ok (.lstore 14, 2) := by decide +kernel
theorem dX12_add_131 : decode cX12_add 131 = .ok (.aload 5, 2) := by decide +kernel
theorem dX12_add_133 : decode cX12_add 133 = .ok (.iload 6, 2) := by decide +kernel
theorem dX12_add_135 : decode cX12_add 135 = .ok (.iload 13, 2) := by decide +kernel
theorem dX12_add_137 : decode cX12_add 137 = .ok (.iadd, 1) := by decide +kernel
theorem dX12_add_138 : decode cX12_add 138 = .ok (.lload 14, 2) := by decide +kernel
theorem dX12_add_140 : decode cX12_add 140 = .ok (.ldc2_w 219, 3) := by decide +kernel
theorem dX12_add_143 : decode cX12_add 143 = .ok (.lrem, 1) := by decide +kernel
theorem dX12_add_144 : decode cX12_add 144 = .ok (.l2i, 1) := by decide +kernel
theorem dX12_add_145 : decode cX12_add 145 = .ok (.iastore, 1) := by decide +kernel
theorem dX12_add_146 : decode cX12_add 146 = .ok (.lload 14, 2) := by decide +kernel
theorem dX12_add_148 : decode cX12_add 148 = .ok (.ldc2_w 219, 3) := by decide +kernel
theorem dX12_add_151 : decode cX12_add 151 = .ok (.ldiv, 1) := by decide +kernel
theorem dX12_add_152 : decode cX12_add 152 = .ok (.lstore 11, 2) := by decide +kernel
theorem dX12_add_154 : decode cX12_add 154 = .ok (.goto (-89), 3) := by decide +kernel
theorem dX12_add_157 : decode cX12_add 157 = .ok (.aload 5, 2) := by decide +kernel
theorem dX12_add_159 : decode cX12_add 159 = .ok (.iload 6, 2) := by decide +kernel
theorem dX12_add_161 : decode cX12_add 161 = .ok (.iload 7, 2) := by decide +kernel
theorem dX12_add_163 : decode cX12_add 163 = .ok (.ifCond .ne 8, 3) := by decide +kernel
theorem dX12_add_166 : decode cX12_add 166 = .ok (.iload 8, 2) := by decide +kernel
theorem dX12_add_168 : decode cX12_add 168 = .ok (.goto 5, 3) := by decide +kernel
theorem dX12_add_171 : decode cX12_add 171 = .ok (.iload 7, 2) := by decide +kernel
theorem dX12_add_173 : decode cX12_add 173 = .ok (.iload 13, 2) := by decide +kernel
theorem dX12_add_175 : decode cX12_add 175 = .ok (.imul, 1) := by decide +kernel
theorem dX12_add_176 : decode cX12_add 176 = .ok (.iastore, 1) := by decide +kernel
theorem dX12_add_177 : decode cX12_add 177 = .ok (.return_, 1) := by decide +kernel
theorem dX12_add_178 : decode cX12_add 178 = .ok (.aload_n 0, 1) := by decide +kernel
theorem dX12_add_179 : decode cX12_add 179 = .ok (.iload_n 1, 1) := by decide +kernel
theorem dX12_add_180 : decode cX12_add 180 = .ok (.aload_n 2, 1) := by decide +kernel
theorem dX12_add_181 : decode cX12_add 181 = .ok (.iload_n 3, 1) := by decide +kernel
theorem dX12_add_182 : decode cX12_add 182 = .ok (.invokestatic 228, 3) := by decide +kernel
theorem dX12_add_185 : decode cX12_add 185 = .ok (.ifCond .lt 7, 3) := by decide +kernel
theorem dX12_add_188 : decode cX12_add 188 = .ok (.iconst 1, 1) := by decide +kernel
theorem dX12_add_189 : decode cX12_add 189 = .ok (.goto 4, 3) := by decide +kernel
theorem dX12_add_192 : decode cX12_add 192 = .ok (.iconst 0, 1) := by decide +kernel
theorem dX12_add_193 : decode cX12_add 193 = .ok (.istore 11, 2) := by decide +kernel
theorem dX12_add_195 : decode cX12_add 195 = .ok (.iload 11, 2) := by decide +kernel
theorem dX12_add_197 : decode cX12_add 197 = .ok (.ifCond .eq 8, 3) := by decide +kernel
theorem dX12_add_200 : decode cX12_add 200 = .ok (.iload 9, 2) := by decide +kernel
theorem dX12_add_202 : decode cX12_add 202 = .ok (.goto 5, 3) := by decide +kernel
theorem dX12_add_205 : decode cX12_add 205 = .ok (.iload 10, 2) := by decide +kernel
theorem dX12_add_207 : decode cX12_add 207 = .ok (.istore 12, 2) := by decide +kernel
theorem dX12_add_209 : decode cX12_add 209 = .ok (.iconst 0, 1) := by decide +kernel
theorem dX12_add_210 : decode cX12_add 210 = .ok (.istore 13, 2) := by decide +kernel
theorem dX12_add_212 : decode cX12_add 212 = .ok (.iconst 1, 1) := by decide +kernel
theorem dX12_add_213 : decode cX12_add 213 = .ok (.istore 14, 2) := by decide +kernel
theorem dX12_add_215 : decode cX12_add 215 = .ok (.iload 14, 2) := by decide +kernel
theorem dX12_add_217 : decode cX12_add 217 = .ok (.iload 12, 2) := by decide +kernel
theorem dX12_add_219 : decode cX12_add 219 = .ok (.if_icmp .gt 108, 3) := by decide +kernel
theorem dX12_add_222 : decode cX12_add 222 = .ok (.iload 11, 2) := by decide +kernel
theorem dX12_add_224 : decode cX12_add 224 = .ok (.ifCond .eq 33, 3) := by decide +kernel
theorem dX12_add_227 : decode cX12_add 227 = .ok (.aload_n 0, 1) := by decide +kernel
theorem dX12_add_228 : decode cX12_add 228 = .ok (.iload_n 1, 1) := by decide +kernel
theorem dX12_add_229 : decode cX12_add 229 = .ok (.iload 14, 2) := by decide +kernel
theorem dX12_add_231 : decode cX12_add 231 = .ok (.iadd, 1) := by decide +kernel
theorem dX12_add_232 : decode cX12_add 232 = .ok (.iaload, 1) := by decide +kernel
theorem dX12_add_233 : decode cX12_add 233 = .ok (.iload 14, 2) := by decide +kernel
theorem dX12_add_235 : decode cX12_add 235 = .ok (.iload 10, 2) := by decide +kernel
theorem dX12_add_237 : decode cX12_add 237 = .ok (.if_icmp .gt 12, 3) := by decide +kernel
theorem dX12_add_240 : decode cX12_add 240 = .ok (.aload_n 2, 1) := by decide +kernel
theorem dX12_add_241 : decode cX12_add 241 = .ok (.iload_n 3, 1) := by decide +kernel
theorem dX12_add_242 : decode cX12_add 242 = .ok (.iload 14, 2) := by decide +kernel
theorem dX12_add_244 : decode cX12_add 244 = .ok (.iadd, 1) := by decide +kernel
theorem dX12_add_245 : decode cX12_add 245 = .ok (.iaload, 1) := by decide +kernel
theorem dX12_add_246 : decode cX12_add 246 = .ok (.goto 4, 3) := by decide +kernel
theorem dX12_add_249 : decode cX12_add 249 = .ok (.iconst 0, 1) := by decide +kernel
theorem dX12_add_250 : decode cX12_add 250 = .ok (.isub, 1) := by decide +kernel
theorem dX12_add_251 : decode cX12_add 251 = .ok (.iload 13, 2) := by decide +kernel
theorem dX12_add_253 : decode cX12_add 253 = .ok (.isub, 1) := by decide +kernel
theorem dX12_add_254 : decode cX12_add 254 = .ok (.goto 30, 3) := by decide +kernel
theorem dX12_add_257 : decode cX12_add 257 = .ok (.aload_n 2, 1) := by decide +kernel
theorem dX12_add_258 : decode cX12_add 258 = .ok (.iload_n 3, 1) := by decide +kernel
theorem dX12_add_259 : decode cX12_add 259 = .ok (.iload 14, 2) := by decide +kernel
theorem dX12_add_261 : decode cX12_add 261 = .ok (.iadd, 1) := by decide +kernel
theorem dX12_add_262 : decode cX12_add 262 = .ok (.iaload, 1) := by decide +kernel
theorem dX12_add_263 : decode cX12_add 263 = .ok (.iload 14, 2) := by decide +kernel
theorem dX12_add_265 : decode cX12_add 265 = .ok (.iload 9, 2) := by decide +kernel
theorem dX12_add_267 : decode cX12_add 267 = .ok (.if_icmp .gt 12, 3) := by decide +kernel
theorem dX12_add_270 : decode cX12_add 270 = .ok (.aload_n 0, 1) := by decide +kernel
theorem dX12_add_271 : decode cX12_add 271 = .ok (.iload_n 1, 1) := by decide +kernel
theorem dX12_add_272 : decode cX12_add 272 = .ok (.iload 14, 2) := by decide +kernel
theorem dX12_add_274 : decode cX12_add 274 = .ok (.iadd, 1) := by decide +kernel
theorem dX12_add_275 : decode cX12_add 275 = .ok (.iaload, 1) := by decide +kernel
theorem dX12_add_276 : decode cX12_add 276 = .ok (.goto 4, 3) := by decide +kernel
theorem dX12_add_279 : decode cX12_add 279 = .ok (.iconst 0, 1) := by decide +kernel
theorem dX12_add_280 : decode cX12_add 280 = .ok (.isub, 1) := by decide +kernel
theorem dX12_add_281 : decode cX12_add 281 = .ok (.iload 13, 2) := by decide +kernel
theorem dX12_add_283 : decode cX12_add 283 = .ok (.isub, 1) := by decide +kernel
theorem dX12_add_284 : decode cX12_add 284 = .ok (.istore 15, 2) := by decide +kernel
theorem dX12_add_286 : decode cX12_add 286 = .ok (.iload 15, 2) := by decide +kernel
theorem dX12_add_288 : decode cX12_add 288 = .ok (.ifCond .ge 7, 3) := by decide +kernel
theorem dX12_add_291 : decode cX12_add 291 = .ok (.iconst 1, 1) := by decide +kernel
theorem dX12_add_292 : decode cX12_add 292 = .ok (.goto 4, 3) := by decide +kernel
theorem dX12_add_295 : decode cX12_add 295 = .ok (.iconst 0, 1) := by decide +kernel
theorem dX12_add_296 : decode cX12_add 296 = .ok (.istore 13, 2) := by decide +kernel
theorem dX12_add_298 : decode cX12_add 298 = .ok (.aload 5, 2) := by decide +kernel
theorem dX12_add_300 : decode cX12_add 300 = .ok (.iload 6, 2) := by decide +kernel
theorem dX12_add_302 : decode cX12_add 302 = .ok (.iload 14, 2) := by decide +kernel
theorem dX12_add_304 : decode cX12_add 304 = .ok (.iadd, 1) := by decide +kernel
theorem dX12_add_305 : decode cX12_add 305 = .ok (.iload 15, 2) := by decide +kernel
theorem dX12_add_307 : decode cX12_add 307 = .ok (.ifCond .ge 11, 3) := by decide +kernel
theorem dX12_add_310 : decode cX12_add 310 = .ok (.iload 15, 2) := by decide +kernel
theorem dX12_add_312 : decode cX12_add 312 = .ok (.ldc 232, 2) := by decide +kernel
theorem dX12_add_314 : decode cX12_add 314 = .ok (.iadd, 1) := by decide +kernel
theorem dX12_add_315 : decode cX12_add 315 = .ok (.goto 5, 3) := by decide +kernel
theorem dX12_add_318 : decode cX12_add 318 = .ok (.iload 15, 2) := by decide +kernel
theorem dX12_add_320 : decode cX12_add 320 = .ok (.iastore, 1) := by decide +kernel
theorem dX12_add_321 : decode cX12_add 321 = .ok (.iinc 14 1, 3) := by decide +kernel
theorem dX12_add_324 : decode cX12_add 324 = .ok (.goto (-109), 3) := by decide +kernel
theorem dX12_add_327 : decode cX12_add 327 = .ok (.iload 12, 2) := by decide +kernel
theorem dX12_add_329 : decode cX12_add 329 = .ok (.ifCond .le 20, 3) := by decide +kernel
theorem dX12_add_332 : decode cX12_add 332 = .ok (.aload 5, 2) := by decide +kernel
theorem dX12_add_334 : decode cX12_add 334 = .ok (.iload 6, 2) := by decide +kernel
theorem dX12_add_336 : decode cX12_add 336 = .ok (.iload 12, 2) := by decide +kernel
theorem dX12_add_338 : decode cX12_add 338 = .ok (.iadd, 1) := by decide +kernel
theorem dX12_add_339 : decode cX12_add 339 = .ok (.iaload, 1) := by decide +kernel
theorem dX12_add_340 : decode cX12_add 340 = .ok (.ifCond .ne 9, 3) := by decide +kernel
theorem dX12_add_343 : decode cX12_add 343 = .ok (.iinc 12 (-1), 3) := by decide +kernel
theorem dX12_add_346 : decode cX12_add 346 = .ok (.goto (-19), 3) := by decide +kernel
theorem dX12_add_349 : decode cX12_add 349 = .ok (.aload 5, 2) := by decide +kernel
theorem dX12_add_351 : decode cX12_add 351 = .ok (.iload 6, 2) := by decide +kernel
theorem dX12_add_353 : decode cX12_add 353 = .ok (.iload 11, 2) := by decide +kernel
theorem dX12_add_355 : decode cX12_add 355 = .ok (.ifCond .eq 8, 3) := by decide +kernel
theorem dX12_add_358 : decode cX12_add 358 = .ok (.iload 7, 2) := by decide +kernel
theorem dX12_add_360 : decode cX12_add 360 = .ok (.goto 5, 3) := by decide +kernel
theorem dX12_add_363 : decode cX12_add 363 = .ok (.iload 8, 2) := by decide +kernel
theorem dX12_add_365 : decode cX12_add 365 = .ok (.iload 12, 2) := by decide +kernel
theorem dX12_add_367 : decode cX12_add 367 = .ok (.imul, 1) := by decide +kernel
theorem dX12_add_368 : decode cX12_add 368 = .ok (.iastore, 1) := by decide +kernel
theorem dX12_add_369 : decode cX12_add 369 = .ok (.return_, 1) := by decide +kernel
theorem w_2600 : Cond.constant RX12 232 (iv 1000000000) ∈ tb := tbc_10 237 (by decide +kernel) rfl
