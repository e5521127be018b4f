theorem dX0_digitAt_0 : decode cX0_digitAt 0 = .ok (.aload_n 2, 1) := by decide +kernel
theorem dX0_digitAt_1 : decode cX0_digitAt 1 = .ok (.getfield 9, 3) := by decide +kernel
theorem dX0_digitAt_4 : decode cX0_digitAt 4 = .ok (.iload_n 3, 1) := by decide +kernel
theorem dX0_digitAt_5 : decode cX0_digitAt 5 = .ok (.iconst 1, 1) := by decide +kernel
theorem dX0_digitAt_6 : decode cX0_digitAt 6 = .ok (.isub, 1) := by decide +kernel
theorem dX0_digitAt_7 : decode cX0_digitAt 7 = .ok (.iaload, 1) := by decide +kernel
theorem dX0_digitAt_8 : decode cX0_digitAt 8 = .ok (.i2l, 1) := by decide +kernel
theorem dX0_digitAt_9 : decode cX0_digitAt 9 = .ok (.lstore 4, 2) := by decide +kernel
theorem dX0_digitAt_11 : decode cX0_digitAt 11 = .ok (.lload 4, 2) := by decide +kernel
theorem dX0_digitAt_13 : decode cX0_digitAt 13 = .ok (.lconst 0, 1) := by decide +kernel
theorem dX0_digitAt_14 : decode cX0_digitAt 14 = .ok (.lcmp, 1) := by decide +kernel
theorem dX0_digitAt_15 : decode cX0_digitAt 15 = .ok (.ifCond .gt 5, 3) := by decide +kernel
theorem dX0_digitAt_20 : decode cX0_digitAt 20 = .ok (.aload_n 0, 1) := by decide +kernel
theorem dX0_digitAt_21 : decode cX0_digitAt 21 = .ok (.getfield 9, 3) := by decide +kernel
theorem dX0_digitAt_24 : decode cX0_digitAt 24 = .ok (.iload_n 1, 1) := by decide +kernel
theorem dX0_digitAt_25 : decode cX0_digitAt 25 = .ok (.iload_n 3, 1) := by decide +kernel
theorem dX0_digitAt_26 : decode cX0_digitAt 26 = .ok (.iadd, 1) := by decide +kernel
theorem dX0_digitAt_27 : decode cX0_digitAt 27 = .ok (.iaload, 1) := by decide +kernel
theorem dX0_digitAt_28 : decode cX0_digitAt 28 = .ok (.i2l, 1) := by decide +kernel
theorem dX0_digitAt_29 : decode cX0_digitAt 29 = .ok (.ldc2_w 19, 3) := by decide +kernel
theorem dX0_digitAt_32 : decode cX0_digitAt 32 = .ok (.lmul, 1) := by decide +kernel
theorem dX0_digitAt_33 : decode cX0_digitAt 33 = .ok (.aload_n 0, 1) := by decide +kernel
theorem dX0_digitAt_34 : decode cX0_digitAt 34 = .ok (.getfield 9, 3) := by decide +kernel
theorem dX0_digitAt_37 : decode cX0_digitAt 37 = .ok (.iload_n 1, 1) := by decide +kernel
theorem dX0_digitAt_38 : decode cX0_digitAt 38 = .ok (.iload_n 3, 1) := by decide +kernel
theorem dX0_digitAt_39 : decode cX0_digitAt 39 = .ok (.iadd, 1) := by decide +kernel
theorem dX0_digitAt_40 : decode cX0_digitAt 40 = .ok (.iconst 1, 1) := by decide +kernel
theorem dX0_digitAt_41 : decode cX0_digitAt 41 = .ok (.isub, 1) := by decide +kernel
theorem dX0_digitAt_42 : decode cX0_digitAt 42 = .ok (.iaload, 1) := by decide +kernel
theorem dX0_digitAt_43 : decode cX0_digitAt 43 = .ok (.i2l, 1) := by decide +kernel
theorem dX0_digitAt_44 : decode cX0_digitAt 44 = .ok (.ladd, 1) := by decide +kernel
theorem dX0_digitAt_45 : decode cX0_digitAt 45 = .ok (.lstore 6, 2) := by decide +kernel
theorem dX0_digitAt_47 : decode cX0_digitAt 47 = .ok (.lload 6, 2) := by decide +kernel
theorem dX0_digitAt_49 : decode cX0_digitAt 49 = .ok (.lload 4, 2) := by decide +kernel
theorem dX0_digitAt_51 : decode cX0_digitAt 51 = .ok (.ldiv, 1) := by decide +kernel
theorem dX0_digitAt_52 : decode cX0_digitAt 52 = .ok (.lstore 8, 2) := by decide +kernel
theorem dX0_digitAt_54 : decode cX0_digitAt 54 = .ok (.lload 6, 2) := by decide +kernel
theorem dX0_digitAt_56 : decode cX0_digitAt 56 = .ok (.lload 8, 2) := by decide +kernel
theorem dX0_digitAt_58 : decode cX0_digitAt 58 = .ok (.lload 4, 2) := by decide +kernel
theorem dX0_digitAt_60 : decode cX0_digitAt 60 = .ok (.lmul, 1) := by decide +kernel
theorem dX0_digitAt_61 : decode cX0_digitAt 61 = .ok (.lsub, 1) := by decide +kernel
theorem dX0_digitAt_62 : decode cX0_digitAt 62 = .ok (.lstore 10, 2) := by decide +kernel
theorem dX0_digitAt_64 : decode cX0_digitAt 64 = .ok (.iconst 0, 1) := by decide +kernel
theorem dX0_digitAt_65 : decode cX0_digitAt 65 = .ok (.istore 12, 2) := by decide +kernel
theorem dX0_digitAt_67 : decode cX0_digitAt 67 = .ok (.iload 12, 2) := by decide +kernel
theorem dX0_digitAt_69 : decode cX0_digitAt 69 = .ok (.iconst 3, 1) := by decide +kernel
theorem dX0_digitAt_70 : decode cX0_digitAt 70 = .ok (.if_icmp .ge 77, 3) := by decide +kernel
theorem dX0_digitAt_73 : decode cX0_digitAt 73 = .ok (.lload 10, 2) := by decide +kernel
theorem dX0_digitAt_75 : decode cX0_digitAt 75 = .ok (.ldc2_w 19, 3) := by decide +kernel
theorem dX0_digitAt_78 : decode cX0_digitAt 78 = .ok (.lcmp, 1) := by decide +kernel
theorem dX0_digitAt_79 : decode cX0_digitAt 79 = .ok (.ifCond .ge 68, 3) := by decide +kernel
theorem dX0_digitAt_82 : decode cX0_digitAt 82 = .ok (.lload 8, 2) := by decide +kernel
theorem dX0_digitAt_84 : decode cX0_digitAt 84 = .ok (.ldc2_w 19, 3) := by decide +kernel
theorem dX0_digitAt_87 : decode cX0_digitAt 87 = .ok (.lcmp, 1) := by decide +kernel
theorem dX0_digitAt_88 : decode cX0_digitAt 88 = .ok (.ifCond .ge 40, 3) := by decide +kernel
theorem dX0_digitAt_91 : decode cX0_digitAt 91 = .ok (.lload 8, 2) := by decide +kernel
theorem dX0_digitAt_93 : decode cX0_digitAt 93 = .ok (.aload_n 2, 1) := by decide +kernel
theorem dX0_digitAt_94 : decode cX0_digitAt 94 = .ok (.getfield 9, 3) := by decide +kernel
theorem dX0_digitAt_97 : decode cX0_digitAt 97 = .ok (.iload_n 3, 1) := by decide +kernel
theorem dX0_digitAt_98 : decode cX0_digitAt 98 = .ok (.iconst 2, 1) := by decide +kernel
theorem dX0_digitAt_99 : decode cX0_digitAt 99 = .ok (.isub, 1) := by decide +kernel
theorem dX0_digitAt_100 : decode cX0_digitAt 100 = .ok (.iaload, 1) := by decide +kernel
theorem dX0_digitAt_101 : decode cX0_digitAt 101 = .ok (.i2l, 1) := by decide +kernel
theorem dX0_digitAt_102 : decode cX0_digitAt 102 = .ok (.lmul, 1) := by decide +kernel
theorem dX0_digitAt_103 : decode cX0_digitAt 103 = .ok (.lload 10, 2) := by decide +kernel
theorem dX0_digitAt_105 : decode cX0_digitAt 105 = .ok (.ldc2_w 19, 3) := by decide +kernel
theorem dX0_digitAt_108 : decode cX0_digitAt 108 = .ok (.lmul, 1) := by decide +kernel
theorem dX0_digitAt_109 : decode cX0_digitAt 109 = .ok (.aload_n 0, 1) := by decide +kernel
theorem dX0_digitAt_110 : decode cX0_digitAt 110 = .ok (.getfield 9, 3) := by decide +kernel
theorem dX0_digitAt_113 : decode cX0_digitAt 113 = .ok (.iload_n 1, 1) := by decide +kernel
theorem dX0_digitAt_114 : decode cX0_digitAt 114 = .ok (.iload_n 3, 1) := by decide +kernel
theorem dX0_digitAt_115 : decode cX0_digitAt 115 = .ok (.iadd, 1) := by decide +kernel
theorem dX0_digitAt_116 : decode cX0_digitAt 116 = .ok (.iconst 2, 1) := by decide +kernel
theorem dX0_digitAt_117 : decode cX0_digitAt 117 = .ok (.isub, 1) := by decide +kernel
theorem dX0_digitAt_118 : decode cX0_digitAt 118 = .ok (.iaload, 1) := by decide +kernel
theorem dX0_digitAt_119 : decode cX0_digitAt 119 = .ok (.i2l, 1) := by decide +kernel
theorem dX0_digitAt_120 : decode cX0_digitAt 120 = .ok (.ladd, 1) := by decide +kernel
theorem dX0_digitAt_121 : decode cX0_digitAt 121 = .ok (.lcmp, 1) := by decide +kernel
theorem dX0_digitAt_122 : decode cX0_digitAt 122 = .ok (.ifCond .gt 6, 3) := by decide +kernel
theorem dX0_digitAt_125 : decode cX0_digitAt 125 = .ok (.goto 22, 3) := by decide +kernel
theorem dX0_digitAt_128 : decode cX0_digitAt 128 = .ok (.lload 8, 2) := by decide +kernel
theorem dX0_digitAt_130 : decode cX0_digitAt 130 = .ok (.lconst 1, 1) := by decide +kernel
theorem dX0_digitAt_131 : decode cX0_digitAt 131 = .ok (.lsub, 1) := by decide +kernel
theorem dX0_digitAt_132 : decode cX0_digitAt 132 = .ok (.lstore 8, 2) := by decide +kernel
theorem dX0_digitAt_134 : decode cX0_digitAt 134 = .ok (.lload 10, 2) := by decide +kernel
theorem dX0_digitAt_136 : decode cX0_digitAt 136 = .ok (.lload 4, 2) := by decide +kernel
theorem dX0_digitAt_138 : decode cX0_digitAt 138 = .ok (.ladd, 1) := by decide +kernel
theorem dX0_digitAt_139 : decode cX0_digitAt 139 = .ok (.lstore 10, 2) := by decide +kernel
theorem dX0_digitAt_141 : decode cX0_digitAt 141 = .ok (.iinc 12 1, 3) := by decide +kernel
theorem dX0_digitAt_144 : decode cX0_digitAt 144 = .ok (.goto (-77), 3) := by decide +kernel
theorem dX0_digitAt_147 : decode cX0_digitAt 147 = .ok (.lconst 0, 1) := by decide +kernel
theorem dX0_digitAt_148 : decode cX0_digitAt 148 = .ok (.lstore 12, 2) := by decide +kernel
theorem dX0_digitAt_150 : decode cX0_digitAt 150 = .ok (.iconst 0, 1) := by decide +kernel
theorem dX0_digitAt_151 : decode cX0_digitAt 151 = .ok (.istore 14, 2) := by decide +kernel
theorem dX0_digitAt_153 : decode cX0_digitAt 153 = .ok (.iload 14, 2) := by decide +kernel
theorem dX0_digitAt_155 : decode cX0_digitAt 155 = .ok (.iload_n 3, 1) := by decide +kernel
theorem dX0_digitAt_156 : decode cX0_digitAt 156 = .ok (.if_icmp .ge 84, 3) := by decide +kernel
theorem dX0_digitAt_159 : decode cX0_digitAt 159 = .ok (.lload 8, 2) := by decide +kernel
theorem dX0_digitAt_161 : decode cX0_digitAt 161 = .ok (.aload_n 2, 1) := by decide +kernel
theorem dX0_digitAt_162 : decode cX0_digitAt 162 = .ok (.getfield 9, 3) := by decide +kernel
theorem dX0_digitAt_165 : decode cX0_digitAt 165 = .ok (.iload 14, 2) := by decide +kernel
theorem dX0_digitAt_167 : decode cX0_digitAt 167 = .ok (.iaload, 1) := by decide +kernel
theorem dX0_digitAt_168 : decode cX0_digitAt 168 = .ok (.i2l, 1) := by decide +kernel
theorem dX0_digitAt_169 : decode cX0_digitAt 169 = .ok (.lmul, 1) := by decide +kernel
theorem dX0_digitAt_170 : decode cX0_digitAt 170 = .ok (.lload 12, 2) := by decide +kernel
theorem dX0_digitAt_172 : decode cX0_digitAt 172 = .ok (.ladd, 1) := by decide +kernel
theorem dX0_digitAt_173 : decode cX0_digitAt 173 = .ok (.lstore 15, 2) := by decide +kernel
theorem dX0_digitAt_175 : decode cX0_digitAt 175 = .ok (.lload 15, 2) := by decide +kernel
theorem dX0_digitAt_177 : decode cX0_digitAt 177 = .ok (.ldc2_w 19, 3) := by decide +kernel
theorem dX0_digitAt_180 : decode cX0_digitAt 180 = .ok (.ldiv, 1) := by decide +kernel
theorem dX0_digitAt_181 : decode cX0_digitAt 181 = .ok (.lstore 12, 2) := by decide +kernel
theorem dX0_digitAt_183 : decode cX0_digitAt 183 = .ok (.aload_n 0, 1) := by decide +kernel
theorem dX0_digitAt_184 : decode cX0_digitAt 184 = .ok (.getfield 9, 3) := by decide +kernel
theorem dX0_digitAt_187 : decode cX0_digitAt 187 = .ok (.iload_n 1, 1) := by decide +kernel
theorem dX0_digitAt_188 : decode cX0_digitAt 188 = .ok (.iload 14, 2) := by decide +kernel
theorem dX0_digitAt_190 : decode cX0_digitAt 190 = .ok (.iadd, 1) := by decide +kernel
theorem dX0_digitAt_191 : decode cX0_digitAt 191 = .ok (.iaload, 1) := by decide +kernel
theorem dX0_digitAt_192 : decode cX0_digitAt 192 = .ok (.lload 15, 2) := by decide +kernel
theorem dX0_digitAt_194 : decode cX0_digitAt 194 = .ok (.lload 12, 2) := by decide +kernel
theorem dX0_digitAt_196 : decode cX0_digitAt 196 = .ok (.ldc2_w 19, 3) := by decide +kernel
theorem dX0_digitAt_199 : decode cX0_digitAt 199 = .ok (.lmul, 1) := by decide +kernel
theorem dX0_digitAt_200 : decode cX0_digitAt 200 = .ok (.lsub, 1) := by decide +kernel
theorem dX0_digitAt_201 : decode cX0_digitAt 201 = .ok (.l2i, 1) := by decide +kernel
theorem dX0_digitAt_202 : decode cX0_digitAt 202 = .ok (.isub, 1) := by decide +kernel
theorem dX0_digitAt_203 : decode cX0_digitAt 203 = .ok (.istore 17, 2) := by decide +kernel
theorem dX0_digitAt_205 : decode cX0_digitAt 205 = .ok (.iload 17, 2) := by decide +kernel
theorem dX0_digitAt_207 : decode cX0_digitAt 207 = .ok (.ifCond .ge 16, 3) := by decide +kernel
theorem dX0_digitAt_210 : decode cX0_digitAt 210 = .ok (.iload 17, 2) := by decide +kernel
theorem dX0_digitAt_212 : decode cX0_digitAt 212 = .ok (.ldc 87, 2) := by decide +kernel
theorem dX0_digitAt_214 : decode cX0_digitAt 214 = .ok (.iadd, 1) := by decide +kernel
theorem dX0_digitAt_215 : decode cX0_digitAt 215 = .ok (.istore 17, 2) := by decide +kernel
theorem dX0_digitAt_217 : decode cX0_digitAt 217 = .ok (.lload 12, 2) := by decide +kernel
theorem dX0_digitAt_219 : decode cX0_digitAt 219 = .ok (.lconst 1, 1) := by decide +kernel
theorem dX0_digitAt_220 : decode cX0_digitAt 220 = .ok (.ladd, 1) := by decide +kernel
theorem dX0_digitAt_221 : decode cX0_digitAt 221 = .ok (.lstore 12, 2) := by decide +kernel
theorem dX0_digitAt_223 : decode cX0_digitAt 223 = .ok (.aload_n 0, 1) := by decide +kernel
theorem dX0_digitAt_224 : decode cX0_digitAt 224 = .ok (.getfield 9, 3) := by decide +kernel
theorem dX0_digitAt_227 : decode cX0_digitAt 227 = .ok (.iload_n 1, 1) := by decide +kernel
theorem dX0_digitAt_228 : decode cX0_digitAt 228 = .ok (.iload 14, 2) := by decide +kernel
theorem dX0_digitAt_230 : decode cX0_digitAt 230 = .ok (.iadd, 1) := by decide +kernel
theorem dX0_digitAt_231 : decode cX0_digitAt 231 = .ok (.iload 17, 2) := by decide +kernel
theorem dX0_digitAt_233 : decode cX0_digitAt 233 = .ok (.iastore, 1) := by decide +kernel
theorem dX0_digitAt_234 : decode cX0_digitAt 234 = .ok (.iinc 14 1, 3) := by decide +kernel
theorem dX0_digitAt_237 : decode cX0_digitAt 237 = .ok (.goto (-84), 3) := by decide +kernel
theorem dX0_digitAt_240 : decode cX0_digitAt 240 = .ok (.aload_n 0, 1) := by decide +kernel
theorem dX0_digitAt_241 : decode cX0_digitAt 241 = .ok (.getfield 9, 3) := by decide +kernel
theorem dX0_digitAt_244 : decode cX0_digitAt 244 = .ok (.iload_n 1, 1) := by decide +kernel
theorem dX0_digitAt_245 : decode cX0_digitAt 245 = .ok (.iload_n 3, 1) := by decide +kernel
theorem dX0_digitAt_246 : decode cX0_digitAt 246 = .ok (.iadd, 1) := by decide +kernel
theorem dX0_digitAt_247 : decode cX0_digitAt 247 = .ok (.iaload, 1) := by decide +kernel
theorem dX0_digitAt_248 : decode cX0_digitAt 248 = .ok (.i2l, 1) := by decide +kernel
theorem dX0_digitAt_249 : decode cX0_digitAt 249 = .ok (.lload 12, 2) := by decide +kernel
theorem dX0_digitAt_251 : decode cX0_digitAt 251 = .ok (.lcmp, 1) := by decide +kernel
theorem dX0_digitAt_252 : decode cX0_digitAt 252 = .ok (.ifCond .ge 7, 3) := by decide +kernel
theorem dX0_digitAt_255 : decode cX0_digitAt 255 = .ok (.iconst 1, 1) := by decide +kernel
theorem dX0_digitAt_256 : decode cX0_digitAt 256 = .ok (.goto 4, 3) := by decide +kernel
theorem dX0_digitAt_259 : decode cX0_digitAt 259 = .ok (.iconst 0, 1) := by decide +kernel
theorem dX0_digitAt_260 : decode cX0_digitAt 260 = .ok (.istore 14, 2) := by decide +kernel
theorem dX0_digitAt_262 : decode cX0_digitAt 262 = .ok (.aload_n 0, 1) := by decide +kernel
theorem dX0_digitAt_263 : decode cX0_digitAt 263 = .ok (.getfield 9, 3) := by decide +kernel
theorem dX0_digitAt_266 : decode cX0_digitAt 266 = .ok (.iload_n 1, 1) := by decide +kernel
theorem dX0_digitAt_267 : decode cX0_digitAt 267 = .ok (.iload_n 3, 1) := by decide +kernel
theorem dX0_digitAt_268 : decode cX0_digitAt 268 = .ok (.iadd, 1) := by decide +kernel
theorem dX0_digitAt_269 : decode cX0_digitAt 269 = .ok (.iconst 0, 1) := by decide +kernel
theorem dX0_digitAt_270 : decode cX0_digitAt 270 = .ok (.iastore, 1) := by decide +kernel
theorem dX0_digitAt_271 : decode cX0_digitAt 271 = .ok (.iload 14, 2) := by decide +kernel
theorem dX0_digitAt_273 : decode cX0_digitAt 273 = .ok (.ifCond .ne 7, 3) := by decide +kernel
theorem dX0_digitAt_276 : decode cX0_digitAt 276 = .ok (.lload 8, 2) := by decide +kernel
theorem dX0_digitAt_278 : decode cX0_digitAt 278 = .ok (.l2i, 1) := by decide +kernel
theorem dX0_digitAt_279 : decode cX0_digitAt 279 = .ok (.ireturn, 1) := by decide +kernel
theorem dX0_digitAt_280 : decode cX0_digitAt 280 = .ok (.iconst 0, 1) := by decide +kernel
theorem dX0_digitAt_281 : decode cX0_digitAt 281 = .ok (.istore 15, 2) := by decide +kernel
theorem dX0_digitAt_283 : decode cX0_digitAt 283 = .ok (.iconst 0, 1) := by decide +kernel
theorem dX0_digitAt_284 : decode cX0_digitAt 284 = .ok (.istore 16, 2) := by decide +kernel
theorem dX0_digitAt_286 : decode cX0_digitAt 286 = .ok (.iload 16, 2) := by decide +kernel
theorem dX0_digitAt_288 : decode cX0_digitAt 288 = .ok (.iload_n 3, 1) := by decide +kernel
theorem dX0_digitAt_289 : decode cX0_digitAt 289 = .ok (.if_icmp .ge 62, 3) := by decide +kernel
theorem dX0_digitAt_292 : decode cX0_digitAt 292 = .ok (.aload_n 0, 1) := by decide +kernel
theorem dX0_digitAt_293 : decode cX0_digitAt 293 = .ok (.getfield 9, 3) := by decide +kernel
theorem dX0_digitAt_296 : decode cX0_digitAt 296 = .ok (.iload_n 1, 1) := by decide +kernel
theorem dX0_digitAt_297 : decode cX0_digitAt 297 = .ok (.iload 16, 2) := by decide +kernel
theorem dX0_digitAt_299 : decode cX0_digitAt 299 = .ok (.iadd, 1) := by decide +kernel
theorem dX0_digitAt_300 : decode cX0_digitAt 300 = .ok (.iaload, 1) := by decide +kernel
theorem dX0_digitAt_301 : decode cX0_digitAt 301 = .ok (.aload_n 2, 1) := by decide +kernel
theorem dX0_digitAt_302 : decode cX0_digitAt 302 = .ok (.getfield 9, 3) := by decide +kernel
theorem dX0_digitAt_305 : decode cX0_digitAt 305 = .ok (.iload 16, 2) := by decide +kernel
theorem dX0_digitAt_307 : decode cX0_digitAt 307 = .ok (.iaload, 1) := by decide +kernel
theorem dX0_digitAt_308 : decode cX0_digitAt 308 = .ok (.iadd, 1) := by decide +kernel
theorem dX0_digitAt_309 : decode cX0_digitAt 309 = .ok (.iload 15, 2) := by decide +kernel
theorem dX0_digitAt_311 : decode cX0_digitAt 311 = .ok (.iadd, 1) := by decide +kernel
theorem dX0_digitAt_312 : decode cX0_digitAt 312 = .ok (.istore 17, 2) := by decide +kernel
theorem dX0_digitAt_314 : decode cX0_digitAt 314 = .ok (.iload 17, 2) := by decide +kernel
theorem dX0_digitAt_316 : decode cX0_digitAt 316 = .ok (.ldc 87, 2) := by decide +kernel
theorem dX0_digitAt_318 : decode cX0_digitAt 318 = .ok (.if_icmp .lt 7, 3) := by decide +kernel
theorem dX0_digitAt_321 : decode cX0_digitAt 321 = .ok (.iconst 1, 1) := by decide +kernel
theorem dX0_digitAt_322 : decode cX0_digitAt 322 = .ok (.goto 4, 3) := by decide +kernel
theorem dX0_digitAt_325 : decode cX0_digitAt 325 = .ok (.iconst 0, 1) := by decide +kernel
theorem dX0_digitAt_326 : decode cX0_digitAt 326 = .ok (.istore 15, 2) := by decide +kernel
theorem dX0_digitAt_328 : decode cX0_digitAt 328 = .ok (.aload_n 0, 1) := by decide +kernel
theorem dX0_digitAt_329 : decode cX0_digitAt 329 = .ok (.getfield 9, 3) := by decide +kernel
theorem dX0_digitAt_332 : decode cX0_digitAt 332 = .ok (.iload_n 1, 1) := by decide +kernel
theorem dX0_digitAt_333 : decode cX0_digitAt 333 = .ok (.iload 16, 2) := by decide +kernel
theorem dX0_digitAt_335 : decode cX0_digitAt 335 = .ok (.iadd, 1) := by decide +kernel
theorem dX0_digitAt_336 : decode cX0_digitAt 336 = .ok (.iload 17, 2) := by decide +kernel
theorem dX0_digitAt_338 : decode cX0_digitAt 338 = .ok (.iload 15, 2) := by decide +kernel
theorem dX0_digitAt_340 : decode cX0_digitAt 340 = .ok (.ldc 87, 2) := by decide +kernel
theorem dX0_digitAt_342 : decode cX0_digitAt 342 = .ok (.imul, 1) := by decide +kernel
theorem dX0_digitAt_343 : decode cX0_digitAt 343 = .ok (.isub, 1) := by decide +kernel
theorem dX0_digitAt_344 : decode cX0_digitAt 344 = .ok (.iastore, 1) := by decide +kernel
theorem dX0_digitAt_345 : decode cX0_digitAt 345 = .ok (.iinc 16 1, 3) := by decide +kernel
theorem dX0_digitAt_348 : decode cX0_digitAt 348 = .ok (.goto (-62), 3) := by decide +kernel
theorem dX0_digitAt_351 : decode cX0_digitAt 351 = .ok (.lload 8, 2) := by decide +kernel
theorem dX0_digitAt_353 : decode cX0_digitAt 353 = .ok (.l2i, 1) := by decide +kernel
theorem dX0_digitAt_354 : decode cX0_digitAt 354 = .ok (.iconst 1, 1) := by decide +kernel
theorem dX0_digitAt_355 : decode cX0_digitAt 355 = .ok (.isub, 1) := by decide +kernel
theorem dX0_digitAt_356 : decode cX0_digitAt 356 = .ok (.ireturn, 1) := by decide +kernel
theorem dX0_scale_0 : decode cX0_scale 0 = .ok (.lconst 0, 1) := by decide +kernel
theorem dX0_scale_1 : decode cX0_scale 1 = .ok (.lstore_n 2, 1) := by decide +kernel
theorem dX0_scale_2 : decode cX0_scale 2 = .ok (.iconst 0, 1) := by decide +kernel
theorem dX0_scale_3 : decode cX0_scale 3 = .ok (.istore 4, 2) := by decide +kernel
theorem dX0_scale_5 : decode cX0_scale 5 = .ok (.iload 4, 2) := by decide +kernel
theorem dX0_scale_7 : decode cX0_scale 7 = .ok (.aload_n 0, 1) := by decide +kernel
theorem dX0_scale_8 : decode cX0_scale 8 = .ok (.getfield 24, 3) := by decide +kernel
theorem dX0_scale_11 : decode cX0_scale 11 = .ok (.if_icmp .ge 47, 3) := by decide +kernel
theorem dX0_scale_14 : decode cX0_scale 14 = .ok (.aload_n 0, 1) := by decide +kernel
theorem dX0_scale_15 : decode cX0_scale 15 = .ok (.getfield 9, 3) := by decide +kernel
theorem dX0_scale_18 : decode cX0_scale 18 = .ok (.iload 4, 2) := by decide +kernel
theorem dX0_scale_20 : decode cX0_scale 20 = .ok (.iaload, 1) := by decide +kernel
theorem dX0_scale_21 : decode cX0_scale 21 = .ok (.i2l, 1) := by decide +kernel
theorem dX0_scale_22 : decode cX0_scale 22 = .ok (.iload_n 1, 1) := by decide +kernel
theorem dX0_scale_23 : decode cX0_scale 23 = .ok (.i2l, 1) := by decide +kernel
theorem dX0_scale_24 : decode cX0_scale 24 = .ok (.lmul, 1) := by decide +kernel
theorem dX0_scale_25 : decode cX0_scale 25 = .ok (.lload_n 2, 1) := by decide +kernel
theorem dX0_scale_26 : decode cX0_scale 26 = .ok (.ladd, 1) := by decide +kernel
theorem dX0_scale_27 : decode cX0_scale 27 = .ok (.lstore 5, 2) := by decide +kernel
theorem dX0_scale_29 : decode cX0_scale 29 = .ok (.lload 5, 2) := by decide +kernel
theorem dX0_scale_31 : decode cX0_scale 31 = .ok (.ldc2_w 19, 3) := by decide +kernel
theorem dX0_scale_34 : decode cX0_scale 34 = .ok (.ldiv, 1) := by decide +kernel
theorem dX0_scale_35 : decode cX0_scale 35 = .ok (.lstore_n 2, 1) := by decide +kernel
theorem dX0_scale_36 : decode cX0_scale 36 = .ok (.aload_n 0, 1) := by decide +kernel
theorem dX0_scale_37 : decode cX0_scale 37 = .ok (.getfield 9, 3) := by decide +kernel
theorem dX0_scale_40 : decode cX0_scale 40 = .ok (.iload 4, 2) := by decide +kernel
theorem dX0_scale_42 : decode cX0_scale 42 = .ok (.lload 5, 2) := by decide +kernel
theorem dX0_scale_44 : decode cX0_scale 44 = .ok (.lload_n 2, 1) := by decide +kernel
theorem dX0_scale_45 : decode cX0_scale 45 = .ok (.ldc2_w 19, 3) := by decide +kernel
theorem dX0_scale_48 : decode cX0_scale 48 = .ok (.lmul, 1) := by decide +kernel
theorem dX0_scale_49 : decode cX0_scale 49 = .ok (.lsub, 1) := by decide +kernel
theorem dX0_scale_50 : decode cX0_scale 50 = .ok (.l2i, 1) := by decide +kernel
theorem dX0_scale_51 : decode cX0_scale 51 = .ok (.iastore, 1) := by decide +kernel
theorem dX0_scale_52 : decode cX0_scale 52 = .ok (.iinc 4 1, 3) := by decide +kernel
theorem dX0_scale_55 : decode cX0_scale 55 = .ok (.goto (-50), 3) := by decide +kernel
theorem dX0_scale_58 : decode cX0_scale 58 = .ok (.aload_n 0, 1) := by decide +kernel
theorem dX0_scale_59 : decode cX0_scale 59 = .ok (.getfield 24, 3) := by decide +kernel
theorem dX0_scale_62 : decode cX0_scale 62 = .ok (.bipush 32, 2) := by decide +kernel
theorem dX0_scale_64 : decode cX0_scale 64 = .ok (.if_icmp .ge 14, 3) := by decide +kernel
theorem dX0_scale_67 : decode cX0_scale 67 = .ok (.aload_n 0, 1) := by decide +kernel
theorem dX0_scale_68 : decode cX0_scale 68 = .ok (.getfield 9, 3) := by decide +kernel
theorem dX0_scale_71 : decode cX0_scale 71 = .ok (.aload_n 0, 1) := by decide +kernel
theorem dX0_scale_72 : decode cX0_scale 72 = .ok (.getfield 24, 3) := by decide +kernel
theorem dX0_scale_75 : decode cX0_scale 75 = .ok (.lload_n 2, 1) := by decide +kernel
theorem dX0_scale_76 : decode cX0_scale 76 = .ok (.l2i, 1) := by decide +kernel
theorem dX0_scale_77 : decode cX0_scale 77 = .ok (.iastore, 1) := by decide +kernel
theorem dX0_scale_78 : decode cX0_scale 78 = .ok (.return_, 1) := by decide +kernel
