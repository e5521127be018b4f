theorem dX12_named_0 : decode cX12_named 0 = .ok (.aload_n 0, 1) := by decide +kernel
theorem dX12_named_1 : decode cX12_named 1 = .ok (.getfield 315, 3) := by decide +kernel
theorem dX12_named_4 : decode cX12_named 4 = .ok (.istore_n 2, 1) := by decide +kernel
theorem dX12_named_5 : decode cX12_named 5 = .ok (.aload_n 0, 1) := by decide +kernel
theorem dX12_named_6 : decode cX12_named 6 = .ok (.iload_n 2, 1) := by decide +kernel
theorem dX12_named_7 : decode cX12_named 7 = .ok (.invokevirtual 361, 3) := by decide +kernel
theorem dX12_named_10 : decode cX12_named 10 = .ok (.istore_n 3, 1) := by decide +kernel
theorem dX12_named_11 : decode cX12_named 11 = .ok (.aload_n 0, 1) := by decide +kernel
theorem dX12_named_12 : decode cX12_named 12 = .ok (.dup, 1) := by decide +kernel
theorem dX12_named_13 : decode cX12_named 13 = .ok (.getfield 315, 3) := by decide +kernel
theorem dX12_named_16 : decode cX12_named 16 = .ok (.iconst 1, 1) := by decide +kernel
theorem dX12_named_17 : decode cX12_named 17 = .ok (.iadd, 1) := by decide +kernel
theorem dX12_named_18 : decode cX12_named 18 = .ok (.putfield 315, 3) := by decide +kernel
theorem dX12_named_21 : decode cX12_named 21 = .ok (.aload_n 0, 1) := by decide +kernel
theorem dX12_named_22 : decode cX12_named 22 = .ok (.bipush 91, 2) := by decide +kernel
theorem dX12_named_24 : decode cX12_named 24 = .ok (.invokevirtual 318, 3) := by decide +kernel
theorem dX12_named_27 : decode cX12_named 27 = .ok (.istore 4, 2) := by decide +kernel
theorem dX12_named_29 : decode cX12_named 29 = .ok (.iload_n 3, 1) := by decide +kernel
theorem dX12_named_30 : decode cX12_named 30 = .ok (.iconst (-1), 1) := by decide +kernel
theorem dX12_named_31 : decode cX12_named 31 = .ok (.if_icmp .ne 7, 3) := by decide +kernel
theorem dX12_named_34 : decode cX12_named 34 = .ok (.iconst 0, 1) := by decide +kernel
theorem dX12_named_35 : decode cX12_named 35 = .ok (.goto 9, 3) := by decide +kernel
theorem dX12_named_38 : decode cX12_named 38 = .ok (.aload_n 0, 1) := by decide +kernel
theorem dX12_named_39 : decode cX12_named 39 = .ok (.getfield 62, 3) := by decide +kernel
theorem dX12_named_42 : decode cX12_named 42 = .ok (.iload_n 3, 1) := by decide +kernel
theorem dX12_named_43 : decode cX12_named 43 = .ok (.iaload, 1) := by decide +kernel
theorem dX12_named_44 : decode cX12_named 44 = .ok (.istore 5, 2) := by decide +kernel
theorem dX12_named_46 : decode cX12_named 46 = .ok (.iload 5, 2) := by decide +kernel
theorem dX12_named_48 : decode cX12_named 48 = .ok (.iconst 2, 1) := by decide +kernel
theorem dX12_named_49 : decode cX12_named 49 = .ok (.if_icmp .eq 27, 3) := by decide +kernel
theorem dX12_named_52 : decode cX12_named 52 = .ok (.iload 5, 2) := by decide +kernel
theorem dX12_named_54 : decode cX12_named 54 = .ok (.iconst 3, 1) := by decide +kernel
theorem dX12_named_55 : decode cX12_named 55 = .ok (.if_icmp .eq 21, 3) := by decide +kernel
theorem dX12_named_58 : decode cX12_named 58 = .ok (.iload 5, 2) := by decide +kernel
theorem dX12_named_60 : decode cX12_named 60 = .ok (.iconst 5, 1) := by decide +kernel
theorem dX12_named_61 : decode cX12_named 61 = .ok (.if_icmp .ne 8, 3) := by decide +kernel
theorem dX12_named_64 : decode cX12_named 64 = .ok (.iload 4, 2) := by decide +kernel
theorem dX12_named_66 : decode cX12_named 66 = .ok (.ifCond .eq 10, 3) := by decide +kernel
theorem dX12_named_69 : decode cX12_named 69 = .ok (.aload_n 0, 1) := by decide +kernel
theorem dX12_named_70 : decode cX12_named 70 = .ok (.iconst 2, 1) := by decide +kernel
theorem dX12_named_71 : decode cX12_named 71 = .ok (.iload_n 2, 1) := by decide +kernel
theorem dX12_named_72 : decode cX12_named 72 = .ok (.invokevirtual 321, 3) := by decide +kernel
theorem dX12_named_75 : decode cX12_named 75 = .ok (.return_, 1) := by decide +kernel
theorem dX12_named_76 : decode cX12_named 76 = .ok (.iload 5, 2) := by decide +kernel
theorem dX12_named_78 : decode cX12_named 78 = .ok (.iconst 5, 1) := by decide +kernel
theorem dX12_named_79 : decode cX12_named 79 = .ok (.if_icmp .ne 16, 3) := by decide +kernel
theorem dX12_named_82 : decode cX12_named 82 = .ok (.aload_n 0, 1) := by decide +kernel
theorem dX12_named_83 : decode cX12_named 83 = .ok (.iload_n 1, 1) := by decide +kernel
theorem dX12_named_84 : decode cX12_named 84 = .ok (.aload_n 0, 1) := by decide +kernel
theorem dX12_named_85 : decode cX12_named 85 = .ok (.getfield 71, 3) := by decide +kernel
theorem dX12_named_88 : decode cX12_named 88 = .ok (.iload_n 3, 1) := by decide +kernel
theorem dX12_named_89 : decode cX12_named 89 = .ok (.iaload, 1) := by decide +kernel
theorem dX12_named_90 : decode cX12_named 90 = .ok (.i2l, 1) := by decide +kernel
theorem dX12_named_91 : decode cX12_named 91 = .ok (.invokevirtual 431, 3) := by decide +kernel
theorem dX12_named_94 : decode cX12_named 94 = .ok (.return_, 1) := by decide +kernel
theorem dX12_named_95 : decode cX12_named 95 = .ok (.aload_n 0, 1) := by decide +kernel
theorem dX12_named_96 : decode cX12_named 96 = .ok (.iconst 0, 1) := by decide +kernel
theorem dX12_named_97 : decode cX12_named 97 = .ok (.putfield 441, 3) := by decide +kernel
theorem dX12_named_100 : decode cX12_named 100 = .ok (.iload 4, 2) := by decide +kernel
theorem dX12_named_102 : decode cX12_named 102 = .ok (.ifCond .eq 57, 3) := by decide +kernel
theorem dX12_named_105 : decode cX12_named 105 = .ok (.aload_n 0, 1) := by decide +kernel
theorem dX12_named_106 : decode cX12_named 106 = .ok (.dup, 1) := by decide +kernel
theorem dX12_named_107 : decode cX12_named 107 = .ok (.getfield 315, 3) := by decide +kernel
theorem dX12_named_110 : decode cX12_named 110 = .ok (.iconst 1, 1) := by decide +kernel
theorem dX12_named_111 : decode cX12_named 111 = .ok (.iadd, 1) := by decide +kernel
theorem dX12_named_112 : decode cX12_named 112 = .ok (.putfield 315, 3) := by decide +kernel
theorem dX12_named_115 : decode cX12_named 115 = .ok (.aload_n 0, 1) := by decide +kernel
theorem dX12_named_116 : decode cX12_named 116 = .ok (.invokevirtual 444, 3) := by decide +kernel
theorem dX12_named_119 : decode cX12_named 119 = .ok (.aload_n 0, 1) := by decide +kernel
theorem dX12_named_120 : decode cX12_named 120 = .ok (.getfield 270, 3) := by decide +kernel
theorem dX12_named_123 : decode cX12_named 123 = .ok (.ifCond .ne 26, 3) := by decide +kernel
theorem dX12_named_126 : decode cX12_named 126 = .ok (.aload_n 0, 1) := by decide +kernel
theorem dX12_named_127 : decode cX12_named 127 = .ok (.bipush 44, 2) := by decide +kernel
theorem dX12_named_129 : decode cX12_named 129 = .ok (.invokevirtual 318, 3) := by decide +kernel
theorem dX12_named_132 : decode cX12_named 132 = .ok (.ifCond .eq 17, 3) := by decide +kernel
theorem dX12_named_135 : decode cX12_named 135 = .ok (.aload_n 0, 1) := by decide +kernel
theorem dX12_named_136 : decode cX12_named 136 = .ok (.dup, 1) := by decide +kernel
theorem dX12_named_137 : decode cX12_named 137 = .ok (.getfield 315, 3) := by decide +kernel
theorem dX12_named_140 : decode cX12_named 140 = .ok (.iconst 1, 1) := by decide +kernel
theorem dX12_named_141 : decode cX12_named 141 = .ok (.iadd, 1) := by decide +kernel
theorem dX12_named_142 : decode cX12_named 142 = .ok (.putfield 315, 3) := by decide +kernel
theorem dX12_named_145 : decode cX12_named 145 = .ok (.aload_n 0, 1) := by decide +kernel
theorem dX12_named_146 : decode cX12_named 146 = .ok (.invokevirtual 444, 3) := by decide +kernel
theorem dX12_named_149 : decode cX12_named 149 = .ok (.aload_n 0, 1) := by decide +kernel
theorem dX12_named_150 : decode cX12_named 150 = .ok (.dup, 1) := by decide +kernel
theorem dX12_named_151 : decode cX12_named 151 = .ok (.getfield 315, 3) := by decide +kernel
theorem dX12_named_154 : decode cX12_named 154 = .ok (.iconst 1, 1) := by decide +kernel
theorem dX12_named_155 : decode cX12_named 155 = .ok (.iadd, 1) := by decide +kernel
theorem dX12_named_156 : decode cX12_named 156 = .ok (.putfield 315, 3) := by decide +kernel
theorem dX12_named_159 : decode cX12_named 159 = .ok (.aload_n 0, 1) := by decide +kernel
theorem dX12_named_160 : decode cX12_named 160 = .ok (.getfield 270, 3) := by decide +kernel
theorem dX12_named_163 : decode cX12_named 163 = .ok (.ifCond .eq 4, 3) := by decide +kernel
theorem dX12_named_166 : decode cX12_named 166 = .ok (.return_, 1) := by decide +kernel
theorem dX12_named_167 : decode cX12_named 167 = .ok (.aload_n 0, 1) := by decide +kernel
theorem dX12_named_168 : decode cX12_named 168 = .ok (.getfield 68, 3) := by decide +kernel
theorem dX12_named_171 : decode cX12_named 171 = .ok (.iload_n 3, 1) := by decide +kernel
theorem dX12_named_172 : decode cX12_named 172 = .ok (.iaload, 1) := by decide +kernel
theorem dX12_named_173 : decode cX12_named 173 = .ok (.iconst (-1), 1) := by decide +kernel
theorem dX12_named_174 : decode cX12_named 174 = .ok (.if_icmp .eq 7, 3) := by decide +kernel
theorem dX12_named_177 : decode cX12_named 177 = .ok (.iconst 2, 1) := by decide +kernel
theorem dX12_named_178 : decode cX12_named 178 = .ok (.goto 18, 3) := by decide +kernel
theorem dX12_named_181 : decode cX12_named 181 = .ok (.aload_n 0, 1) := by decide +kernel
theorem dX12_named_182 : decode cX12_named 182 = .ok (.getfield 65, 3) := by decide +kernel
theorem dX12_named_185 : decode cX12_named 185 = .ok (.iload_n 3, 1) := by decide +kernel
theorem dX12_named_186 : decode cX12_named 186 = .ok (.iaload, 1) := by decide +kernel
theorem dX12_named_187 : decode cX12_named 187 = .ok (.iconst (-1), 1) := by decide +kernel
theorem dX12_named_188 : decode cX12_named 188 = .ok (.if_icmp .eq 7, 3) := by decide +kernel
theorem dX12_named_191 : decode cX12_named 191 = .ok (.iconst 1, 1) := by decide +kernel
theorem dX12_named_192 : decode cX12_named 192 = .ok (.goto 4, 3) := by decide +kernel
theorem dX12_named_195 : decode cX12_named 195 = .ok (.iconst 0, 1) := by decide +kernel
theorem dX12_named_196 : decode cX12_named 196 = .ok (.istore 6, 2) := by decide +kernel
theorem dX12_named_198 : decode cX12_named 198 = .ok (.aload_n 0, 1) := by decide +kernel
theorem dX12_named_199 : decode cX12_named 199 = .ok (.getfield 441, 3) := by decide +kernel
theorem dX12_named_202 : decode cX12_named 202 = .ok (.iload 6, 2) := by decide +kernel
theorem dX12_named_204 : decode cX12_named 204 = .ok (.if_icmp .eq 9, 3) := by decide +kernel
theorem dX12_named_207 : decode cX12_named 207 = .ok (.aload_n 0, 1) := by decide +kernel
theorem dX12_named_208 : decode cX12_named 208 = .ok (.iconst 2, 1) := by decide +kernel
theorem dX12_named_209 : decode cX12_named 209 = .ok (.iload_n 2, 1) := by decide +kernel
theorem dX12_named_210 : decode cX12_named 210 = .ok (.invokevirtual 321, 3) := by decide +kernel
theorem dX12_named_213 : decode cX12_named 213 = .ok (.iconst 0, 1) := by decide +kernel
theorem dX12_named_214 : decode cX12_named 214 = .ok (.istore 7, 2) := by decide +kernel
theorem dX12_named_216 : decode cX12_named 216 = .ok (.iconst 0, 1) := by decide +kernel
theorem dX12_named_217 : decode cX12_named 217 = .ok (.istore 8, 2) := by decide +kernel
theorem dX12_named_219 : decode cX12_named 219 = .ok (.iload 8, 2) := by decide +kernel
theorem dX12_named_221 : decode cX12_named 221 = .ok (.iload 6, 2) := by decide +kernel
theorem dX12_named_223 : decode cX12_named 223 = .ok (.if_icmp .ge 105, 3) := by decide +kernel
theorem dX12_named_226 : decode cX12_named 226 = .ok (.aload_n 0, 1) := by decide +kernel
theorem dX12_named_227 : decode cX12_named 227 = .ok (.getfield 270, 3) := by decide +kernel
theorem dX12_named_230 : decode cX12_named 230 = .ok (.ifCond .ne 98, 3) := by decide +kernel
theorem dX12_named_233 : decode cX12_named 233 = .ok (.iload 8, 2) := by decide +kernel
theorem dX12_named_235 : decode cX12_named 235 = .ok (.ifCond .ne 12, 3) := by decide +kernel
theorem dX12_named_238 : decode cX12_named 238 = .ok (.aload_n 0, 1) := by decide +kernel
theorem dX12_named_239 : decode cX12_named 239 = .ok (.getfield 65, 3) := by decide +kernel
theorem dX12_named_242 : decode cX12_named 242 = .ok (.iload_n 3, 1) := by decide +kernel
theorem dX12_named_243 : decode cX12_named 243 = .ok (.iaload, 1) := by decide +kernel
theorem dX12_named_244 : decode cX12_named 244 = .ok (.goto 9, 3) := by decide +kernel
theorem dX12_named_247 : decode cX12_named 247 = .ok (.aload_n 0, 1) := by decide +kernel
theorem dX12_named_248 : decode cX12_named 248 = .ok (.getfield 68, 3) := by decide +kernel
theorem dX12_named_251 : decode cX12_named 251 = .ok (.iload_n 3, 1) := by decide +kernel
theorem dX12_named_252 : decode cX12_named 252 = .ok (.iaload, 1) := by decide +kernel
theorem dX12_named_253 : decode cX12_named 253 = .ok (.istore 9, 2) := by decide +kernel
theorem dX12_named_255 : decode cX12_named 255 = .ok (.aload_n 0, 1) := by decide +kernel
theorem dX12_named_256 : decode cX12_named 256 = .ok (.getfield 91, 3) := by decide +kernel
theorem dX12_named_259 : decode cX12_named 259 = .ok (.iload 8, 2) := by decide +kernel
theorem dX12_named_261 : decode cX12_named 261 = .ok (.iaload, 1) := by decide +kernel
theorem dX12_named_262 : decode cX12_named 262 = .ok (.aload_n 0, 1) := by decide +kernel
theorem dX12_named_263 : decode cX12_named 263 = .ok (.getfield 65, 3) := by decide +kernel
theorem dX12_named_266 : decode cX12_named 266 = .ok (.iload 9, 2) := by decide +kernel
theorem dX12_named_268 : decode cX12_named 268 = .ok (.iaload, 1) := by decide +kernel
theorem dX12_named_269 : decode cX12_named 269 = .ok (.if_icmp .lt 20, 3) := by decide +kernel
theorem dX12_named_272 : decode cX12_named 272 = .ok (.aload_n 0, 1) := by decide +kernel
theorem dX12_named_273 : decode cX12_named 273 = .ok (.getfield 91, 3) := by decide +kernel
theorem dX12_named_276 : decode cX12_named 276 = .ok (.iload 8, 2) := by decide +kernel
theorem dX12_named_278 : decode cX12_named 278 = .ok (.iaload, 1) := by decide +kernel
theorem dX12_named_279 : decode cX12_named 279 = .ok (.aload_n 0, 1) := by decide +kernel
theorem dX12_named_280 : decode cX12_named 280 = .ok (.getfield 68, 3) := by decide +kernel
theorem dX12_named_283 : decode cX12_named 283 = .ok (.iload 9, 2) := by decide +kernel
theorem dX12_named_285 : decode cX12_named 285 = .ok (.iaload, 1) := by decide +kernel
theorem dX12_named_286 : decode cX12_named 286 = .ok (.if_icmp .le 9, 3) := by decide +kernel
theorem dX12_named_289 : decode cX12_named 289 = .ok (.aload_n 0, 1) := by decide +kernel
theorem dX12_named_290 : decode cX12_named 290 = .ok (.iconst 5, 1) := by decide +kernel
theorem dX12_named_291 : decode cX12_named 291 = .ok (.iload_n 2, 1) := by decide +kernel
theorem dX12_named_292 : decode cX12_named 292 = .ok (.invokevirtual 321, 3) := by decide +kernel
theorem dX12_named_295 : decode cX12_named 295 = .ok (.iload 7, 2) := by decide +kernel
theorem dX12_named_297 : decode cX12_named 297 = .ok (.aload_n 0, 1) := by decide +kernel
theorem dX12_named_298 : decode cX12_named 298 = .ok (.iload 9, 2) := by decide +kernel
theorem dX12_named_300 : decode cX12_named 300 = .ok (.invokevirtual 410, 3) := by decide +kernel
theorem dX12_named_303 : decode cX12_named 303 = .ok (.imul, 1) := by decide +kernel
theorem dX12_named_304 : decode cX12_named 304 = .ok (.aload_n 0, 1) := by decide +kernel
theorem dX12_named_305 : decode cX12_named 305 = .ok (.getfield 91, 3) := by decide +kernel
theorem dX12_named_308 : decode cX12_named 308 = .ok (.iload 8, 2) := by decide +kernel
theorem dX12_named_310 : decode cX12_named 310 = .ok (.iaload, 1) := by decide +kernel
theorem dX12_named_311 : decode cX12_named 311 = .ok (.iadd, 1) := by decide +kernel
theorem dX12_named_312 : decode cX12_named 312 = .ok (.aload_n 0, 1) := by decide +kernel
theorem dX12_named_313 : decode cX12_named 313 = .ok (.getfield 65, 3) := by decide +kernel
theorem dX12_named_316 : decode cX12_named 316 = .ok (.iload 9, 2) := by decide +kernel
theorem dX12_named_318 : decode cX12_named 318 = .ok (.iaload, 1) := by decide +kernel
theorem dX12_named_319 : decode cX12_named 319 = .ok (.isub, 1) := by decide +kernel
theorem dX12_named_320 : decode cX12_named 320 = .ok (.istore 7, 2) := by decide +kernel
theorem dX12_named_322 : decode cX12_named 322 = .ok (.iinc 8 1, 3) := by decide +kernel
theorem dX12_named_325 : decode cX12_named 325 = .ok (.goto (-106), 3) := by decide +kernel
theorem dX12_named_328 : decode cX12_named 328 = .ok (.aload_n 0, 1) := by decide +kernel
theorem dX12_named_329 : decode cX12_named 329 = .ok (.getfield 270, 3) := by decide +kernel
theorem dX12_named_332 : decode cX12_named 332 = .ok (.ifCond .eq 4, 3) := by decide +kernel
theorem dX12_named_335 : decode cX12_named 335 = .ok (.return_, 1) := by decide +kernel
theorem dX12_named_336 : decode cX12_named 336 = .ok (.aload_n 0, 1) := by decide +kernel
theorem dX12_named_337 : decode cX12_named 337 = .ok (.iload_n 1, 1) := by decide +kernel
theorem dX12_named_338 : decode cX12_named 338 = .ok (.iload 5, 2) := by decide +kernel
theorem dX12_named_340 : decode cX12_named 340 = .ok (.iconst 2, 1) := by decide +kernel
theorem dX12_named_341 : decode cX12_named 341 = .ok (.if_icmp .ne 21, 3) := by decide +kernel
theorem dX12_named_344 : decode cX12_named 344 = .ok (.aload_n 0, 1) := by decide +kernel
theorem dX12_named_345 : decode cX12_named 345 = .ok (.getfield 74, 3) := by decide +kernel
theorem dX12_named_348 : decode cX12_named 348 = .ok (.aload_n 0, 1) := by decide +kernel
theorem dX12_named_349 : decode cX12_named 349 = .ok (.getfield 71, 3) := by decide +kernel
theorem dX12_named_352 : decode cX12_named 352 = .ok (.iload_n 3, 1) := by decide +kernel
theorem dX12_named_353 : decode cX12_named 353 = .ok (.iaload, 1) := by decide +kernel
theorem dX12_named_354 : decode cX12_named 354 = .ok (.iload 7, 2) := by decide +kernel
theorem dX12_named_356 : decode cX12_named 356 = .ok (.iadd, 1) := by decide +kernel
theorem dX12_named_357 : decode cX12_named 357 = .ok (.iaload, 1) := by decide +kernel
theorem dX12_named_358 : decode cX12_named 358 = .ok (.i2l, 1) := by decide +kernel
theorem dX12_named_359 : decode cX12_named 359 = .ok (.goto 4, 3) := by decide +kernel
theorem dX12_named_362 : decode cX12_named 362 = .ok (.lconst 0, 1) := by decide +kernel
theorem dX12_named_363 : decode cX12_named 363 = .ok (.invokevirtual 431, 3) := by decide +kernel
theorem dX12_named_366 : decode cX12_named 366 = .ok (.iload 5, 2) := by decide +kernel
theorem dX12_named_368 : decode cX12_named 368 = .ok (.iconst 3, 1) := by decide +kernel
theorem dX12_named_369 : decode cX12_named 369 = .ok (.if_icmp .ne 20, 3) := by decide +kernel
theorem dX12_named_372 : decode cX12_named 372 = .ok (.aload_n 0, 1) := by decide +kernel
theorem dX12_named_373 : decode cX12_named 373 = .ok (.getfield 88, 3) := by decide +kernel
theorem dX12_named_376 : decode cX12_named 376 = .ok (.iload_n 1, 1) := by decide +kernel
theorem dX12_named_377 : decode cX12_named 377 = .ok (.aload_n 0, 1) := by decide +kernel
theorem dX12_named_378 : decode cX12_named 378 = .ok (.getfield 71, 3) := by decide +kernel
theorem dX12_named_381 : decode cX12_named 381 = .ok (.iload_n 3, 1) := by decide +kernel
theorem dX12_named_382 : decode cX12_named 382 = .ok (.iaload, 1) := by decide +kernel
theorem dX12_named_383 : decode cX12_named 383 = .ok (.iadd, 1) := by decide +kernel
theorem dX12_named_384 : decode cX12_named 384 = .ok (.iload 7, 2) := by decide +kernel
theorem dX12_named_386 : decode cX12_named 386 = .ok (.iadd, 1) := by decide +kernel
theorem dX12_named_387 : decode cX12_named 387 = .ok (.lconst 1, 1) := by decide +kernel
theorem dX12_named_388 : decode cX12_named 388 = .ok (.lastore, 1) := by decide +kernel
theorem dX12_named_389 : decode cX12_named 389 = .ok (.return_, 1) := by decide +kernel
theorem w_130 : Cond.selects RX12 yX12_sizeOf yX12_sizeOf ∈ tb := sel_9 (q := (yX12_sizeOf, 105)) 2 (by decide +kernel)
theorem w_135 : Cond.selects RX12 yX12_constant yX12_constant ∈ tb := sel_9 (q := (yX12_constant, 105)) 7 (by decide +kernel)
theorem w_139 : Cond.selects RX12 yX12_index yX12_index ∈ tb := sel_9 (q := (yX12_index, 105)) 11 (by decide +kernel)
theorem w_1992 : Cond.fieldLink RX12 74 (TX12 31).1 (TX12 31).2.1 (TX12 31).2.2.1 ∈ tb := tbc_8 109 (by decide +kernel) rfl
theorem w_2406 : Cond.methodLink RX12 410 yX12_sizeOf ∈ tb := tbc_10 43 (by decide +kernel) rfl
theorem w_2408 : Cond.instanceMethod yX12_sizeOf ∈ tb := tbc_10 45 (by decide +kernel) rfl
theorem w_2409 : Cond.code yX12_sizeOf cX12_sizeOf 2 (some .int) ∈ tb := tbc_10 46 (by decide +kernel) rfl
theorem w_2426 : Cond.methodLink RX12 431 yX12_constant ∈ tb := tbc_10 63 (by decide +kernel) rfl
theorem w_2428 : Cond.instanceMethod yX12_constant ∈ tb := tbc_10 65 (by decide +kernel) rfl
theorem w_2429 : Cond.code yX12_constant cX12_constant 5 none ∈ tb := tbc_10 66 (by decide +kernel) rfl
theorem w_2444 : Cond.methodLink RX12 444 yX12_index ∈ tb := tbc_10 81 (by decide +kernel) rfl
theorem w_2446 : Cond.instanceMethod yX12_index ∈ tb := tbc_10 83 (by decide +kernel) rfl
theorem w_2447 : Cond.code yX12_index cX12_index 3 none ∈ tb := tbc_10 84 (by decide +kernel) rfl
section RW74
variable {p : Program} {l : Launch} {e : Env} {R : Room} {s : State} {m : MethodId} {args : Array Value} {below : List Frame} {meth : Method} {c : Code} {H : Heap} {locs : List Loc} {cells slots : Nat} {Q : State → Prop}
variable {cc : ByteArray} {pc nL : Nat} {ls : Array Slot} {rest st0 : List Value} {G : sG} {n : Nat} {S : sS}
theorem c_X12_431 (Cx : sC G p m c cc nL s args RX12) {rm : Room} {mc ms : Nat} (h1 : rm.cells = mc) (h2 : rm.slots = ms) (h3 : rm.frames + 1 ≤ R.frames ∧ 8 + (5 + 11) + rm.locals ≤ R.locals) : CallW R s args RX12 RX12 431 yX12_constant cX12_constant 5 none (.code yX12_constant cX12_constant 5 none :: tb) rm mc ms 2 :=
  sCw Cx 2 w_2426 w_2428 w_135 w_217 w_2429 (by decide +kernel) h1 h2 h3
theorem g_X12_74 (Cx : sC G p m c cc nL s args RX12) (hW : sW G n S H) {k : Nat} (hk : k < n) (ht : tau k = .inl 12) {v : Value} (hv : S.2.2.2 k 31 = v) (hdg : decode cc pc = .ok (.getfield 74, 3)) (kk : W p l e R s m args below meth c H locs cells slots Q (F0 m (pc + 3) ls (v :: rest))) : W p l e R s m args below meth c H locs cells slots Q (F0 m pc ls (.ref (G.2.2.1 + k) :: rest)) :=
  sGet Cx inX12 rfl 31 (by decide) w_1992 hW hk ht hv hdg kk
theorem c_X12_410 (Cx : sC G p m c cc nL s args RX12) {rm : Room} {mc ms : Nat} (h1 : rm.cells = mc) (h2 : rm.slots = ms) (h3 : rm.frames + 1 ≤ R.frames ∧ 8 + (2 + 11) + rm.locals ≤ R.locals) : CallW R s args RX12 RX12 410 yX12_sizeOf cX12_sizeOf 2 (some .int) (.code yX12_sizeOf cX12_sizeOf 2 (some .int) :: tb) rm mc ms 1 :=
  sCw Cx 1 w_2406 w_2408 w_130 w_217 w_2409 (by decide +kernel) h1 h2 h3
theorem c_X12_444 (Cx : sC G p m c cc nL s args RX12) {rm : Room} {mc ms : Nat} (h1 : rm.cells = mc) (h2 : rm.slots = ms) (h3 : rm.frames + 1 ≤ R.frames ∧ 8 + (3 + 11) + rm.locals ≤ R.locals) : CallW R s args RX12 RX12 444 yX12_index cX12_index 3 none (.code yX12_index cX12_index 3 none :: tb) rm mc ms 0 :=
  sCw Cx 0 w_2444 w_2446 w_139 w_217 w_2447 (by decide +kernel) h1 h2 h3
end RW74
