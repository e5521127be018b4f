theorem dX12_trees_0 : decode cX12_trees 0 = .ok (.iconst 1, 1) := by decide +kernel
theorem dX12_trees_1 : decode cX12_trees 1 = .ok (.istore_n 2, 1) := by decide +kernel
theorem dX12_trees_2 : decode cX12_trees 2 = .ok (.iload_n 2, 1) := by decide +kernel
theorem dX12_trees_3 : decode cX12_trees 3 = .ok (.aload_n 0, 1) := by decide +kernel
theorem dX12_trees_4 : decode cX12_trees 4 = .ok (.getfield 468, 3) := by decide +kernel
theorem dX12_trees_7 : decode cX12_trees 7 = .ok (.if_icmp .gt 49, 3) := by decide +kernel
theorem dX12_trees_10 : decode cX12_trees 10 = .ok (.iconst 0, 1) := by decide +kernel
theorem dX12_trees_11 : decode cX12_trees 11 = .ok (.istore_n 3, 1) := by decide +kernel
theorem dX12_trees_12 : decode cX12_trees 12 = .ok (.iload_n 3, 1) := by decide +kernel
theorem dX12_trees_13 : decode cX12_trees 13 = .ok (.aload_n 0, 1) := by decide +kernel
theorem dX12_trees_14 : decode cX12_trees 14 = .ok (.getfield 465, 3) := by decide +kernel
theorem dX12_trees_17 : decode cX12_trees 17 = .ok (.if_icmp .gt 33, 3) := by decide +kernel
theorem dX12_trees_20 : decode cX12_trees 20 = .ok (.aload_n 0, 1) := by decide +kernel
theorem dX12_trees_21 : decode cX12_trees 21 = .ok (.getfield 169, 3) := by decide +kernel
theorem dX12_trees_24 : decode cX12_trees 24 = .ok (.aload_n 0, 1) := by decide +kernel
theorem dX12_trees_25 : decode cX12_trees 25 = .ok (.iload_n 2, 1) := by decide +kernel
theorem dX12_trees_26 : decode cX12_trees 26 = .ok (.iload_n 3, 1) := by decide +kernel
theorem dX12_trees_27 : decode cX12_trees 27 = .ok (.invokevirtual 735, 3) := by decide +kernel
theorem dX12_trees_30 : decode cX12_trees 30 = .ok (.aload_n 0, 1) := by decide +kernel
theorem dX12_trees_31 : decode cX12_trees 31 = .ok (.getfield 190, 3) := by decide +kernel
theorem dX12_trees_34 : decode cX12_trees 34 = .ok (.bipush 13, 2) := by decide +kernel
theorem dX12_trees_36 : decode cX12_trees 36 = .ok (.iload_n 2, 1) := by decide +kernel
theorem dX12_trees_37 : decode cX12_trees 37 = .ok (.imul, 1) := by decide +kernel
theorem dX12_trees_38 : decode cX12_trees 38 = .ok (.iload_n 3, 1) := by decide +kernel
theorem dX12_trees_39 : decode cX12_trees 39 = .ok (.iadd, 1) := by decide +kernel
theorem dX12_trees_40 : decode cX12_trees 40 = .ok (.laload, 1) := by decide +kernel
theorem dX12_trees_41 : decode cX12_trees 41 = .ok (.invokestatic 241, 3) := by decide +kernel
theorem dX12_trees_44 : decode cX12_trees 44 = .ok (.iinc 3 1, 3) := by decide +kernel
theorem dX12_trees_47 : decode cX12_trees 47 = .ok (.goto (-35), 3) := by decide +kernel
theorem dX12_trees_50 : decode cX12_trees 50 = .ok (.iinc 2 1, 3) := by decide +kernel
theorem dX12_trees_53 : decode cX12_trees 53 = .ok (.goto (-51), 3) := by decide +kernel
theorem dX12_trees_56 : decode cX12_trees 56 = .ok (.aload_n 0, 1) := by decide +kernel
theorem dX12_trees_57 : decode cX12_trees 57 = .ok (.aload_n 0, 1) := by decide +kernel
theorem dX12_trees_58 : decode cX12_trees 58 = .ok (.getfield 468, 3) := by decide +kernel
theorem dX12_trees_61 : decode cX12_trees 61 = .ok (.putfield 738, 3) := by decide +kernel
theorem dX12_trees_64 : decode cX12_trees 64 = .ok (.iconst 0, 1) := by decide +kernel
theorem dX12_trees_65 : decode cX12_trees 65 = .ok (.istore_n 2, 1) := by decide +kernel
theorem dX12_trees_66 : decode cX12_trees 66 = .ok (.iconst 0, 1) := by decide +kernel
theorem dX12_trees_67 : decode cX12_trees 67 = .ok (.istore_n 3, 1) := by decide +kernel
theorem dX12_trees_68 : decode cX12_trees 68 = .ok (.aload_n 0, 1) := by decide +kernel
theorem dX12_trees_69 : decode cX12_trees 69 = .ok (.getfield 270, 3) := by decide +kernel
theorem dX12_trees_72 : decode cX12_trees 72 = .ok (.ifCond .ne 351, 3) := by decide +kernel
theorem dX12_trees_75 : decode cX12_trees 75 = .ok (.aload_n 0, 1) := by decide +kernel
theorem dX12_trees_76 : decode cX12_trees 76 = .ok (.getfield 315, 3) := by decide +kernel
theorem dX12_trees_79 : decode cX12_trees 79 = .ok (.istore 4, 2) := by decide +kernel
theorem dX12_trees_81 : decode cX12_trees 81 = .ok (.aload_n 0, 1) := by decide +kernel
theorem dX12_trees_82 : decode cX12_trees 82 = .ok (.getfield 56, 3) := by decide +kernel
theorem dX12_trees_85 : decode cX12_trees 85 = .ok (.iload 4, 2) := by decide +kernel
theorem dX12_trees_87 : decode cX12_trees 87 = .ok (.iaload, 1) := by decide +kernel
theorem dX12_trees_88 : decode cX12_trees 88 = .ok (.istore 5, 2) := by decide +kernel
theorem dX12_trees_90 : decode cX12_trees 90 = .ok (.iinc 3 1, 3) := by decide +kernel
theorem dX12_trees_93 : decode cX12_trees 93 = .ok (.iload_n 3, 1) := by decide +kernel
theorem dX12_trees_94 : decode cX12_trees 94 = .ok (.sipush 3000, 3) := by decide +kernel
theorem dX12_trees_97 : decode cX12_trees 97 = .ok (.if_icmp .le 12, 3) := by decide +kernel
theorem dX12_trees_100 : decode cX12_trees 100 = .ok (.aload_n 0, 1) := by decide +kernel
theorem dX12_trees_101 : decode cX12_trees 101 = .ok (.bipush 6, 2) := by decide +kernel
theorem dX12_trees_103 : decode cX12_trees 103 = .ok (.iload 4, 2) := by decide +kernel
theorem dX12_trees_105 : decode cX12_trees 105 = .ok (.invokevirtual 321, 3) := by decide +kernel
theorem dX12_trees_108 : decode cX12_trees 108 = .ok (.return_, 1) := by decide +kernel
theorem dX12_trees_109 : decode cX12_trees 109 = .ok (.iload 5, 2) := by decide +kernel
theorem dX12_trees_111 : decode cX12_trees 111 = .ok (.iconst 5, 1) := by decide +kernel
theorem dX12_trees_112 : decode cX12_trees 112 = .ok (.if_icmp .ne 120, 3) := by decide +kernel
theorem dX12_trees_115 : decode cX12_trees 115 = .ok (.aload_n 0, 1) := by decide +kernel
theorem dX12_trees_116 : decode cX12_trees 116 = .ok (.iload 4, 2) := by decide +kernel
theorem dX12_trees_118 : decode cX12_trees 118 = .ok (.iconst 1, 1) := by decide +kernel
theorem dX12_trees_119 : decode cX12_trees 119 = .ok (.iadd, 1) := by decide +kernel
theorem dX12_trees_120 : decode cX12_trees 120 = .ok (.invokevirtual 741, 3) := by decide +kernel
theorem dX12_trees_123 : decode cX12_trees 123 = .ok (.istore 6, 2) := by decide +kernel
theorem dX12_trees_125 : decode cX12_trees 125 = .ok (.iload 6, 2) := by decide +kernel
theorem dX12_trees_127 : decode cX12_trees 127 = .ok (.ifCond .eq 13, 3) := by decide +kernel
theorem dX12_trees_130 : decode cX12_trees 130 = .ok (.aload_n 0, 1) := by decide +kernel
theorem dX12_trees_131 : decode cX12_trees 131 = .ok (.getfield 94, 3) := by decide +kernel
theorem dX12_trees_134 : decode cX12_trees 134 = .ok (.iload 6, 2) := by decide +kernel
theorem dX12_trees_136 : decode cX12_trees 136 = .ok (.baload, 1) := by decide +kernel
theorem dX12_trees_137 : decode cX12_trees 137 = .ok (.ifCond .ne 10, 3) := by decide +kernel
theorem dX12_trees_140 : decode cX12_trees 140 = .ok (.aload_n 0, 1) := by decide +kernel
theorem dX12_trees_141 : decode cX12_trees 141 = .ok (.iconst 4, 1) := by decide +kernel
theorem dX12_trees_142 : decode cX12_trees 142 = .ok (.iload 4, 2) := by decide +kernel
theorem dX12_trees_144 : decode cX12_trees 144 = .ok (.invokevirtual 321, 3) := by decide +kernel
theorem dX12_trees_147 : decode cX12_trees 147 = .ok (.aload_n 0, 1) := by decide +kernel
theorem dX12_trees_148 : decode cX12_trees 148 = .ok (.getfield 270, 3) := by decide +kernel
theorem dX12_trees_151 : decode cX12_trees 151 = .ok (.ifCond .ne 20, 3) := by decide +kernel
theorem dX12_trees_154 : decode cX12_trees 154 = .ok (.aload_n 0, 1) := by decide +kernel
theorem dX12_trees_155 : decode cX12_trees 155 = .ok (.getfield 738, 3) := by decide +kernel
theorem dX12_trees_158 : decode cX12_trees 158 = .ok (.bipush 40, 2) := by decide +kernel
theorem dX12_trees_160 : decode cX12_trees 160 = .ok (.if_icmp .ne 11, 3) := by decide +kernel
theorem dX12_trees_163 : decode cX12_trees 163 = .ok (.aload_n 0, 1) := by decide +kernel
theorem dX12_trees_164 : decode cX12_trees 164 = .ok (.bipush 6, 2) := by decide +kernel
theorem dX12_trees_166 : decode cX12_trees 166 = .ok (.iload 4, 2) := by decide +kernel
theorem dX12_trees_168 : decode cX12_trees 168 = .ok (.invokevirtual 321, 3) := by decide +kernel
theorem dX12_trees_171 : decode cX12_trees 171 = .ok (.aload_n 0, 1) := by decide +kernel
theorem dX12_trees_172 : decode cX12_trees 172 = .ok (.getfield 270, 3) := by decide +kernel
theorem dX12_trees_175 : decode cX12_trees 175 = .ok (.ifCond .eq 4, 3) := by decide +kernel
theorem dX12_trees_178 : decode cX12_trees 178 = .ok (.return_, 1) := by decide +kernel
theorem dX12_trees_179 : decode cX12_trees 179 = .ok (.aload_n 0, 1) := by decide +kernel
theorem dX12_trees_180 : decode cX12_trees 180 = .ok (.getfield 193, 3) := by decide +kernel
theorem dX12_trees_183 : decode cX12_trees 183 = .ok (.iload_n 2, 1) := by decide +kernel
theorem dX12_trees_184 : decode cX12_trees 184 = .ok (.aload_n 0, 1) := by decide +kernel
theorem dX12_trees_185 : decode cX12_trees 185 = .ok (.getfield 738, 3) := by decide +kernel
theorem dX12_trees_188 : decode cX12_trees 188 = .ok (.iastore, 1) := by decide +kernel
theorem dX12_trees_189 : decode cX12_trees 189 = .ok (.aload_n 0, 1) := by decide +kernel
theorem dX12_trees_190 : decode cX12_trees 190 = .ok (.getfield 196, 3) := by decide +kernel
theorem dX12_trees_193 : decode cX12_trees 193 = .ok (.iload_n 2, 1) := by decide +kernel
theorem dX12_trees_194 : decode cX12_trees 194 = .ok (.iload 6, 2) := by decide +kernel
theorem dX12_trees_196 : decode cX12_trees 196 = .ok (.iastore, 1) := by decide +kernel
theorem dX12_trees_197 : decode cX12_trees 197 = .ok (.aload_n 0, 1) := by decide +kernel
theorem dX12_trees_198 : decode cX12_trees 198 = .ok (.getfield 199, 3) := by decide +kernel
theorem dX12_trees_201 : decode cX12_trees 201 = .ok (.iload_n 2, 1) := by decide +kernel
theorem dX12_trees_202 : decode cX12_trees 202 = .ok (.iload 4, 2) := by decide +kernel
theorem dX12_trees_204 : decode cX12_trees 204 = .ok (.iconst 2, 1) := by decide +kernel
theorem dX12_trees_205 : decode cX12_trees 205 = .ok (.iadd, 1) := by decide +kernel
theorem dX12_trees_206 : decode cX12_trees 206 = .ok (.iastore, 1) := by decide +kernel
theorem dX12_trees_207 : decode cX12_trees 207 = .ok (.iinc 2 1, 3) := by decide +kernel
theorem dX12_trees_210 : decode cX12_trees 210 = .ok (.aload_n 0, 1) := by decide +kernel
theorem dX12_trees_211 : decode cX12_trees 211 = .ok (.iload 6, 2) := by decide +kernel
theorem dX12_trees_213 : decode cX12_trees 213 = .ok (.iload 4, 2) := by decide +kernel
theorem dX12_trees_215 : decode cX12_trees 215 = .ok (.iconst 2, 1) := by decide +kernel
theorem dX12_trees_216 : decode cX12_trees 216 = .ok (.iadd, 1) := by decide +kernel
theorem dX12_trees_217 : decode cX12_trees 217 = .ok (.iconst 0, 1) := by decide +kernel
theorem dX12_trees_218 : decode cX12_trees 218 = .ok (.invokevirtual 744, 3) := by decide +kernel
theorem dX12_trees_221 : decode cX12_trees 221 = .ok (.aload_n 0, 1) := by decide +kernel
theorem dX12_trees_222 : decode cX12_trees 222 = .ok (.iload 4, 2) := by decide +kernel
theorem dX12_trees_224 : decode cX12_trees 224 = .ok (.iconst 3, 1) := by decide +kernel
theorem dX12_trees_225 : decode cX12_trees 225 = .ok (.iadd, 1) := by decide +kernel
theorem dX12_trees_226 : decode cX12_trees 226 = .ok (.putfield 315, 3) := by decide +kernel
theorem dX12_trees_229 : decode cX12_trees 229 = .ok (.goto (-161), 3) := by decide +kernel
theorem dX12_trees_232 : decode cX12_trees 232 = .ok (.aload_n 0, 1) := by decide +kernel
theorem dX12_trees_233 : decode cX12_trees 233 = .ok (.iload 4, 2) := by decide +kernel
theorem dX12_trees_235 : decode cX12_trees 235 = .ok (.iconst 1, 1) := by decide +kernel
theorem dX12_trees_236 : decode cX12_trees 236 = .ok (.iadd, 1) := by decide +kernel
theorem dX12_trees_237 : decode cX12_trees 237 = .ok (.aload_n 0, 1) := by decide +kernel
theorem dX12_trees_238 : decode cX12_trees 238 = .ok (.getfield 184, 3) := by decide +kernel
theorem dX12_trees_241 : decode cX12_trees 241 = .ok (.iconst 0, 1) := by decide +kernel
theorem dX12_trees_242 : decode cX12_trees 242 = .ok (.invokevirtual 703, 3) := by decide +kernel
theorem dX12_trees_245 : decode cX12_trees 245 = .ok (.aload_n 0, 1) := by decide +kernel
theorem dX12_trees_246 : decode cX12_trees 246 = .ok (.iload 4, 2) := by decide +kernel
theorem dX12_trees_248 : decode cX12_trees 248 = .ok (.iconst 2, 1) := by decide +kernel
theorem dX12_trees_249 : decode cX12_trees 249 = .ok (.iadd, 1) := by decide +kernel
theorem dX12_trees_250 : decode cX12_trees 250 = .ok (.putfield 315, 3) := by decide +kernel
theorem dX12_trees_253 : decode cX12_trees 253 = .ok (.aload_n 0, 1) := by decide +kernel
theorem dX12_trees_254 : decode cX12_trees 254 = .ok (.invokevirtual 748, 3) := by decide +kernel
theorem dX12_trees_257 : decode cX12_trees 257 = .ok (.istore 6, 2) := by decide +kernel
theorem dX12_trees_259 : decode cX12_trees 259 = .ok (.iload 5, 2) := by decide +kernel
theorem dX12_trees_261 : decode cX12_trees 261 = .ok (.bipush 6, 2) := by decide +kernel
theorem dX12_trees_263 : decode cX12_trees 263 = .ok (.if_icmp .ne 75, 3) := by decide +kernel
theorem dX12_trees_266 : decode cX12_trees 266 = .ok (.iload 6, 2) := by decide +kernel
theorem dX12_trees_268 : decode cX12_trees 268 = .ok (.ifCond .eq 14, 3) := by decide +kernel
theorem dX12_trees_271 : decode cX12_trees 271 = .ok (.aload_n 0, 1) := by decide +kernel
theorem dX12_trees_272 : decode cX12_trees 272 = .ok (.getfield 471, 3) := by decide +kernel
theorem dX12_trees_275 : decode cX12_trees 275 = .ok (.aload_n 0, 1) := by decide +kernel
theorem dX12_trees_276 : decode cX12_trees 276 = .ok (.getfield 465, 3) := by decide +kernel
theorem dX12_trees_279 : decode cX12_trees 279 = .ok (.if_icmp .ge 10, 3) := by decide +kernel
theorem dX12_trees_282 : decode cX12_trees 282 = .ok (.aload_n 0, 1) := by decide +kernel
theorem dX12_trees_283 : decode cX12_trees 283 = .ok (.iconst 4, 1) := by decide +kernel
theorem dX12_trees_284 : decode cX12_trees 284 = .ok (.iload 4, 2) := by decide +kernel
theorem dX12_trees_286 : decode cX12_trees 286 = .ok (.invokevirtual 321, 3) := by decide +kernel
theorem dX12_trees_289 : decode cX12_trees 289 = .ok (.aload_n 0, 1) := by decide +kernel
theorem dX12_trees_290 : decode cX12_trees 290 = .ok (.getfield 270, 3) := by decide +kernel
theorem dX12_trees_293 : decode cX12_trees 293 = .ok (.ifCond .ne 20, 3) := by decide +kernel
theorem dX12_trees_296 : decode cX12_trees 296 = .ok (.aload_n 0, 1) := by decide +kernel
theorem dX12_trees_297 : decode cX12_trees 297 = .ok (.getfield 738, 3) := by decide +kernel
theorem dX12_trees_300 : decode cX12_trees 300 = .ok (.bipush 40, 2) := by decide +kernel
theorem dX12_trees_302 : decode cX12_trees 302 = .ok (.if_icmp .ne 11, 3) := by decide +kernel
theorem dX12_trees_305 : decode cX12_trees 305 = .ok (.aload_n 0, 1) := by decide +kernel
theorem dX12_trees_306 : decode cX12_trees 306 = .ok (.bipush 6, 2) := by decide +kernel
theorem dX12_trees_308 : decode cX12_trees 308 = .ok (.iload 4, 2) := by decide +kernel
theorem dX12_trees_310 : decode cX12_trees 310 = .ok (.invokevirtual 321, 3) := by decide +kernel
theorem dX12_trees_313 : decode cX12_trees 313 = .ok (.aload_n 0, 1) := by decide +kernel
theorem dX12_trees_314 : decode cX12_trees 314 = .ok (.getfield 270, 3) := by decide +kernel
theorem dX12_trees_317 : decode cX12_trees 317 = .ok (.ifCond .ne (-249), 3) := by decide +kernel
theorem dX12_trees_320 : decode cX12_trees 320 = .ok (.aload_n 0, 1) := by decide +kernel
theorem dX12_trees_321 : decode cX12_trees 321 = .ok (.invokevirtual 751, 3) := by decide +kernel
theorem dX12_trees_324 : decode cX12_trees 324 = .ok (.ifCond .ne (-256), 3) := by decide +kernel
theorem dX12_trees_327 : decode cX12_trees 327 = .ok (.aload_n 0, 1) := by decide +kernel
theorem dX12_trees_328 : decode cX12_trees 328 = .ok (.bipush 6, 2) := by decide +kernel
theorem dX12_trees_330 : decode cX12_trees 330 = .ok (.iload 4, 2) := by decide +kernel
theorem dX12_trees_332 : decode cX12_trees 332 = .ok (.invokevirtual 321, 3) := by decide +kernel
theorem dX12_trees_335 : decode cX12_trees 335 = .ok (.goto (-267), 3) := by decide +kernel
theorem dX12_trees_338 : decode cX12_trees 338 = .ok (.iload 6, 2) := by decide +kernel
theorem dX12_trees_340 : decode cX12_trees 340 = .ok (.ifCond .eq 31, 3) := by decide +kernel
theorem dX12_trees_343 : decode cX12_trees 343 = .ok (.iload 5, 2) := by decide +kernel
theorem dX12_trees_345 : decode cX12_trees 345 = .ok (.bipush 7, 2) := by decide +kernel
theorem dX12_trees_347 : decode cX12_trees 347 = .ok (.if_icmp .ne 17, 3) := by decide +kernel
theorem dX12_trees_350 : decode cX12_trees 350 = .ok (.iload_n 1, 1) := by decide +kernel
theorem dX12_trees_351 : decode cX12_trees 351 = .ok (.ifCond .eq 20, 3) := by decide +kernel
theorem dX12_trees_354 : decode cX12_trees 354 = .ok (.aload_n 0, 1) := by decide +kernel
theorem dX12_trees_355 : decode cX12_trees 355 = .ok (.invokevirtual 754, 3) := by decide +kernel
theorem dX12_trees_358 : decode cX12_trees 358 = .ok (.ifCond .ne 20, 3) := by decide +kernel
theorem dX12_trees_361 : decode cX12_trees 361 = .ok (.goto 10, 3) := by decide +kernel
theorem dX12_trees_364 : decode cX12_trees 364 = .ok (.aload_n 0, 1) := by decide +kernel
theorem dX12_trees_365 : decode cX12_trees 365 = .ok (.invokevirtual 757, 3) := by decide +kernel
theorem dX12_trees_368 : decode cX12_trees 368 = .ok (.ifCond .ne 10, 3) := by decide +kernel
theorem dX12_trees_371 : decode cX12_trees 371 = .ok (.aload_n 0, 1) := by decide +kernel
theorem dX12_trees_372 : decode cX12_trees 372 = .ok (.iconst 4, 1) := by decide +kernel
theorem dX12_trees_373 : decode cX12_trees 373 = .ok (.iload 4, 2) := by decide +kernel
theorem dX12_trees_375 : decode cX12_trees 375 = .ok (.invokevirtual 321, 3) := by decide +kernel
theorem dX12_trees_378 : decode cX12_trees 378 = .ok (.iload_n 2, 1) := by decide +kernel
theorem dX12_trees_379 : decode cX12_trees 379 = .ok (.ifCond .eq 10, 3) := by decide +kernel
theorem dX12_trees_382 : decode cX12_trees 382 = .ok (.aload_n 0, 1) := by decide +kernel
theorem dX12_trees_383 : decode cX12_trees 383 = .ok (.getfield 270, 3) := by decide +kernel
theorem dX12_trees_386 : decode cX12_trees 386 = .ok (.ifCond .eq 4, 3) := by decide +kernel
theorem dX12_trees_389 : decode cX12_trees 389 = .ok (.return_, 1) := by decide +kernel
theorem dX12_trees_390 : decode cX12_trees 390 = .ok (.iinc 2 (-1), 3) := by decide +kernel
theorem dX12_trees_393 : decode cX12_trees 393 = .ok (.aload_n 0, 1) := by decide +kernel
theorem dX12_trees_394 : decode cX12_trees 394 = .ok (.aload_n 0, 1) := by decide +kernel
theorem dX12_trees_395 : decode cX12_trees 395 = .ok (.getfield 193, 3) := by decide +kernel
theorem dX12_trees_398 : decode cX12_trees 398 = .ok (.iload_n 2, 1) := by decide +kernel
theorem dX12_trees_399 : decode cX12_trees 399 = .ok (.iaload, 1) := by decide +kernel
theorem dX12_trees_400 : decode cX12_trees 400 = .ok (.putfield 738, 3) := by decide +kernel
theorem dX12_trees_403 : decode cX12_trees 403 = .ok (.aload_n 0, 1) := by decide +kernel
theorem dX12_trees_404 : decode cX12_trees 404 = .ok (.aload_n 0, 1) := by decide +kernel
theorem dX12_trees_405 : decode cX12_trees 405 = .ok (.getfield 196, 3) := by decide +kernel
theorem dX12_trees_408 : decode cX12_trees 408 = .ok (.iload_n 2, 1) := by decide +kernel
theorem dX12_trees_409 : decode cX12_trees 409 = .ok (.iaload, 1) := by decide +kernel
theorem dX12_trees_410 : decode cX12_trees 410 = .ok (.aload_n 0, 1) := by decide +kernel
theorem dX12_trees_411 : decode cX12_trees 411 = .ok (.getfield 199, 3) := by decide +kernel
theorem dX12_trees_414 : decode cX12_trees 414 = .ok (.iload_n 2, 1) := by decide +kernel
theorem dX12_trees_415 : decode cX12_trees 415 = .ok (.iaload, 1) := by decide +kernel
theorem dX12_trees_416 : decode cX12_trees 416 = .ok (.iconst 1, 1) := by decide +kernel
theorem dX12_trees_417 : decode cX12_trees 417 = .ok (.invokevirtual 744, 3) := by decide +kernel
theorem dX12_trees_420 : decode cX12_trees 420 = .ok (.goto (-352), 3) := by decide +kernel
theorem dX12_trees_423 : decode cX12_trees 423 = .ok (.return_, 1) := by decide +kernel
theorem w_196 : Cond.selects RX12 yX12_variableAt yX12_variableAt ∈ tb := sel_13 (q := (yX12_variableAt, 105)) 4 (by decide +kernel)
theorem w_197 : Cond.selects RX12 yX12_branchRow yX12_branchRow ∈ tb := sel_13 (q := (yX12_branchRow, 105)) 5 (by decide +kernel)
theorem w_198 : Cond.selects RX12 yX12_pairs yX12_pairs ∈ tb := sel_13 (q := (yX12_pairs, 105)) 6 (by decide +kernel)
theorem w_199 : Cond.selects RX12 yX12_cutRow yX12_cutRow ∈ tb := sel_13 (q := (yX12_cutRow, 105)) 7 (by decide +kernel)
theorem w_201 : Cond.selects RX12 yX12_isBound yX12_isBound ∈ tb := sel_13 (q := (yX12_isBound, 105)) 9 (by decide +kernel)
theorem w_202 : Cond.selects RX12 yX12_isFarkas yX12_isFarkas ∈ tb := sel_13 (q := (yX12_isFarkas, 105)) 10 (by decide +kernel)
theorem w_2063 : Cond.fieldLink RX12 193 (TX12 102).1 (TX12 102).2.1 (TX12 102).2.2.1 ∈ tb := tbc_8 180 (by decide +kernel) rfl
theorem w_2064 : Cond.fieldLink RX12 196 (TX12 103).1 (TX12 103).2.1 (TX12 103).2.2.1 ∈ tb := tbc_8 181 (by decide +kernel) rfl
theorem w_2065 : Cond.fieldLink RX12 199 (TX12 104).1 (TX12 104).2.1 (TX12 104).2.2.1 ∈ tb := tbc_8 182 (by decide +kernel) rfl
theorem w_2774 : Cond.methodLink RX12 741 yX12_variableAt ∈ tb := tbc_11 171 (by decide +kernel) rfl
theorem w_2776 : Cond.instanceMethod yX12_variableAt ∈ tb := tbc_11 173 (by decide +kernel) rfl
theorem w_2777 : Cond.code yX12_variableAt cX12_variableAt 2 (some .int) ∈ tb := tbc_11 174 (by decide +kernel) rfl
theorem w_2778 : Cond.methodLink RX12 744 yX12_branchRow ∈ tb := tbc_11 175 (by decide +kernel) rfl
theorem w_2780 : Cond.instanceMethod yX12_branchRow ∈ tb := tbc_11 177 (by decide +kernel) rfl
theorem w_2781 : Cond.code yX12_branchRow cX12_branchRow 5 none ∈ tb := tbc_11 178 (by decide +kernel) rfl
theorem w_2782 : Cond.methodLink RX12 748 yX12_pairs ∈ tb := tbc_11 179 (by decide +kernel) rfl
theorem w_2784 : Cond.instanceMethod yX12_pairs ∈ tb := tbc_11 181 (by decide +kernel) rfl
theorem w_2785 : Cond.code yX12_pairs cX12_pairs 5 (some .boolean) ∈ tb := tbc_11 182 (by decide +kernel) rfl
theorem w_2786 : Cond.methodLink RX12 751 yX12_cutRow ∈ tb := tbc_11 183 (by decide +kernel) rfl
theorem w_2788 : Cond.instanceMethod yX12_cutRow ∈ tb := tbc_11 185 (by decide +kernel) rfl
theorem w_2789 : Cond.code yX12_cutRow cX12_cutRow 2 (some .boolean) ∈ tb := tbc_11 186 (by decide +kernel) rfl
theorem w_2795 : Cond.methodLink RX12 754 yX12_isBound ∈ tb := tbc_11 192 (by decide +kernel) rfl
theorem w_2797 : Cond.instanceMethod yX12_isBound ∈ tb := tbc_11 194 (by decide +kernel) rfl
theorem w_2798 : Cond.code yX12_isBound cX12_isBound 2 (some .boolean) ∈ tb := tbc_11 195 (by decide +kernel) rfl
theorem w_2799 : Cond.methodLink RX12 757 yX12_isFarkas ∈ tb := tbc_11 196 (by decide +kernel) rfl
theorem w_2801 : Cond.instanceMethod yX12_isFarkas ∈ tb := tbc_11 198 (by decide +kernel) rfl
theorem w_2802 : Cond.code yX12_isFarkas cX12_isFarkas 2 (some .boolean) ∈ tb := tbc_11 199 (by decide +kernel) rfl
section RW85
variable {p : Program} {l : Launch} {e : Env} {R : Room} {s : State} {m : MethodId} {args : Array Value} {below : List Frame} {meth : Method} {c : Code} {H : Heap} {locs : List Loc} {cells slots : Nat} {Q : State → Prop}
variable {cc : ByteArray} {pc nL : Nat} {ls : Array Slot} {rest st0 : List Value} {G : sG} {n : Nat} {S : sS}
theorem c_X12_748 (Cx : sC G p m c cc nL s args RX12) {rm : Room} {mc ms : Nat} (h1 : rm.cells = mc) (h2 : rm.slots = ms) (h3 : rm.frames + 1 ≤ R.frames ∧ 8 + (5 + 11) + rm.locals ≤ R.locals) : CallW R s args RX12 RX12 748 yX12_pairs cX12_pairs 5 (some .boolean) (.code yX12_pairs cX12_pairs 5 (some .boolean) :: tb) rm mc ms 0 :=
  sCw Cx 0 w_2782 w_2784 w_198 w_217 w_2785 (by decide +kernel) h1 h2 h3
theorem c_X12_757 (Cx : sC G p m c cc nL s args RX12) {rm : Room} {mc ms : Nat} (h1 : rm.cells = mc) (h2 : rm.slots = ms) (h3 : rm.frames + 1 ≤ R.frames ∧ 8 + (2 + 11) + rm.locals ≤ R.locals) : CallW R s args RX12 RX12 757 yX12_isFarkas cX12_isFarkas 2 (some .boolean) (.code yX12_isFarkas cX12_isFarkas 2 (some .boolean) :: tb) rm mc ms 0 :=
  sCw Cx 0 w_2799 w_2801 w_202 w_217 w_2802 (by decide +kernel) h1 h2 h3
theorem g_X12_193 (Cx : sC G p m c cc nL s args RX12) (hW : sW G n S H) {k : Nat} (hk : k < n) (ht : tau k = .inl 12) {v : Value} (hv : S.2.2.2 k 102 = v) (hdg : decode cc pc = .ok (.getfield 193, 3)) (kk : W p l e R s m args below meth c H locs cells slots Q (F0 m (pc + 3) ls (v :: rest))) : W p l e R s m args below meth c H locs cells slots Q (F0 m pc ls (.ref (G.2.2.1 + k) :: rest)) :=
  sGet Cx inX12 rfl 102 (by decide) w_2063 hW hk ht hv hdg kk
theorem g_X12_196 (Cx : sC G p m c cc nL s args RX12) (hW : sW G n S H) {k : Nat} (hk : k < n) (ht : tau k = .inl 12) {v : Value} (hv : S.2.2.2 k 103 = v) (hdg : decode cc pc = .ok (.getfield 196, 3)) (kk : W p l e R s m args below meth c H locs cells slots Q (F0 m (pc + 3) ls (v :: rest))) : W p l e R s m args below meth c H locs cells slots Q (F0 m pc ls (.ref (G.2.2.1 + k) :: rest)) :=
  sGet Cx inX12 rfl 103 (by decide) w_2064 hW hk ht hv hdg kk
theorem g_X12_199 (Cx : sC G p m c cc nL s args RX12) (hW : sW G n S H) {k : Nat} (hk : k < n) (ht : tau k = .inl 12) {v : Value} (hv : S.2.2.2 k 104 = v) (hdg : decode cc pc = .ok (.getfield 199, 3)) (kk : W p l e R s m args below meth c H locs cells slots Q (F0 m (pc + 3) ls (v :: rest))) : W p l e R s m args below meth c H locs cells slots Q (F0 m pc ls (.ref (G.2.2.1 + k) :: rest)) :=
  sGet Cx inX12 rfl 104 (by decide) w_2065 hW hk ht hv hdg kk
theorem c_X12_744 (Cx : sC G p m c cc nL s args RX12) {rm : Room} {mc ms : Nat} (h1 : rm.cells = mc) (h2 : rm.slots = ms) (h3 : rm.frames + 1 ≤ R.frames ∧ 8 + (5 + 11) + rm.locals ≤ R.locals) : CallW R s args RX12 RX12 744 yX12_branchRow cX12_branchRow 5 none (.code yX12_branchRow cX12_branchRow 5 none :: tb) rm mc ms 3 :=
  sCw Cx 3 w_2778 w_2780 w_197 w_217 w_2781 (by decide +kernel) h1 h2 h3
theorem c_X12_754 (Cx : sC G p m c cc nL s args RX12) {rm : Room} {mc ms : Nat} (h1 : rm.cells = mc) (h2 : rm.slots = ms) (h3 : rm.frames + 1 ≤ R.frames ∧ 8 + (2 + 11) + rm.locals ≤ R.locals) : CallW R s args RX12 RX12 754 yX12_isBound cX12_isBound 2 (some .boolean) (.code yX12_isBound cX12_isBound 2 (some .boolean) :: tb) rm mc ms 0 :=
  sCw Cx 0 w_2795 w_2797 w_201 w_217 w_2798 (by decide +kernel) h1 h2 h3
theorem c_X12_751 (Cx : sC G p m c cc nL s args RX12) {rm : Room} {mc ms : Nat} (h1 : rm.cells = mc) (h2 : rm.slots = ms) (h3 : rm.frames + 1 ≤ R.frames ∧ 8 + (2 + 11) + rm.locals ≤ R.locals) : CallW R s args RX12 RX12 751 yX12_cutRow cX12_cutRow 2 (some .boolean) (.code yX12_cutRow cX12_cutRow 2 (some .boolean) :: tb) rm mc ms 0 :=
  sCw Cx 0 w_2786 w_2788 w_199 w_217 w_2789 (by decide +kernel) h1 h2 h3
theorem c_X12_741 (Cx : sC G p m c cc nL s args RX12) {rm : Room} {mc ms : Nat} (h1 : rm.cells = mc) (h2 : rm.slots = ms) (h3 : rm.frames + 1 ≤ R.frames ∧ 8 + (2 + 11) + rm.locals ≤ R.locals) : CallW R s args RX12 RX12 741 yX12_variableAt cX12_variableAt 2 (some .int) (.code yX12_variableAt cX12_variableAt 2 (some .int) :: tb) rm mc ms 1 :=
  sCw Cx 1 w_2774 w_2776 w_196 w_217 w_2777 (by decide +kernel) h1 h2 h3
end RW85
