theorem dX12_begin_0 : decode cX12_begin 0 = .ok (.aload_n 0, 1) := by decide +kernel
theorem dX12_begin_1 : decode cX12_begin 1 = .ok (.getfield 462, 3) := by decide +kernel
theorem dX12_begin_4 : decode cX12_begin 4 = .ok (.ifCond .eq 13, 3) := by decide +kernel
theorem dX12_begin_7 : decode cX12_begin 7 = .ok (.iload_n 1, 1) := by decide +kernel
theorem dX12_begin_8 : decode cX12_begin 8 = .ok (.ifCond .lt 9, 3) := by decide +kernel
theorem dX12_begin_11 : decode cX12_begin 11 = .ok (.iload_n 1, 1) := by decide +kernel
theorem dX12_begin_12 : decode cX12_begin 12 = .ok (.bipush 20, 2) := by decide +kernel
theorem dX12_begin_14 : decode cX12_begin 14 = .ok (.if_icmp .le 5, 3) := by decide +kernel
theorem dX12_begin_17 : decode cX12_begin 17 = .ok (.iconst 0, 1) := by decide +kernel
theorem dX12_begin_18 : decode cX12_begin 18 = .ok (.ireturn, 1) := by decide +kernel
theorem dX12_begin_19 : decode cX12_begin 19 = .ok (.aload_n 0, 1) := by decide +kernel
theorem dX12_begin_20 : decode cX12_begin 20 = .ok (.iconst 1, 1) := by decide +kernel
theorem dX12_begin_21 : decode cX12_begin 21 = .ok (.putfield 477, 3) := by decide +kernel
theorem dX12_begin_24 : decode cX12_begin 24 = .ok (.aload_n 0, 1) := by decide +kernel
theorem dX12_begin_25 : decode cX12_begin 25 = .ok (.iload_n 1, 1) := by decide +kernel
theorem dX12_begin_26 : decode cX12_begin 26 = .ok (.putfield 493, 3) := by decide +kernel
theorem dX12_begin_29 : decode cX12_begin 29 = .ok (.aload_n 0, 1) := by decide +kernel
theorem dX12_begin_30 : decode cX12_begin 30 = .ok (.iconst 0, 1) := by decide +kernel
theorem dX12_begin_31 : decode cX12_begin 31 = .ok (.putfield 496, 3) := by decide +kernel
theorem dX12_begin_34 : decode cX12_begin 34 = .ok (.aload_n 0, 1) := by decide +kernel
theorem dX12_begin_35 : decode cX12_begin 35 = .ok (.iconst 1, 1) := by decide +kernel
theorem dX12_begin_36 : decode cX12_begin 36 = .ok (.putfield 499, 3) := by decide +kernel
theorem dX12_begin_39 : decode cX12_begin 39 = .ok (.aload_n 0, 1) := by decide +kernel
theorem dX12_begin_40 : decode cX12_begin 40 = .ok (.iconst 0, 1) := by decide +kernel
theorem dX12_begin_41 : decode cX12_begin 41 = .ok (.putfield 502, 3) := by decide +kernel
theorem dX12_begin_44 : decode cX12_begin 44 = .ok (.aload_n 0, 1) := by decide +kernel
theorem dX12_begin_45 : decode cX12_begin 45 = .ok (.iconst 0, 1) := by decide +kernel
theorem dX12_begin_46 : decode cX12_begin 46 = .ok (.putfield 505, 3) := by decide +kernel
theorem dX12_begin_49 : decode cX12_begin 49 = .ok (.aload_n 0, 1) := by decide +kernel
theorem dX12_begin_50 : decode cX12_begin 50 = .ok (.iconst 0, 1) := by decide +kernel
theorem dX12_begin_51 : decode cX12_begin 51 = .ok (.putfield 508, 3) := by decide +kernel
theorem dX12_begin_54 : decode cX12_begin 54 = .ok (.aload_n 0, 1) := by decide +kernel
theorem dX12_begin_55 : decode cX12_begin 55 = .ok (.iconst 0, 1) := by decide +kernel
theorem dX12_begin_56 : decode cX12_begin 56 = .ok (.putfield 511, 3) := by decide +kernel
theorem dX12_begin_59 : decode cX12_begin 59 = .ok (.aload_n 0, 1) := by decide +kernel
theorem dX12_begin_60 : decode cX12_begin 60 = .ok (.iconst 0, 1) := by decide +kernel
theorem dX12_begin_61 : decode cX12_begin 61 = .ok (.putfield 514, 3) := by decide +kernel
theorem dX12_begin_64 : decode cX12_begin 64 = .ok (.aload_n 0, 1) := by decide +kernel
theorem dX12_begin_65 : decode cX12_begin 65 = .ok (.iconst 0, 1) := by decide +kernel
theorem dX12_begin_66 : decode cX12_begin 66 = .ok (.putfield 517, 3) := by decide +kernel
theorem dX12_begin_69 : decode cX12_begin 69 = .ok (.aload_n 0, 1) := by decide +kernel
theorem dX12_begin_70 : decode cX12_begin 70 = .ok (.iconst 0, 1) := by decide +kernel
theorem dX12_begin_71 : decode cX12_begin 71 = .ok (.putfield 520, 3) := by decide +kernel
theorem dX12_begin_74 : decode cX12_begin 74 = .ok (.aload_n 0, 1) := by decide +kernel
theorem dX12_begin_75 : decode cX12_begin 75 = .ok (.iconst 0, 1) := by decide +kernel
theorem dX12_begin_76 : decode cX12_begin 76 = .ok (.putfield 523, 3) := by decide +kernel
theorem dX12_begin_79 : decode cX12_begin 79 = .ok (.aload_n 0, 1) := by decide +kernel
theorem dX12_begin_80 : decode cX12_begin 80 = .ok (.aload_n 0, 1) := by decide +kernel
theorem dX12_begin_81 : decode cX12_begin 81 = .ok (.getfield 468, 3) := by decide +kernel
theorem dX12_begin_84 : decode cX12_begin 84 = .ok (.putfield 480, 3) := by decide +kernel
theorem dX12_begin_87 : decode cX12_begin 87 = .ok (.aload_n 0, 1) := by decide +kernel
theorem dX12_begin_88 : decode cX12_begin 88 = .ok (.aload_n 0, 1) := by decide +kernel
theorem dX12_begin_89 : decode cX12_begin 89 = .ok (.getfield 468, 3) := by decide +kernel
theorem dX12_begin_92 : decode cX12_begin 92 = .ok (.putfield 483, 3) := by decide +kernel
theorem dX12_begin_95 : decode cX12_begin 95 = .ok (.aload_n 0, 1) := by decide +kernel
theorem dX12_begin_96 : decode cX12_begin 96 = .ok (.aload_n 0, 1) := by decide +kernel
theorem dX12_begin_97 : decode cX12_begin 97 = .ok (.getfield 465, 3) := by decide +kernel
theorem dX12_begin_100 : decode cX12_begin 100 = .ok (.putfield 526, 3) := by decide +kernel
theorem dX12_begin_103 : decode cX12_begin 103 = .ok (.iconst 0, 1) := by decide +kernel
theorem dX12_begin_104 : decode cX12_begin 104 = .ok (.istore_n 2, 1) := by decide +kernel
theorem dX12_begin_105 : decode cX12_begin 105 = .ok (.iload_n 2, 1) := by decide +kernel
theorem dX12_begin_106 : decode cX12_begin 106 = .ok (.sipush 5280, 3) := by decide +kernel
theorem dX12_begin_109 : decode cX12_begin 109 = .ok (.if_icmp .ge 16, 3) := by decide +kernel
theorem dX12_begin_112 : decode cX12_begin 112 = .ok (.aload_n 0, 1) := by decide +kernel
theorem dX12_begin_113 : decode cX12_begin 113 = .ok (.getfield 103, 3) := by decide +kernel
theorem dX12_begin_116 : decode cX12_begin 116 = .ok (.iload_n 2, 1) := by decide +kernel
theorem dX12_begin_117 : decode cX12_begin 117 = .ok (.iconst 0, 1) := by decide +kernel
theorem dX12_begin_118 : decode cX12_begin 118 = .ok (.iastore, 1) := by decide +kernel
theorem dX12_begin_119 : decode cX12_begin 119 = .ok (.iinc 2 1, 3) := by decide +kernel
theorem dX12_begin_122 : decode cX12_begin 122 = .ok (.goto (-17), 3) := by decide +kernel
theorem dX12_begin_125 : decode cX12_begin 125 = .ok (.aload_n 0, 1) := by decide +kernel
theorem dX12_begin_126 : decode cX12_begin 126 = .ok (.getfield 109, 3) := by decide +kernel
theorem dX12_begin_129 : decode cX12_begin 129 = .ok (.iconst 0, 1) := by decide +kernel
theorem dX12_begin_130 : decode cX12_begin 130 = .ok (.lconst 1, 1) := by decide +kernel
theorem dX12_begin_131 : decode cX12_begin 131 = .ok (.invokestatic 241, 3) := by decide +kernel
theorem dX12_begin_134 : decode cX12_begin 134 = .ok (.iconst 0, 1) := by decide +kernel
theorem dX12_begin_135 : decode cX12_begin 135 = .ok (.istore_n 2, 1) := by decide +kernel
theorem dX12_begin_136 : decode cX12_begin 136 = .ok (.iconst 0, 1) := by decide +kernel
theorem dX12_begin_137 : decode cX12_begin 137 = .ok (.istore_n 3, 1) := by decide +kernel
theorem dX12_begin_138 : decode cX12_begin 138 = .ok (.iload_n 3, 1) := by decide +kernel
theorem dX12_begin_139 : decode cX12_begin 139 = .ok (.aload_n 0, 1) := by decide +kernel
theorem dX12_begin_140 : decode cX12_begin 140 = .ok (.getfield 465, 3) := by decide +kernel
theorem dX12_begin_143 : decode cX12_begin 143 = .ok (.if_icmp .gt 53, 3) := by decide +kernel
theorem dX12_begin_146 : decode cX12_begin 146 = .ok (.aload_n 0, 1) := by decide +kernel
theorem dX12_begin_147 : decode cX12_begin 147 = .ok (.getfield 103, 3) := by decide +kernel
theorem dX12_begin_150 : decode cX12_begin 150 = .ok (.aload_n 0, 1) := by decide +kernel
theorem dX12_begin_151 : decode cX12_begin 151 = .ok (.iconst 0, 1) := by decide +kernel
theorem dX12_begin_152 : decode cX12_begin 152 = .ok (.iload_n 3, 1) := by decide +kernel
theorem dX12_begin_153 : decode cX12_begin 153 = .ok (.invokevirtual 529, 3) := by decide +kernel
theorem dX12_begin_156 : decode cX12_begin 156 = .ok (.iload_n 3, 1) := by decide +kernel
theorem dX12_begin_157 : decode cX12_begin 157 = .ok (.ifCond .ne 12, 3) := by decide +kernel
theorem dX12_begin_160 : decode cX12_begin 160 = .ok (.aload_n 0, 1) := by decide +kernel
theorem dX12_begin_161 : decode cX12_begin 161 = .ok (.getfield 97, 3) := by decide +kernel
theorem dX12_begin_164 : decode cX12_begin 164 = .ok (.iconst 0, 1) := by decide +kernel
theorem dX12_begin_165 : decode cX12_begin 165 = .ok (.laload, 1) := by decide +kernel
theorem dX12_begin_166 : decode cX12_begin 166 = .ok (.goto 10, 3) := by decide +kernel
theorem dX12_begin_169 : decode cX12_begin 169 = .ok (.aload_n 0, 1) := by decide +kernel
theorem dX12_begin_170 : decode cX12_begin 170 = .ok (.getfield 97, 3) := by decide +kernel
theorem dX12_begin_173 : decode cX12_begin 173 = .ok (.iload_n 3, 1) := by decide +kernel
theorem dX12_begin_174 : decode cX12_begin 174 = .ok (.laload, 1) := by decide +kernel
theorem dX12_begin_175 : decode cX12_begin 175 = .ok (.lneg, 1) := by decide +kernel
theorem dX12_begin_176 : decode cX12_begin 176 = .ok (.invokestatic 241, 3) := by decide +kernel
theorem dX12_begin_179 : decode cX12_begin 179 = .ok (.iload_n 3, 1) := by decide +kernel
theorem dX12_begin_180 : decode cX12_begin 180 = .ok (.ifCond .le 10, 3) := by decide +kernel
theorem dX12_begin_183 : decode cX12_begin 183 = .ok (.aload_n 0, 1) := by decide +kernel
theorem dX12_begin_184 : decode cX12_begin 184 = .ok (.getfield 115, 3) := by decide +kernel
theorem dX12_begin_187 : decode cX12_begin 187 = .ok (.iload_n 3, 1) := by decide +kernel
theorem dX12_begin_188 : decode cX12_begin 188 = .ok (.iload_n 3, 1) := by decide +kernel
theorem dX12_begin_189 : decode cX12_begin 189 = .ok (.iastore, 1) := by decide +kernel
theorem dX12_begin_190 : decode cX12_begin 190 = .ok (.iinc 3 1, 3) := by decide +kernel
theorem dX12_begin_193 : decode cX12_begin 193 = .ok (.goto (-55), 3) := by decide +kernel
theorem dX12_begin_196 : decode cX12_begin 196 = .ok (.iconst 1, 1) := by decide +kernel
theorem dX12_begin_197 : decode cX12_begin 197 = .ok (.istore_n 3, 1) := by decide +kernel
theorem dX12_begin_198 : decode cX12_begin 198 = .ok (.iload_n 3, 1) := by decide +kernel
theorem dX12_begin_199 : decode cX12_begin 199 = .ok (.aload_n 0, 1) := by decide +kernel
theorem dX12_begin_200 : decode cX12_begin 200 = .ok (.getfield 468, 3) := by decide +kernel
theorem dX12_begin_203 : decode cX12_begin 203 = .ok (.if_icmp .gt 89, 3) := by decide +kernel
theorem dX12_begin_206 : decode cX12_begin 206 = .ok (.aload_n 0, 1) := by decide +kernel
theorem dX12_begin_207 : decode cX12_begin 207 = .ok (.getfield 112, 3) := by decide +kernel
theorem dX12_begin_210 : decode cX12_begin 210 = .ok (.iload_n 3, 1) := by decide +kernel
theorem dX12_begin_211 : decode cX12_begin 211 = .ok (.aload_n 0, 1) := by decide +kernel
theorem dX12_begin_212 : decode cX12_begin 212 = .ok (.getfield 465, 3) := by decide +kernel
theorem dX12_begin_215 : decode cX12_begin 215 = .ok (.iload_n 3, 1) := by decide +kernel
theorem dX12_begin_216 : decode cX12_begin 216 = .ok (.iadd, 1) := by decide +kernel
theorem dX12_begin_217 : decode cX12_begin 217 = .ok (.iastore, 1) := by decide +kernel
theorem dX12_begin_218 : decode cX12_begin 218 = .ok (.iconst 0, 1) := by decide +kernel
theorem dX12_begin_219 : decode cX12_begin 219 = .ok (.istore 4, 2) := by decide +kernel
theorem dX12_begin_221 : decode cX12_begin 221 = .ok (.iload 4, 2) := by decide +kernel
theorem dX12_begin_223 : decode cX12_begin 223 = .ok (.aload_n 0, 1) := by decide +kernel
theorem dX12_begin_224 : decode cX12_begin 224 = .ok (.getfield 465, 3) := by decide +kernel
theorem dX12_begin_227 : decode cX12_begin 227 = .ok (.if_icmp .gt 37, 3) := by decide +kernel
theorem dX12_begin_230 : decode cX12_begin 230 = .ok (.aload_n 0, 1) := by decide +kernel
theorem dX12_begin_231 : decode cX12_begin 231 = .ok (.getfield 103, 3) := by decide +kernel
theorem dX12_begin_234 : decode cX12_begin 234 = .ok (.aload_n 0, 1) := by decide +kernel
theorem dX12_begin_235 : decode cX12_begin 235 = .ok (.iload_n 3, 1) := by decide +kernel
theorem dX12_begin_236 : decode cX12_begin 236 = .ok (.iconst 1, 1) := by decide +kernel
theorem dX12_begin_237 : decode cX12_begin 237 = .ok (.iadd, 1) := by decide +kernel
theorem dX12_begin_238 : decode cX12_begin 238 = .ok (.iload 4, 2) := by decide +kernel
theorem dX12_begin_240 : decode cX12_begin 240 = .ok (.invokevirtual 529, 3) := by decide +kernel
theorem dX12_begin_243 : decode cX12_begin 243 = .ok (.aload_n 0, 1) := by decide +kernel
theorem dX12_begin_244 : decode cX12_begin 244 = .ok (.getfield 190, 3) := by decide +kernel
theorem dX12_begin_247 : decode cX12_begin 247 = .ok (.bipush 13, 2) := by decide +kernel
theorem dX12_begin_249 : decode cX12_begin 249 = .ok (.iload_n 3, 1) := by decide +kernel
theorem dX12_begin_250 : decode cX12_begin 250 = .ok (.imul, 1) := by decide +kernel
theorem dX12_begin_251 : decode cX12_begin 251 = .ok (.iload 4, 2) := by decide +kernel
theorem dX12_begin_253 : decode cX12_begin 253 = .ok (.iadd, 1) := by decide +kernel
theorem dX12_begin_254 : decode cX12_begin 254 = .ok (.laload, 1) := by decide +kernel
theorem dX12_begin_255 : decode cX12_begin 255 = .ok (.invokestatic 241, 3) := by decide +kernel
theorem dX12_begin_258 : decode cX12_begin 258 = .ok (.iinc 4 1, 3) := by decide +kernel
theorem dX12_begin_261 : decode cX12_begin 261 = .ok (.goto (-40), 3) := by decide +kernel
theorem dX12_begin_264 : decode cX12_begin 264 = .ok (.iload_n 2, 1) := by decide +kernel
theorem dX12_begin_265 : decode cX12_begin 265 = .ok (.aload_n 0, 1) := by decide +kernel
theorem dX12_begin_266 : decode cX12_begin 266 = .ok (.getfield 190, 3) := by decide +kernel
theorem dX12_begin_269 : decode cX12_begin 269 = .ok (.bipush 13, 2) := by decide +kernel
theorem dX12_begin_271 : decode cX12_begin 271 = .ok (.iload_n 3, 1) := by decide +kernel
theorem dX12_begin_272 : decode cX12_begin 272 = .ok (.imul, 1) := by decide +kernel
theorem dX12_begin_273 : decode cX12_begin 273 = .ok (.laload, 1) := by decide +kernel
theorem dX12_begin_274 : decode cX12_begin 274 = .ok (.lconst 0, 1) := by decide +kernel
theorem dX12_begin_275 : decode cX12_begin 275 = .ok (.lcmp, 1) := by decide +kernel
theorem dX12_begin_276 : decode cX12_begin 276 = .ok (.ifCond .ge 7, 3) := by decide +kernel
theorem dX12_begin_279 : decode cX12_begin 279 = .ok (.iconst 1, 1) := by decide +kernel
theorem dX12_begin_280 : decode cX12_begin 280 = .ok (.goto 4, 3) := by decide +kernel
theorem dX12_begin_283 : decode cX12_begin 283 = .ok (.iconst 0, 1) := by decide +kernel
theorem dX12_begin_284 : decode cX12_begin 284 = .ok (.ior, 1) := by decide +kernel
theorem dX12_begin_285 : decode cX12_begin 285 = .ok (.istore_n 2, 1) := by decide +kernel
theorem dX12_begin_286 : decode cX12_begin 286 = .ok (.iinc 3 1, 3) := by decide +kernel
theorem dX12_begin_289 : decode cX12_begin 289 = .ok (.goto (-91), 3) := by decide +kernel
theorem dX12_begin_292 : decode cX12_begin 292 = .ok (.aload_n 0, 1) := by decide +kernel
theorem dX12_begin_293 : decode cX12_begin 293 = .ok (.iload_n 2, 1) := by decide +kernel
theorem dX12_begin_294 : decode cX12_begin 294 = .ok (.ifCond .eq 7, 3) := by decide +kernel
theorem dX12_begin_297 : decode cX12_begin 297 = .ok (.iconst 0, 1) := by decide +kernel
theorem dX12_begin_298 : decode cX12_begin 298 = .ok (.goto 4, 3) := by decide +kernel
theorem dX12_begin_301 : decode cX12_begin 301 = .ok (.iconst 3, 1) := by decide +kernel
theorem dX12_begin_302 : decode cX12_begin 302 = .ok (.putfield 532, 3) := by decide +kernel
theorem dX12_begin_305 : decode cX12_begin 305 = .ok (.aload_n 0, 1) := by decide +kernel
theorem dX12_begin_306 : decode cX12_begin 306 = .ok (.iload_n 2, 1) := by decide +kernel
theorem dX12_begin_307 : decode cX12_begin 307 = .ok (.putfield 535, 3) := by decide +kernel
theorem dX12_begin_310 : decode cX12_begin 310 = .ok (.iload_n 2, 1) := by decide +kernel
theorem dX12_begin_311 : decode cX12_begin 311 = .ok (.ifCond .eq 77, 3) := by decide +kernel
theorem dX12_begin_314 : decode cX12_begin 314 = .ok (.aload_n 0, 1) := by decide +kernel
theorem dX12_begin_315 : decode cX12_begin 315 = .ok (.aload_n 0, 1) := by decide +kernel
theorem dX12_begin_316 : decode cX12_begin 316 = .ok (.getfield 465, 3) := by decide +kernel
theorem dX12_begin_319 : decode cX12_begin 319 = .ok (.iconst 1, 1) := by decide +kernel
theorem dX12_begin_320 : decode cX12_begin 320 = .ok (.iadd, 1) := by decide +kernel
theorem dX12_begin_321 : decode cX12_begin 321 = .ok (.putfield 526, 3) := by decide +kernel
theorem dX12_begin_324 : decode cX12_begin 324 = .ok (.aload_n 0, 1) := by decide +kernel
theorem dX12_begin_325 : decode cX12_begin 325 = .ok (.getfield 115, 3) := by decide +kernel
theorem dX12_begin_328 : decode cX12_begin 328 = .ok (.aload_n 0, 1) := by decide +kernel
theorem dX12_begin_329 : decode cX12_begin 329 = .ok (.getfield 526, 3) := by decide +kernel
theorem dX12_begin_332 : decode cX12_begin 332 = .ok (.iconst 0, 1) := by decide +kernel
theorem dX12_begin_333 : decode cX12_begin 333 = .ok (.iastore, 1) := by decide +kernel
theorem dX12_begin_334 : decode cX12_begin 334 = .ok (.iconst 1, 1) := by decide +kernel
theorem dX12_begin_335 : decode cX12_begin 335 = .ok (.istore_n 3, 1) := by decide +kernel
theorem dX12_begin_336 : decode cX12_begin 336 = .ok (.iload_n 3, 1) := by decide +kernel
theorem dX12_begin_337 : decode cX12_begin 337 = .ok (.aload_n 0, 1) := by decide +kernel
theorem dX12_begin_338 : decode cX12_begin 338 = .ok (.getfield 468, 3) := by decide +kernel
theorem dX12_begin_341 : decode cX12_begin 341 = .ok (.if_icmp .gt 30, 3) := by decide +kernel
theorem dX12_begin_344 : decode cX12_begin 344 = .ok (.aload_n 0, 1) := by decide +kernel
theorem dX12_begin_345 : decode cX12_begin 345 = .ok (.getfield 103, 3) := by decide +kernel
theorem dX12_begin_348 : decode cX12_begin 348 = .ok (.aload_n 0, 1) := by decide +kernel
theorem dX12_begin_349 : decode cX12_begin 349 = .ok (.iload_n 3, 1) := by decide +kernel
theorem dX12_begin_350 : decode cX12_begin 350 = .ok (.iconst 1, 1) := by decide +kernel
theorem dX12_begin_351 : decode cX12_begin 351 = .ok (.iadd, 1) := by decide +kernel
theorem dX12_begin_352 : decode cX12_begin 352 = .ok (.aload_n 0, 1) := by decide +kernel
theorem dX12_begin_353 : decode cX12_begin 353 = .ok (.getfield 526, 3) := by decide +kernel
theorem dX12_begin_356 : decode cX12_begin 356 = .ok (.invokevirtual 529, 3) := by decide +kernel
theorem dX12_begin_359 : decode cX12_begin 359 = .ok (.ldc2_w 538, 3) := by decide +kernel
theorem dX12_begin_362 : decode cX12_begin 362 = .ok (.invokestatic 241, 3) := by decide +kernel
theorem dX12_begin_365 : decode cX12_begin 365 = .ok (.iinc 3 1, 3) := by decide +kernel
theorem dX12_begin_368 : decode cX12_begin 368 = .ok (.goto (-32), 3) := by decide +kernel
theorem dX12_begin_371 : decode cX12_begin 371 = .ok (.aload_n 0, 1) := by decide +kernel
theorem dX12_begin_372 : decode cX12_begin 372 = .ok (.getfield 103, 3) := by decide +kernel
theorem dX12_begin_375 : decode cX12_begin 375 = .ok (.aload_n 0, 1) := by decide +kernel
theorem dX12_begin_376 : decode cX12_begin 376 = .ok (.iconst 1, 1) := by decide +kernel
theorem dX12_begin_377 : decode cX12_begin 377 = .ok (.aload_n 0, 1) := by decide +kernel
theorem dX12_begin_378 : decode cX12_begin 378 = .ok (.getfield 526, 3) := by decide +kernel
theorem dX12_begin_381 : decode cX12_begin 381 = .ok (.invokevirtual 529, 3) := by decide +kernel
theorem dX12_begin_384 : decode cX12_begin 384 = .ok (.lconst 1, 1) := by decide +kernel
theorem dX12_begin_385 : decode cX12_begin 385 = .ok (.invokestatic 241, 3) := by decide +kernel
theorem dX12_begin_388 : decode cX12_begin 388 = .ok (.iconst 1, 1) := by decide +kernel
theorem dX12_begin_389 : decode cX12_begin 389 = .ok (.ireturn, 1) := by decide +kernel
theorem w_2006 : Cond.fieldLink RX12 462 (TX12 45).1 (TX12 45).2.1 (TX12 45).2.2.1 ∈ tb := tbc_8 123 (by decide +kernel) rfl
theorem w_2008 : Cond.fieldLink RX12 468 (TX12 47).1 (TX12 47).2.1 (TX12 47).2.2.1 ∈ tb := tbc_8 125 (by decide +kernel) rfl
theorem w_2025 : Cond.fieldLink RX12 496 (TX12 64).1 (TX12 64).2.1 (TX12 64).2.2.1 ∈ tb := tbc_8 142 (by decide +kernel) rfl
theorem w_2028 : Cond.fieldLink RX12 505 (TX12 67).1 (TX12 67).2.1 (TX12 67).2.2.1 ∈ tb := tbc_8 145 (by decide +kernel) rfl
theorem w_2029 : Cond.fieldLink RX12 493 (TX12 68).1 (TX12 68).2.1 (TX12 68).2.2.1 ∈ tb := tbc_8 146 (by decide +kernel) rfl
theorem w_2030 : Cond.fieldLink RX12 508 (TX12 69).1 (TX12 69).2.1 (TX12 69).2.2.1 ∈ tb := tbc_8 147 (by decide +kernel) rfl
theorem w_2031 : Cond.fieldLink RX12 517 (TX12 70).1 (TX12 70).2.1 (TX12 70).2.2.1 ∈ tb := tbc_8 148 (by decide +kernel) rfl
theorem w_2039 : Cond.fieldLink RX12 511 (TX12 78).1 (TX12 78).2.1 (TX12 78).2.2.1 ∈ tb := tbc_8 156 (by decide +kernel) rfl
theorem w_2062 : Cond.fieldLink RX12 190 (TX12 101).1 (TX12 101).2.1 (TX12 101).2.2.1 ∈ tb := tbc_8 179 (by decide +kernel) rfl
theorem w_2496 : Cond.constantLong RX12 538 (jv (-1)) ∈ tb := tbc_10 133 (by decide +kernel) rfl
section RW62
variable {p : Program} {l : Launch} {e : Env} {R : Room} {s : State} {m : MethodId} {args : Array Value} {below : List Frame} {meth : Method} {c : Code} {H : Heap} {locs : List Loc} {cells slots : Nat} {Q : State → Prop}
variable {cc : ByteArray} {pc nL : Nat} {ls : Array Slot} {rest st0 : List Value} {G : sG} {n : Nat} {S : sS}
theorem g_X12_462 (Cx : sC G p m c cc nL s args RX12) (hW : sW G n S H) {k : Nat} (hk : k < n) (ht : tau k = .inl 12) {v : Int} (hv : S.1 k 45 = v) (hdg : decode cc pc = .ok (.getfield 462, 3)) (kk : W p l e R s m args below meth c H locs cells slots Q (F0 m (pc + 3) ls (.int (iv v) :: rest))) : W p l e R s m args below meth c H locs cells slots Q (F0 m pc ls (.ref (G.2.2.1 + k) :: rest)) :=
  sGet Cx inX12 rfl 45 (by decide) w_2006 hW hk ht (congrArg (fun z => Value.int (iv z)) hv) hdg kk
theorem p_X12_493 (Cx : sC G p m c cc nL s args RX12) (hW : sW G n S H) (hL : sL G locs) {k : Nat} (hk : k < n) (ht : tau k = .inl 12) {v : Int} (hdg : decode cc pc = .ok (.putfield 493, 3)) (kk : ∀ (H1 : Heap) (locs1 : List Loc), sW G n (uF S k 68 v) H1 → sL G locs1 → W p l e R s m args below meth c H1 locs1 cells slots Q (F0 m (pc + 3) ls rest)) : W p l e R s m args below meth c H locs cells slots Q (F0 m pc ls (.int (iv v) :: .ref (G.2.2.1 + k) :: rest)) :=
  sPut Cx inX12 tyX12 tyX12_ok nmX12 rfl 68 (by decide) w_2029 rfl hW hL hk ht rfl rfl (fun _ h => uF_same h) (fun _ h => uF_off h) (congrArg (fun z => Value.int (iv z)) uF_on) hdg kk
theorem p_X12_496 (Cx : sC G p m c cc nL s args RX12) (hW : sW G n S H) (hL : sL G locs) {k : Nat} (hk : k < n) (ht : tau k = .inl 12) {v : Int} (hdg : decode cc pc = .ok (.putfield 496, 3)) (kk : ∀ (H1 : Heap) (locs1 : List Loc), sW G n (uF S k 64 v) H1 → sL G locs1 → W p l e R s m args below meth c H1 locs1 cells slots Q (F0 m (pc + 3) ls rest)) : W p l e R s m args below meth c H locs cells slots Q (F0 m pc ls (.int (iv v) :: .ref (G.2.2.1 + k) :: rest)) :=
  sPut Cx inX12 tyX12 tyX12_ok nmX12 rfl 64 (by decide) w_2025 rfl hW hL hk ht rfl rfl (fun _ h => uF_same h) (fun _ h => uF_off h) (congrArg (fun z => Value.int (iv z)) uF_on) hdg kk
theorem p_X12_505 (Cx : sC G p m c cc nL s args RX12) (hW : sW G n S H) (hL : sL G locs) {k : Nat} (hk : k < n) (ht : tau k = .inl 12) {v : Int} (hdg : decode cc pc = .ok (.putfield 505, 3)) (kk : ∀ (H1 : Heap) (locs1 : List Loc), sW G n (uF S k 67 v) H1 → sL G locs1 → W p l e R s m args below meth c H1 locs1 cells slots Q (F0 m (pc + 3) ls rest)) : W p l e R s m args below meth c H locs cells slots Q (F0 m pc ls (.int (iv v) :: .ref (G.2.2.1 + k) :: rest)) :=
  sPut Cx inX12 tyX12 tyX12_ok nmX12 rfl 67 (by decide) w_2028 rfl hW hL hk ht rfl rfl (fun _ h => uF_same h) (fun _ h => uF_off h) (congrArg (fun z => Value.int (iv z)) uF_on) hdg kk
theorem p_X12_508 (Cx : sC G p m c cc nL s args RX12) (hW : sW G n S H) (hL : sL G locs) {k : Nat} (hk : k < n) (ht : tau k = .inl 12) {v : Int} (hdg : decode cc pc = .ok (.putfield 508, 3)) (kk : ∀ (H1 : Heap) (locs1 : List Loc), sW G n (uF S k 69 v) H1 → sL G locs1 → W p l e R s m args below meth c H1 locs1 cells slots Q (F0 m (pc + 3) ls rest)) : W p l e R s m args below meth c H locs cells slots Q (F0 m pc ls (.int (iv v) :: .ref (G.2.2.1 + k) :: rest)) :=
  sPut Cx inX12 tyX12 tyX12_ok nmX12 rfl 69 (by decide) w_2030 rfl hW hL hk ht rfl rfl (fun _ h => uF_same h) (fun _ h => uF_off h) (congrArg (fun z => Value.int (iv z)) uF_on) hdg kk
theorem p_X12_511 (Cx : sC G p m c cc nL s args RX12) (hW : sW G n S H) (hL : sL G locs) {k : Nat} (hk : k < n) (ht : tau k = .inl 12) {v : Int} (hdg : decode cc pc = .ok (.putfield 511, 3)) (kk : ∀ (H1 : Heap) (locs1 : List Loc), sW G n (uF S k 78 v) H1 → sL G locs1 → W p l e R s m args below meth c H1 locs1 cells slots Q (F0 m (pc + 3) ls rest)) : W p l e R s m args below meth c H locs cells slots Q (F0 m pc ls (.int (iv v) :: .ref (G.2.2.1 + k) :: rest)) :=
  sPut Cx inX12 tyX12 tyX12_ok nmX12 rfl 78 (by decide) w_2039 rfl hW hL hk ht rfl rfl (fun _ h => uF_same h) (fun _ h => uF_off h) (congrArg (fun z => Value.int (iv z)) uF_on) hdg kk
theorem p_X12_517 (Cx : sC G p m c cc nL s args RX12) (hW : sW G n S H) (hL : sL G locs) {k : Nat} (hk : k < n) (ht : tau k = .inl 12) {v : Int} (hv : v = 0 ∨ v = 1) (hdg : decode cc pc = .ok (.putfield 517, 3)) (kk : ∀ (H1 : Heap) (locs1 : List Loc), sW G n (uF S k 70 v) H1 → sL G locs1 → W p l e R s m args below meth c H1 locs1 cells slots Q (F0 m (pc + 3) ls rest)) : W p l e R s m args below meth c H locs cells slots Q (F0 m pc ls (.int (iv v) :: .ref (G.2.2.1 + k) :: rest)) :=
  sPut Cx inX12 tyX12 tyX12_ok nmX12 rfl 70 (by decide) w_2031 rfl hW hL hk ht (by rcases hv with rfl | rfl <;> rfl) (by rcases hv with rfl | rfl <;> rfl) (fun _ h => uF_same h) (fun _ h => uF_off h) (congrArg (fun z => Value.int (iv z)) uF_on) hdg kk
theorem g_X12_468 (Cx : sC G p m c cc nL s args RX12) (hW : sW G n S H) {k : Nat} (hk : k < n) (ht : tau k = .inl 12) {v : Int} (hv : S.1 k 47 = v) (hdg : decode cc pc = .ok (.getfield 468, 3)) (kk : W p l e R s m args below meth c H locs cells slots Q (F0 m (pc + 3) ls (.int (iv v) :: rest))) : W p l e R s m args below meth c H locs cells slots Q (F0 m pc ls (.ref (G.2.2.1 + k) :: rest)) :=
  sGet Cx inX12 rfl 47 (by decide) w_2008 hW hk ht (congrArg (fun z => Value.int (iv z)) hv) hdg kk
theorem g_X12_190 (Cx : sC G p m c cc nL s args RX12) (hW : sW G n S H) {k : Nat} (hk : k < n) (ht : tau k = .inl 12) {v : Value} (hv : S.2.2.2 k 101 = v) (hdg : decode cc pc = .ok (.getfield 190, 3)) (kk : W p l e R s m args below meth c H locs cells slots Q (F0 m (pc + 3) ls (v :: rest))) : W p l e R s m args below meth c H locs cells slots Q (F0 m pc ls (.ref (G.2.2.1 + k) :: rest)) :=
  sGet Cx inX12 rfl 101 (by decide) w_2062 hW hk ht hv hdg kk
end RW62
