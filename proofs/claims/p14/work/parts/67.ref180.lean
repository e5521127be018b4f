theorem dX12_cut_0 : decode cX12_cut 0 = .ok (.aload_n 0, 1) := by decide +kernel
theorem dX12_cut_1 : decode cX12_cut 1 = .ok (.invokevirtual 600, 3) := by decide +kernel
theorem dX12_cut_4 : decode cX12_cut 4 = .ok (.iconst 0, 1) := by decide +kernel
theorem dX12_cut_5 : decode cX12_cut 5 = .ok (.istore_n 2, 1) := by decide +kernel
theorem dX12_cut_6 : decode cX12_cut 6 = .ok (.iload_n 2, 1) := by decide +kernel
theorem dX12_cut_7 : decode cX12_cut 7 = .ok (.aload_n 0, 1) := by decide +kernel
theorem dX12_cut_8 : decode cX12_cut 8 = .ok (.getfield 526, 3) := by decide +kernel
theorem dX12_cut_11 : decode cX12_cut 11 = .ok (.if_icmp .gt 93, 3) := by decide +kernel
theorem dX12_cut_14 : decode cX12_cut 14 = .ok (.aload_n 0, 1) := by decide +kernel
theorem dX12_cut_15 : decode cX12_cut 15 = .ok (.aload_n 0, 1) := by decide +kernel
theorem dX12_cut_16 : decode cX12_cut 16 = .ok (.getfield 103, 3) := by decide +kernel
theorem dX12_cut_19 : decode cX12_cut 19 = .ok (.aload_n 0, 1) := by decide +kernel
theorem dX12_cut_20 : decode cX12_cut 20 = .ok (.iload_n 1, 1) := by decide +kernel
theorem dX12_cut_21 : decode cX12_cut 21 = .ok (.iconst 1, 1) := by decide +kernel
theorem dX12_cut_22 : decode cX12_cut 22 = .ok (.iadd, 1) := by decide +kernel
theorem dX12_cut_23 : decode cX12_cut 23 = .ok (.iload_n 2, 1) := by decide +kernel
theorem dX12_cut_24 : decode cX12_cut 24 = .ok (.invokevirtual 529, 3) := by decide +kernel
theorem dX12_cut_27 : decode cX12_cut 27 = .ok (.aload_n 0, 1) := by decide +kernel
theorem dX12_cut_28 : decode cX12_cut 28 = .ok (.getfield 109, 3) := by decide +kernel
theorem dX12_cut_31 : decode cX12_cut 31 = .ok (.iconst 0, 1) := by decide +kernel
theorem dX12_cut_32 : decode cX12_cut 32 = .ok (.aload_n 0, 1) := by decide +kernel
theorem dX12_cut_33 : decode cX12_cut 33 = .ok (.getfield 26, 3) := by decide +kernel
theorem dX12_cut_36 : decode cX12_cut 36 = .ok (.iconst 0, 1) := by decide +kernel
theorem dX12_cut_37 : decode cX12_cut 37 = .ok (.aload_n 0, 1) := by decide +kernel
theorem dX12_cut_38 : decode cX12_cut 38 = .ok (.getfield 106, 3) := by decide +kernel
theorem dX12_cut_41 : decode cX12_cut 41 = .ok (.aload_n 0, 1) := by decide +kernel
theorem dX12_cut_42 : decode cX12_cut 42 = .ok (.iconst 0, 1) := by decide +kernel
theorem dX12_cut_43 : decode cX12_cut 43 = .ok (.iload_n 2, 1) := by decide +kernel
theorem dX12_cut_44 : decode cX12_cut 44 = .ok (.invokevirtual 529, 3) := by decide +kernel
theorem dX12_cut_47 : decode cX12_cut 47 = .ok (.invokevirtual 266, 3) := by decide +kernel
theorem dX12_cut_50 : decode cX12_cut 50 = .ok (.iload_n 2, 1) := by decide +kernel
theorem dX12_cut_51 : decode cX12_cut 51 = .ok (.ifCond .le 47, 3) := by decide +kernel
theorem dX12_cut_54 : decode cX12_cut 54 = .ok (.aload_n 0, 1) := by decide +kernel
theorem dX12_cut_55 : decode cX12_cut 55 = .ok (.getfield 115, 3) := by decide +kernel
theorem dX12_cut_58 : decode cX12_cut 58 = .ok (.iload_n 2, 1) := by decide +kernel
theorem dX12_cut_59 : decode cX12_cut 59 = .ok (.iaload, 1) := by decide +kernel
theorem dX12_cut_60 : decode cX12_cut 60 = .ok (.aload_n 0, 1) := by decide +kernel
theorem dX12_cut_61 : decode cX12_cut 61 = .ok (.getfield 465, 3) := by decide +kernel
theorem dX12_cut_64 : decode cX12_cut 64 = .ok (.if_icmp .le 34, 3) := by decide +kernel
theorem dX12_cut_67 : decode cX12_cut 67 = .ok (.aload_n 0, 1) := by decide +kernel
theorem dX12_cut_68 : decode cX12_cut 68 = .ok (.getfield 106, 3) := by decide +kernel
theorem dX12_cut_71 : decode cX12_cut 71 = .ok (.aload_n 0, 1) := by decide +kernel
theorem dX12_cut_72 : decode cX12_cut 72 = .ok (.iconst 0, 1) := by decide +kernel
theorem dX12_cut_73 : decode cX12_cut 73 = .ok (.iload_n 2, 1) := by decide +kernel
theorem dX12_cut_74 : decode cX12_cut 74 = .ok (.invokevirtual 529, 3) := by decide +kernel
theorem dX12_cut_77 : decode cX12_cut 77 = .ok (.aload_n 0, 1) := by decide +kernel
theorem dX12_cut_78 : decode cX12_cut 78 = .ok (.getfield 154, 3) := by decide +kernel
theorem dX12_cut_81 : decode cX12_cut 81 = .ok (.bipush 8, 2) := by decide +kernel
theorem dX12_cut_83 : decode cX12_cut 83 = .ok (.aload_n 0, 1) := by decide +kernel
theorem dX12_cut_84 : decode cX12_cut 84 = .ok (.getfield 115, 3) := by decide +kernel
theorem dX12_cut_87 : decode cX12_cut 87 = .ok (.iload_n 2, 1) := by decide +kernel
theorem dX12_cut_88 : decode cX12_cut 88 = .ok (.iaload, 1) := by decide +kernel
theorem dX12_cut_89 : decode cX12_cut 89 = .ok (.aload_n 0, 1) := by decide +kernel
theorem dX12_cut_90 : decode cX12_cut 90 = .ok (.getfield 465, 3) := by decide +kernel
theorem dX12_cut_93 : decode cX12_cut 93 = .ok (.isub, 1) := by decide +kernel
theorem dX12_cut_94 : decode cX12_cut 94 = .ok (.imul, 1) := by decide +kernel
theorem dX12_cut_95 : decode cX12_cut 95 = .ok (.invokestatic 233, 3) := by decide +kernel
theorem dX12_cut_98 : decode cX12_cut 98 = .ok (.iinc 2 1, 3) := by decide +kernel
theorem dX12_cut_101 : decode cX12_cut 101 = .ok (.goto (-95), 3) := by decide +kernel
theorem dX12_cut_104 : decode cX12_cut 104 = .ok (.aload_n 0, 1) := by decide +kernel
theorem dX12_cut_105 : decode cX12_cut 105 = .ok (.ldc_w 646, 3) := by decide +kernel
theorem dX12_cut_108 : decode cX12_cut 108 = .ok (.invokevirtual 620, 3) := by decide +kernel
theorem dX12_cut_111 : decode cX12_cut 111 = .ok (.aload_n 0, 1) := by decide +kernel
theorem dX12_cut_112 : decode cX12_cut 112 = .ok (.getfield 477, 3) := by decide +kernel
theorem dX12_cut_115 : decode cX12_cut 115 = .ok (.iconst 1, 1) := by decide +kernel
theorem dX12_cut_116 : decode cX12_cut 116 = .ok (.if_icmp .eq 4, 3) := by decide +kernel
theorem dX12_cut_119 : decode cX12_cut 119 = .ok (.return_, 1) := by decide +kernel
theorem dX12_cut_120 : decode cX12_cut 120 = .ok (.aload_n 0, 1) := by decide +kernel
theorem dX12_cut_121 : decode cX12_cut 121 = .ok (.dup, 1) := by decide +kernel
theorem dX12_cut_122 : decode cX12_cut 122 = .ok (.getfield 505, 3) := by decide +kernel
theorem dX12_cut_125 : decode cX12_cut 125 = .ok (.iconst 1, 1) := by decide +kernel
theorem dX12_cut_126 : decode cX12_cut 126 = .ok (.iadd, 1) := by decide +kernel
theorem dX12_cut_127 : decode cX12_cut 127 = .ok (.putfield 505, 3) := by decide +kernel
theorem dX12_cut_130 : decode cX12_cut 130 = .ok (.aload_n 0, 1) := by decide +kernel
theorem dX12_cut_131 : decode cX12_cut 131 = .ok (.dup, 1) := by decide +kernel
theorem dX12_cut_132 : decode cX12_cut 132 = .ok (.getfield 508, 3) := by decide +kernel
theorem dX12_cut_135 : decode cX12_cut 135 = .ok (.iconst 1, 1) := by decide +kernel
theorem dX12_cut_136 : decode cX12_cut 136 = .ok (.iadd, 1) := by decide +kernel
theorem dX12_cut_137 : decode cX12_cut 137 = .ok (.putfield 508, 3) := by decide +kernel
theorem dX12_cut_140 : decode cX12_cut 140 = .ok (.aload_n 0, 1) := by decide +kernel
theorem dX12_cut_141 : decode cX12_cut 141 = .ok (.getfield 480, 3) := by decide +kernel
theorem dX12_cut_144 : decode cX12_cut 144 = .ok (.istore_n 2, 1) := by decide +kernel
theorem dX12_cut_145 : decode cX12_cut 145 = .ok (.aload_n 0, 1) := by decide +kernel
theorem dX12_cut_146 : decode cX12_cut 146 = .ok (.invokevirtual 647, 3) := by decide +kernel
theorem dX12_cut_149 : decode cX12_cut 149 = .ok (.ifCond .ne 4, 3) := by decide +kernel
theorem dX12_cut_152 : decode cX12_cut 152 = .ok (.return_, 1) := by decide +kernel
theorem dX12_cut_153 : decode cX12_cut 153 = .ok (.iconst 0, 1) := by decide +kernel
theorem dX12_cut_154 : decode cX12_cut 154 = .ok (.istore_n 3, 1) := by decide +kernel
theorem dX12_cut_155 : decode cX12_cut 155 = .ok (.iload_n 3, 1) := by decide +kernel
theorem dX12_cut_156 : decode cX12_cut 156 = .ok (.aload_n 0, 1) := by decide +kernel
theorem dX12_cut_157 : decode cX12_cut 157 = .ok (.getfield 526, 3) := by decide +kernel
theorem dX12_cut_160 : decode cX12_cut 160 = .ok (.if_icmp .gt 55, 3) := by decide +kernel
theorem dX12_cut_163 : decode cX12_cut 163 = .ok (.aload_n 0, 1) := by decide +kernel
theorem dX12_cut_164 : decode cX12_cut 164 = .ok (.getfield 106, 3) := by decide +kernel
theorem dX12_cut_167 : decode cX12_cut 167 = .ok (.aload_n 0, 1) := by decide +kernel
theorem dX12_cut_168 : decode cX12_cut 168 = .ok (.iconst 0, 1) := by decide +kernel
theorem dX12_cut_169 : decode cX12_cut 169 = .ok (.iload_n 3, 1) := by decide +kernel
theorem dX12_cut_170 : decode cX12_cut 170 = .ok (.invokevirtual 529, 3) := by decide +kernel
theorem dX12_cut_173 : decode cX12_cut 173 = .ok (.aload_n 0, 1) := by decide +kernel
theorem dX12_cut_174 : decode cX12_cut 174 = .ok (.getfield 103, 3) := by decide +kernel
theorem dX12_cut_177 : decode cX12_cut 177 = .ok (.aload_n 0, 1) := by decide +kernel
theorem dX12_cut_178 : decode cX12_cut 178 = .ok (.aload_n 0, 1) := by decide +kernel
theorem dX12_cut_179 : decode cX12_cut 179 = .ok (.getfield 483, 3) := by decide +kernel
theorem dX12_cut_182 : decode cX12_cut 182 = .ok (.iconst 1, 1) := by decide +kernel
theorem dX12_cut_183 : decode cX12_cut 183 = .ok (.iadd, 1) := by decide +kernel
theorem dX12_cut_184 : decode cX12_cut 184 = .ok (.iload_n 3, 1) := by decide +kernel
theorem dX12_cut_185 : decode cX12_cut 185 = .ok (.invokevirtual 529, 3) := by decide +kernel
theorem dX12_cut_188 : decode cX12_cut 188 = .ok (.invokestatic 233, 3) := by decide +kernel
theorem dX12_cut_191 : decode cX12_cut 191 = .ok (.aload_n 0, 1) := by decide +kernel
theorem dX12_cut_192 : decode cX12_cut 192 = .ok (.getfield 103, 3) := by decide +kernel
theorem dX12_cut_195 : decode cX12_cut 195 = .ok (.aload_n 0, 1) := by decide +kernel
theorem dX12_cut_196 : decode cX12_cut 196 = .ok (.aload_n 0, 1) := by decide +kernel
theorem dX12_cut_197 : decode cX12_cut 197 = .ok (.getfield 483, 3) := by decide +kernel
theorem dX12_cut_200 : decode cX12_cut 200 = .ok (.iconst 1, 1) := by decide +kernel
theorem dX12_cut_201 : decode cX12_cut 201 = .ok (.iadd, 1) := by decide +kernel
theorem dX12_cut_202 : decode cX12_cut 202 = .ok (.iload_n 3, 1) := by decide +kernel
theorem dX12_cut_203 : decode cX12_cut 203 = .ok (.invokevirtual 529, 3) := by decide +kernel
theorem dX12_cut_206 : decode cX12_cut 206 = .ok (.invokestatic 540, 3) := by decide +kernel
theorem dX12_cut_209 : decode cX12_cut 209 = .ok (.iinc 3 1, 3) := by decide +kernel
theorem dX12_cut_212 : decode cX12_cut 212 = .ok (.goto (-57), 3) := by decide +kernel
theorem dX12_cut_215 : decode cX12_cut 215 = .ok (.iconst 0, 1) := by decide +kernel
theorem dX12_cut_216 : decode cX12_cut 216 = .ok (.istore_n 3, 1) := by decide +kernel
theorem dX12_cut_217 : decode cX12_cut 217 = .ok (.iload_n 3, 1) := by decide +kernel
theorem dX12_cut_218 : decode cX12_cut 218 = .ok (.aload_n 0, 1) := by decide +kernel
theorem dX12_cut_219 : decode cX12_cut 219 = .ok (.getfield 465, 3) := by decide +kernel
theorem dX12_cut_222 : decode cX12_cut 222 = .ok (.if_icmp .gt 137, 3) := by decide +kernel
theorem dX12_cut_225 : decode cX12_cut 225 = .ok (.aload_n 0, 1) := by decide +kernel
theorem dX12_cut_226 : decode cX12_cut 226 = .ok (.getfield 157, 3) := by decide +kernel
theorem dX12_cut_229 : decode cX12_cut 229 = .ok (.iconst 0, 1) := by decide +kernel
theorem dX12_cut_230 : decode cX12_cut 230 = .ok (.iconst 0, 1) := by decide +kernel
theorem dX12_cut_231 : decode cX12_cut 231 = .ok (.iastore, 1) := by decide +kernel
theorem dX12_cut_232 : decode cX12_cut 232 = .ok (.iconst 1, 1) := by decide +kernel
theorem dX12_cut_233 : decode cX12_cut 233 = .ok (.istore 4, 2) := by decide +kernel
theorem dX12_cut_235 : decode cX12_cut 235 = .ok (.iload 4, 2) := by decide +kernel
theorem dX12_cut_237 : decode cX12_cut 237 = .ok (.iload_n 2, 1) := by decide +kernel
theorem dX12_cut_238 : decode cX12_cut 238 = .ok (.if_icmp .gt 71, 3) := by decide +kernel
theorem dX12_cut_241 : decode cX12_cut 241 = .ok (.aload_n 0, 1) := by decide +kernel
theorem dX12_cut_242 : decode cX12_cut 242 = .ok (.getfield 154, 3) := by decide +kernel
theorem dX12_cut_245 : decode cX12_cut 245 = .ok (.bipush 8, 2) := by decide +kernel
theorem dX12_cut_247 : decode cX12_cut 247 = .ok (.iload 4, 2) := by decide +kernel
theorem dX12_cut_249 : decode cX12_cut 249 = .ok (.imul, 1) := by decide +kernel
theorem dX12_cut_250 : decode cX12_cut 250 = .ok (.iaload, 1) := by decide +kernel
theorem dX12_cut_251 : decode cX12_cut 251 = .ok (.ifCond .ne 6, 3) := by decide +kernel
theorem dX12_cut_254 : decode cX12_cut 254 = .ok (.goto 49, 3) := by decide +kernel
theorem dX12_cut_257 : decode cX12_cut 257 = .ok (.aload_n 0, 1) := by decide +kernel
theorem dX12_cut_258 : decode cX12_cut 258 = .ok (.getfield 154, 3) := by decide +kernel
theorem dX12_cut_261 : decode cX12_cut 261 = .ok (.bipush 8, 2) := by decide +kernel
theorem dX12_cut_263 : decode cX12_cut 263 = .ok (.iload 4, 2) := by decide +kernel
theorem dX12_cut_265 : decode cX12_cut 265 = .ok (.imul, 1) := by decide +kernel
theorem dX12_cut_266 : decode cX12_cut 266 = .ok (.aload_n 0, 1) := by decide +kernel
theorem dX12_cut_267 : decode cX12_cut 267 = .ok (.getfield 100, 3) := by decide +kernel
theorem dX12_cut_270 : decode cX12_cut 270 = .ok (.iload 4, 2) := by decide +kernel
theorem dX12_cut_272 : decode cX12_cut 272 = .ok (.iload_n 3, 1) := by decide +kernel
theorem dX12_cut_273 : decode cX12_cut 273 = .ok (.invokestatic 486, 3) := by decide +kernel
theorem dX12_cut_276 : decode cX12_cut 276 = .ok (.aload_n 0, 1) := by decide +kernel
theorem dX12_cut_277 : decode cX12_cut 277 = .ok (.getfield 29, 3) := by decide +kernel
theorem dX12_cut_280 : decode cX12_cut 280 = .ok (.iconst 0, 1) := by decide +kernel
theorem dX12_cut_281 : decode cX12_cut 281 = .ok (.invokestatic 548, 3) := by decide +kernel
theorem dX12_cut_284 : decode cX12_cut 284 = .ok (.aload_n 0, 1) := by decide +kernel
theorem dX12_cut_285 : decode cX12_cut 285 = .ok (.getfield 157, 3) := by decide +kernel
theorem dX12_cut_288 : decode cX12_cut 288 = .ok (.iconst 0, 1) := by decide +kernel
theorem dX12_cut_289 : decode cX12_cut 289 = .ok (.aload_n 0, 1) := by decide +kernel
theorem dX12_cut_290 : decode cX12_cut 290 = .ok (.getfield 29, 3) := by decide +kernel
theorem dX12_cut_293 : decode cX12_cut 293 = .ok (.iconst 0, 1) := by decide +kernel
theorem dX12_cut_294 : decode cX12_cut 294 = .ok (.iconst 0, 1) := by decide +kernel
theorem dX12_cut_295 : decode cX12_cut 295 = .ok (.aload_n 0, 1) := by decide +kernel
theorem dX12_cut_296 : decode cX12_cut 296 = .ok (.getfield 157, 3) := by decide +kernel
theorem dX12_cut_299 : decode cX12_cut 299 = .ok (.iconst 0, 1) := by decide +kernel
theorem dX12_cut_300 : decode cX12_cut 300 = .ok (.invokestatic 249, 3) := by decide +kernel
theorem dX12_cut_303 : decode cX12_cut 303 = .ok (.iinc 4 1, 3) := by decide +kernel
theorem dX12_cut_306 : decode cX12_cut 306 = .ok (.goto (-71), 3) := by decide +kernel
theorem dX12_cut_309 : decode cX12_cut 309 = .ok (.aload_n 0, 1) := by decide +kernel
theorem dX12_cut_310 : decode cX12_cut 310 = .ok (.aload_n 0, 1) := by decide +kernel
theorem dX12_cut_311 : decode cX12_cut 311 = .ok (.getfield 157, 3) := by decide +kernel
theorem dX12_cut_314 : decode cX12_cut 314 = .ok (.iconst 0, 1) := by decide +kernel
theorem dX12_cut_315 : decode cX12_cut 315 = .ok (.aload_n 0, 1) := by decide +kernel
theorem dX12_cut_316 : decode cX12_cut 316 = .ok (.getfield 109, 3) := by decide +kernel
theorem dX12_cut_319 : decode cX12_cut 319 = .ok (.iconst 0, 1) := by decide +kernel
theorem dX12_cut_320 : decode cX12_cut 320 = .ok (.aload_n 0, 1) := by decide +kernel
theorem dX12_cut_321 : decode cX12_cut 321 = .ok (.getfield 26, 3) := by decide +kernel
theorem dX12_cut_324 : decode cX12_cut 324 = .ok (.iconst 0, 1) := by decide +kernel
theorem dX12_cut_325 : decode cX12_cut 325 = .ok (.aload_n 0, 1) := by decide +kernel
theorem dX12_cut_326 : decode cX12_cut 326 = .ok (.getfield 35, 3) := by decide +kernel
theorem dX12_cut_329 : decode cX12_cut 329 = .ok (.iconst 0, 1) := by decide +kernel
theorem dX12_cut_330 : decode cX12_cut 330 = .ok (.invokevirtual 266, 3) := by decide +kernel
theorem dX12_cut_333 : decode cX12_cut 333 = .ok (.aload_n 0, 1) := by decide +kernel
theorem dX12_cut_334 : decode cX12_cut 334 = .ok (.getfield 26, 3) := by decide +kernel
theorem dX12_cut_337 : decode cX12_cut 337 = .ok (.iconst 0, 1) := by decide +kernel
theorem dX12_cut_338 : decode cX12_cut 338 = .ok (.aload_n 0, 1) := by decide +kernel
theorem dX12_cut_339 : decode cX12_cut 339 = .ok (.getfield 100, 3) := by decide +kernel
theorem dX12_cut_342 : decode cX12_cut 342 = .ok (.aload_n 0, 1) := by decide +kernel
theorem dX12_cut_343 : decode cX12_cut 343 = .ok (.getfield 480, 3) := by decide +kernel
theorem dX12_cut_346 : decode cX12_cut 346 = .ok (.iload_n 3, 1) := by decide +kernel
theorem dX12_cut_347 : decode cX12_cut 347 = .ok (.invokestatic 486, 3) := by decide +kernel
theorem dX12_cut_350 : decode cX12_cut 350 = .ok (.invokestatic 233, 3) := by decide +kernel
theorem dX12_cut_353 : decode cX12_cut 353 = .ok (.iinc 3 1, 3) := by decide +kernel
theorem dX12_cut_356 : decode cX12_cut 356 = .ok (.goto (-139), 3) := by decide +kernel
theorem dX12_cut_359 : decode cX12_cut 359 = .ok (.return_, 1) := by decide +kernel
theorem w_2050 : Cond.fieldLink RX12 157 (TX12 89).1 (TX12 89).2.1 (TX12 89).2.2.1 ∈ tb := tbc_8 167 (by decide +kernel) rfl
section RW67
variable {p : Program} {l : Launch} {e : Env} {R : Room} {s : State} {m : MethodId} {args : Array Value} {below : List Frame} {meth : Method} {c : Code} {H : Heap} {locs : List Loc} {cells slots : Nat} {Q : State → Prop}
variable {cc : ByteArray} {pc nL : Nat} {ls : Array Slot} {rest st0 : List Value} {G : sG} {n : Nat} {S : sS}
theorem g_X12_505 (Cx : sC G p m c cc nL s args RX12) (hW : sW G n S H) {k : Nat} (hk : k < n) (ht : tau k = .inl 12) {v : Int} (hv : S.1 k 67 = v) (hdg : decode cc pc = .ok (.getfield 505, 3)) (kk : W p l e R s m args below meth c H locs cells slots Q (F0 m (pc + 3) ls (.int (iv v) :: rest))) : W p l e R s m args below meth c H locs cells slots Q (F0 m pc ls (.ref (G.2.2.1 + k) :: rest)) :=
  sGet Cx inX12 rfl 67 (by decide) w_2028 hW hk ht (congrArg (fun z => Value.int (iv z)) hv) hdg kk
theorem g_X12_157 (Cx : sC G p m c cc nL s args RX12) (hW : sW G n S H) {k : Nat} (hk : k < n) (ht : tau k = .inl 12) {v : Value} (hv : S.2.2.2 k 89 = v) (hdg : decode cc pc = .ok (.getfield 157, 3)) (kk : W p l e R s m args below meth c H locs cells slots Q (F0 m (pc + 3) ls (v :: rest))) : W p l e R s m args below meth c H locs cells slots Q (F0 m pc ls (.ref (G.2.2.1 + k) :: rest)) :=
  sGet Cx inX12 rfl 89 (by decide) w_2050 hW hk ht hv hdg kk
end RW67
