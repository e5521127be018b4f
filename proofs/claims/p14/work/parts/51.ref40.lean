theorem dX12_longDivide_0 : decode cX12_longDivide 0 = .ok (.ldc 232, 2) := by decide +kernel
theorem dX12_longDivide_2 : decode cX12_longDivide 2 = .ok (.aload_n 3, 1) := by decide +kernel
theorem dX12_longDivide_3 : decode cX12_longDivide 3 = .ok (.iload 4, 2) := by decide +kernel
theorem dX12_longDivide_5 : decode cX12_longDivide 5 = .ok (.iload 6, 2) := by decide +kernel
theorem dX12_longDivide_7 : decode cX12_longDivide 7 = .ok (.iadd, 1) := by decide +kernel
theorem dX12_longDivide_8 : decode cX12_longDivide 8 = .ok (.iaload, 1) := by decide +kernel
theorem dX12_longDivide_9 : decode cX12_longDivide 9 = .ok (.iconst 1, 1) := by decide +kernel
theorem dX12_longDivide_10 : decode cX12_longDivide 10 = .ok (.iadd, 1) := by decide +kernel
theorem dX12_longDivide_11 : decode cX12_longDivide 11 = .ok (.idiv, 1) := by decide +kernel
theorem dX12_longDivide_12 : decode cX12_longDivide 12 = .ok (.istore 9, 2) := by decide +kernel
theorem dX12_longDivide_14 : decode cX12_longDivide 14 = .ok (.lconst 0, 1) := by decide +kernel
theorem dX12_longDivide_15 : decode cX12_longDivide 15 = .ok (.lstore 10, 2) := by decide +kernel
theorem dX12_longDivide_17 : decode cX12_longDivide 17 = .ok (.iconst 1, 1) := by decide +kernel
theorem dX12_longDivide_18 : decode cX12_longDivide 18 = .ok (.istore 12, 2) := by decide +kernel
theorem dX12_longDivide_20 : decode cX12_longDivide 20 = .ok (.iload 12, 2) := by decide +kernel
theorem dX12_longDivide_22 : decode cX12_longDivide 22 = .ok (.iload 5, 2) := by decide +kernel
theorem dX12_longDivide_24 : decode cX12_longDivide 24 = .ok (.if_icmp .gt 47, 3) := by decide +kernel
theorem dX12_longDivide_27 : decode cX12_longDivide 27 = .ok (.aload_n 1, 1) := by decide +kernel
theorem dX12_longDivide_28 : decode cX12_longDivide 28 = .ok (.iload_n 2, 1) := by decide +kernel
theorem dX12_longDivide_29 : decode cX12_longDivide 29 = .ok (.iload 12, 2) := by decide +kernel
theorem dX12_longDivide_31 : decode cX12_longDivide 31 = .ok (.iadd, 1) := by decide +kernel
theorem dX12_longDivide_32 : decode cX12_longDivide 32 = .ok (.iaload, 1) := by decide +kernel
theorem dX12_longDivide_33 : decode cX12_longDivide 33 = .ok (.i2l, 1) := by decide +kernel
theorem dX12_longDivide_34 : decode cX12_longDivide 34 = .ok (.iload 9, 2) := by decide +kernel
theorem dX12_longDivide_36 : decode cX12_longDivide 36 = .ok (.i2l, 1) := by decide +kernel
theorem dX12_longDivide_37 : decode cX12_longDivide 37 = .ok (.lmul, 1) := by decide +kernel
theorem dX12_longDivide_38 : decode cX12_longDivide 38 = .ok (.lload 10, 2) := by decide +kernel
theorem dX12_longDivide_40 : decode cX12_longDivide 40 = .ok (.ladd, 1) := by decide +kernel
theorem dX12_longDivide_41 : decode cX12_longDivide 41 = .ok (.lstore 13, 2) := by decide +kernel
theorem dX12_longDivide_43 : decode cX12_longDivide 43 = .ok (.aload_n 0, 1) := by decide +kernel
theorem dX12_longDivide_44 : decode cX12_longDivide 44 = .ok (.getfield 13, 3) := by decide +kernel
theorem dX12_longDivide_47 : decode cX12_longDivide 47 = .ok (.iload 12, 2) := by decide +kernel
theorem dX12_longDivide_49 : decode cX12_longDivide 49 = .ok (.lload 13, 2) := by decide +kernel
theorem dX12_longDivide_51 : decode cX12_longDivide 51 = .ok (.ldc2_w 219, 3) := by decide +kernel
theorem dX12_longDivide_54 : decode cX12_longDivide 54 = .ok (.lrem, 1) := by decide +kernel
theorem dX12_longDivide_55 : decode cX12_longDivide 55 = .ok (.l2i, 1) := by decide +kernel
theorem dX12_longDivide_56 : decode cX12_longDivide 56 = .ok (.iastore, 1) := by decide +kernel
theorem dX12_longDivide_57 : decode cX12_longDivide 57 = .ok (.lload 13, 2) := by decide +kernel
theorem dX12_longDivide_59 : decode cX12_longDivide 59 = .ok (.ldc2_w 219, 3) := by decide +kernel
theorem dX12_longDivide_62 : decode cX12_longDivide 62 = .ok (.ldiv, 1) := by decide +kernel
theorem dX12_longDivide_63 : decode cX12_longDivide 63 = .ok (.lstore 10, 2) := by decide +kernel
theorem dX12_longDivide_65 : decode cX12_longDivide 65 = .ok (.iinc 12 1, 3) := by decide +kernel
theorem dX12_longDivide_68 : decode cX12_longDivide 68 = .ok (.goto (-48), 3) := by decide +kernel
theorem dX12_longDivide_71 : decode cX12_longDivide 71 = .ok (.aload_n 0, 1) := by decide +kernel
theorem dX12_longDivide_72 : decode cX12_longDivide 72 = .ok (.getfield 13, 3) := by decide +kernel
theorem dX12_longDivide_75 : decode cX12_longDivide 75 = .ok (.iload 5, 2) := by decide +kernel
theorem dX12_longDivide_77 : decode cX12_longDivide 77 = .ok (.iconst 1, 1) := by decide +kernel
theorem dX12_longDivide_78 : decode cX12_longDivide 78 = .ok (.iadd, 1) := by decide +kernel
theorem dX12_longDivide_79 : decode cX12_longDivide 79 = .ok (.lload 10, 2) := by decide +kernel
theorem dX12_longDivide_81 : decode cX12_longDivide 81 = .ok (.l2i, 1) := by decide +kernel
theorem dX12_longDivide_82 : decode cX12_longDivide 82 = .ok (.iastore, 1) := by decide +kernel
theorem dX12_longDivide_83 : decode cX12_longDivide 83 = .ok (.lconst 0, 1) := by decide +kernel
theorem dX12_longDivide_84 : decode cX12_longDivide 84 = .ok (.lstore 10, 2) := by decide +kernel
theorem dX12_longDivide_86 : decode cX12_longDivide 86 = .ok (.iconst 1, 1) := by decide +kernel
theorem dX12_longDivide_87 : decode cX12_longDivide 87 = .ok (.istore 12, 2) := by decide +kernel
theorem dX12_longDivide_89 : decode cX12_longDivide 89 = .ok (.iload 12, 2) := by decide +kernel
theorem dX12_longDivide_91 : decode cX12_longDivide 91 = .ok (.iload 6, 2) := by decide +kernel
theorem dX12_longDivide_93 : decode cX12_longDivide 93 = .ok (.if_icmp .gt 48, 3) := by decide +kernel
theorem dX12_longDivide_96 : decode cX12_longDivide 96 = .ok (.aload_n 3, 1) := by decide +kernel
theorem dX12_longDivide_97 : decode cX12_longDivide 97 = .ok (.iload 4, 2) := by decide +kernel
theorem dX12_longDivide_99 : decode cX12_longDivide 99 = .ok (.iload 12, 2) := by decide +kernel
theorem dX12_longDivide_101 : decode cX12_longDivide 101 = .ok (.iadd, 1) := by decide +kernel
theorem dX12_longDivide_102 : decode cX12_longDivide 102 = .ok (.iaload, 1) := by decide +kernel
theorem dX12_longDivide_103 : decode cX12_longDivide 103 = .ok (.i2l, 1) := by decide +kernel
theorem dX12_longDivide_104 : decode cX12_longDivide 104 = .ok (.iload 9, 2) := by decide +kernel
theorem dX12_longDivide_106 : decode cX12_longDivide 106 = .ok (.i2l, 1) := by decide +kernel
theorem dX12_longDivide_107 : decode cX12_longDivide 107 = .ok (.lmul, 1) := by decide +kernel
theorem dX12_longDivide_108 : decode cX12_longDivide 108 = .ok (.lload 10, 2) := by decide +kernel
theorem dX12_longDivide_110 : decode cX12_longDivide 110 = .ok (.ladd, 1) := by decide +kernel
theorem dX12_longDivide_111 : decode cX12_longDivide 111 = .ok (.lstore 13, 2) := by decide +kernel
theorem dX12_longDivide_113 : decode cX12_longDivide 113 = .ok (.aload_n 0, 1) := by decide +kernel
theorem dX12_longDivide_114 : decode cX12_longDivide 114 = .ok (.getfield 17, 3) := by decide +kernel
theorem dX12_longDivide_117 : decode cX12_longDivide 117 = .ok (.iload 12, 2) := by decide +kernel
theorem dX12_longDivide_119 : decode cX12_longDivide 119 = .ok (.lload 13, 2) := by decide +kernel
theorem dX12_longDivide_121 : decode cX12_longDivide 121 = .ok (.ldc2_w 219, 3) := by decide +kernel
theorem dX12_longDivide_124 : decode cX12_longDivide 124 = .ok (.lrem, 1) := by decide +kernel
theorem dX12_longDivide_125 : decode cX12_longDivide 125 = .ok (.l2i, 1) := by decide +kernel
theorem dX12_longDivide_126 : decode cX12_longDivide 126 = .ok (.iastore, 1) := by decide +kernel
theorem dX12_longDivide_127 : decode cX12_longDivide 127 = .ok (.lload 13, 2) := by decide +kernel
theorem dX12_longDivide_129 : decode cX12_longDivide 129 = .ok (.ldc2_w 219, 3) := by decide +kernel
theorem dX12_longDivide_132 : decode cX12_longDivide 132 = .ok (.ldiv, 1) := by decide +kernel
theorem dX12_longDivide_133 : decode cX12_longDivide 133 = .ok (.lstore 10, 2) := by decide +kernel
theorem dX12_longDivide_135 : decode cX12_longDivide 135 = .ok (.iinc 12 1, 3) := by decide +kernel
theorem dX12_longDivide_138 : decode cX12_longDivide 138 = .ok (.goto (-49), 3) := by decide +kernel
theorem dX12_longDivide_141 : decode cX12_longDivide 141 = .ok (.iload 5, 2) := by decide +kernel
theorem dX12_longDivide_143 : decode cX12_longDivide 143 = .ok (.iload 6, 2) := by decide +kernel
theorem dX12_longDivide_145 : decode cX12_longDivide 145 = .ok (.isub, 1) := by decide +kernel
theorem dX12_longDivide_146 : decode cX12_longDivide 146 = .ok (.iconst 1, 1) := by decide +kernel
theorem dX12_longDivide_147 : decode cX12_longDivide 147 = .ok (.iadd, 1) := by decide +kernel
theorem dX12_longDivide_148 : decode cX12_longDivide 148 = .ok (.istore 12, 2) := by decide +kernel
theorem dX12_longDivide_150 : decode cX12_longDivide 150 = .ok (.iload 12, 2) := by decide +kernel
theorem dX12_longDivide_152 : decode cX12_longDivide 152 = .ok (.ifCond .le 412, 3) := by decide +kernel
theorem dX12_longDivide_155 : decode cX12_longDivide 155 = .ok (.aload_n 0, 1) := by decide +kernel
theorem dX12_longDivide_156 : decode cX12_longDivide 156 = .ok (.getfield 13, 3) := by decide +kernel
theorem dX12_longDivide_159 : decode cX12_longDivide 159 = .ok (.iload 12, 2) := by decide +kernel
theorem dX12_longDivide_161 : decode cX12_longDivide 161 = .ok (.iload 6, 2) := by decide +kernel
theorem dX12_longDivide_163 : decode cX12_longDivide 163 = .ok (.iadd, 1) := by decide +kernel
theorem dX12_longDivide_164 : decode cX12_longDivide 164 = .ok (.iaload, 1) := by decide +kernel
theorem dX12_longDivide_165 : decode cX12_longDivide 165 = .ok (.i2l, 1) := by decide +kernel
theorem dX12_longDivide_166 : decode cX12_longDivide 166 = .ok (.ldc2_w 219, 3) := by decide +kernel
theorem dX12_longDivide_169 : decode cX12_longDivide 169 = .ok (.lmul, 1) := by decide +kernel
theorem dX12_longDivide_170 : decode cX12_longDivide 170 = .ok (.aload_n 0, 1) := by decide +kernel
theorem dX12_longDivide_171 : decode cX12_longDivide 171 = .ok (.getfield 13, 3) := by decide +kernel
theorem dX12_longDivide_174 : decode cX12_longDivide 174 = .ok (.iload 12, 2) := by decide +kernel
theorem dX12_longDivide_176 : decode cX12_longDivide 176 = .ok (.iload 6, 2) := by decide +kernel
theorem dX12_longDivide_178 : decode cX12_longDivide 178 = .ok (.iadd, 1) := by decide +kernel
theorem dX12_longDivide_179 : decode cX12_longDivide 179 = .ok (.iconst 1, 1) := by decide +kernel
theorem dX12_longDivide_180 : decode cX12_longDivide 180 = .ok (.isub, 1) := by decide +kernel
theorem dX12_longDivide_181 : decode cX12_longDivide 181 = .ok (.iaload, 1) := by decide +kernel
theorem dX12_longDivide_182 : decode cX12_longDivide 182 = .ok (.i2l, 1) := by decide +kernel
theorem dX12_longDivide_183 : decode cX12_longDivide 183 = .ok (.ladd, 1) := by decide +kernel
theorem dX12_longDivide_184 : decode cX12_longDivide 184 = .ok (.lstore 13, 2) := by decide +kernel
theorem dX12_longDivide_186 : decode cX12_longDivide 186 = .ok (.lload 13, 2) := by decide +kernel
theorem dX12_longDivide_188 : decode cX12_longDivide 188 = .ok (.aload_n 0, 1) := by decide +kernel
theorem dX12_longDivide_189 : decode cX12_longDivide 189 = .ok (.getfield 17, 3) := by decide +kernel
theorem dX12_longDivide_192 : decode cX12_longDivide 192 = .ok (.iload 6, 2) := by decide +kernel
theorem dX12_longDivide_194 : decode cX12_longDivide 194 = .ok (.iaload, 1) := by decide +kernel
theorem dX12_longDivide_195 : decode cX12_longDivide 195 = .ok (.i2l, 1) := by decide +kernel
theorem dX12_longDivide_196 : decode cX12_longDivide 196 = .ok (.ldiv, 1) := by decide +kernel
theorem dX12_longDivide_197 : decode cX12_longDivide 197 = .ok (.ldc2_w 253, 3) := by decide +kernel
theorem dX12_longDivide_200 : decode cX12_longDivide 200 = .ok (.invokestatic 255, 3) := by decide +kernel
theorem dX12_longDivide_203 : decode cX12_longDivide 203 = .ok (.lstore 15, 2) := by decide +kernel
theorem dX12_longDivide_205 : decode cX12_longDivide 205 = .ok (.lload 13, 2) := by decide +kernel
theorem dX12_longDivide_207 : decode cX12_longDivide 207 = .ok (.lload 15, 2) := by decide +kernel
theorem dX12_longDivide_209 : decode cX12_longDivide 209 = .ok (.aload_n 0, 1) := by decide +kernel
theorem dX12_longDivide_210 : decode cX12_longDivide 210 = .ok (.getfield 17, 3) := by decide +kernel
theorem dX12_longDivide_213 : decode cX12_longDivide 213 = .ok (.iload 6, 2) := by decide +kernel
theorem dX12_longDivide_215 : decode cX12_longDivide 215 = .ok (.iaload, 1) := by decide +kernel
theorem dX12_longDivide_216 : decode cX12_longDivide 216 = .ok (.i2l, 1) := by decide +kernel
theorem dX12_longDivide_217 : decode cX12_longDivide 217 = .ok (.lmul, 1) := by decide +kernel
theorem dX12_longDivide_218 : decode cX12_longDivide 218 = .ok (.lsub, 1) := by decide +kernel
theorem dX12_longDivide_219 : decode cX12_longDivide 219 = .ok (.lstore 17, 2) := by decide +kernel
theorem dX12_longDivide_221 : decode cX12_longDivide 221 = .ok (.lload 17, 2) := by decide +kernel
theorem dX12_longDivide_223 : decode cX12_longDivide 223 = .ok (.ldc2_w 219, 3) := by decide +kernel
theorem dX12_longDivide_226 : decode cX12_longDivide 226 = .ok (.lcmp, 1) := by decide +kernel
theorem dX12_longDivide_227 : decode cX12_longDivide 227 = .ok (.ifCond .ge 76, 3) := by decide +kernel
theorem dX12_longDivide_230 : decode cX12_longDivide 230 = .ok (.lload 15, 2) := by decide +kernel
theorem dX12_longDivide_232 : decode cX12_longDivide 232 = .ok (.aload_n 0, 1) := by decide +kernel
theorem dX12_longDivide_233 : decode cX12_longDivide 233 = .ok (.getfield 17, 3) := by decide +kernel
theorem dX12_longDivide_236 : decode cX12_longDivide 236 = .ok (.iload 6, 2) := by decide +kernel
theorem dX12_longDivide_238 : decode cX12_longDivide 238 = .ok (.iconst 1, 1) := by decide +kernel
theorem dX12_longDivide_239 : decode cX12_longDivide 239 = .ok (.isub, 1) := by decide +kernel
theorem dX12_longDivide_240 : decode cX12_longDivide 240 = .ok (.iaload, 1) := by decide +kernel
theorem dX12_longDivide_241 : decode cX12_longDivide 241 = .ok (.i2l, 1) := by decide +kernel
theorem dX12_longDivide_242 : decode cX12_longDivide 242 = .ok (.lmul, 1) := by decide +kernel
theorem dX12_longDivide_243 : decode cX12_longDivide 243 = .ok (.lload 17, 2) := by decide +kernel
theorem dX12_longDivide_245 : decode cX12_longDivide 245 = .ok (.ldc2_w 219, 3) := by decide +kernel
theorem dX12_longDivide_248 : decode cX12_longDivide 248 = .ok (.lmul, 1) := by decide +kernel
theorem dX12_longDivide_249 : decode cX12_longDivide 249 = .ok (.iload 12, 2) := by decide +kernel
theorem dX12_longDivide_251 : decode cX12_longDivide 251 = .ok (.iload 6, 2) := by decide +kernel
theorem dX12_longDivide_253 : decode cX12_longDivide 253 = .ok (.iadd, 1) := by decide +kernel
theorem dX12_longDivide_254 : decode cX12_longDivide 254 = .ok (.iconst 2, 1) := by decide +kernel
theorem dX12_longDivide_255 : decode cX12_longDivide 255 = .ok (.isub, 1) := by decide +kernel
theorem dX12_longDivide_256 : decode cX12_longDivide 256 = .ok (.ifCond .le 18, 3) := by decide +kernel
theorem dX12_longDivide_259 : decode cX12_longDivide 259 = .ok (.aload_n 0, 1) := by decide +kernel
theorem dX12_longDivide_260 : decode cX12_longDivide 260 = .ok (.getfield 13, 3) := by decide +kernel
theorem dX12_longDivide_263 : decode cX12_longDivide 263 = .ok (.iload 12, 2) := by decide +kernel
theorem dX12_longDivide_265 : decode cX12_longDivide 265 = .ok (.iload 6, 2) := by decide +kernel
theorem dX12_longDivide_267 : decode cX12_longDivide 267 = .ok (.iadd, 1) := by decide +kernel
theorem dX12_longDivide_268 : decode cX12_longDivide 268 = .ok (.iconst 2, 1) := by decide +kernel
theorem dX12_longDivide_269 : decode cX12_longDivide 269 = .ok (.isub, 1) := by decide +kernel
theorem dX12_longDivide_270 : decode cX12_longDivide 270 = .ok (.iaload, 1) := by decide +kernel
theorem dX12_longDivide_271 : decode cX12_longDivide 271 = .ok (.goto 4, 3) := by decide +kernel
theorem dX12_longDivide_275 : decode cX12_longDivide 275 = .ok (.i2l, 1) := by decide +kernel
theorem dX12_longDivide_276 : decode cX12_longDivide 276 = .ok (.ladd, 1) := by decide +kernel
theorem dX12_longDivide_277 : decode cX12_longDivide 277 = .ok (.lcmp, 1) := by decide +kernel
theorem dX12_longDivide_278 : decode cX12_longDivide 278 = .ok (.ifCond .le 25, 3) := by decide +kernel
theorem dX12_longDivide_281 : decode cX12_longDivide 281 = .ok (.lload 15, 2) := by decide +kernel
theorem dX12_longDivide_283 : decode cX12_longDivide 283 = .ok (.lconst 1, 1) := by decide +kernel
theorem dX12_longDivide_284 : decode cX12_longDivide 284 = .ok (.lsub, 1) := by decide +kernel
theorem dX12_longDivide_285 : decode cX12_longDivide 285 = .ok (.lstore 15, 2) := by decide +kernel
theorem dX12_longDivide_287 : decode cX12_longDivide 287 = .ok (.lload 17, 2) := by decide +kernel
theorem dX12_longDivide_289 : decode cX12_longDivide 289 = .ok (.aload_n 0, 1) := by decide +kernel
theorem dX12_longDivide_290 : decode cX12_longDivide 290 = .ok (.getfield 17, 3) := by decide +kernel
theorem dX12_longDivide_293 : decode cX12_longDivide 293 = .ok (.iload 6, 2) := by decide +kernel
theorem dX12_longDivide_295 : decode cX12_longDivide 295 = .ok (.iaload, 1) := by decide +kernel
theorem dX12_longDivide_296 : decode cX12_longDivide 296 = .ok (.i2l, 1) := by decide +kernel
theorem dX12_longDivide_297 : decode cX12_longDivide 297 = .ok (.ladd, 1) := by decide +kernel
theorem dX12_longDivide_298 : decode cX12_longDivide 298 = .ok (.lstore 17, 2) := by decide +kernel
theorem dX12_longDivide_300 : decode cX12_longDivide 300 = .ok (.goto (-79), 3) := by decide +kernel
theorem dX12_longDivide_303 : decode cX12_longDivide 303 = .ok (.lconst 0, 1) := by decide +kernel
theorem dX12_longDivide_304 : decode cX12_longDivide 304 = .ok (.lstore 19, 2) := by decide +kernel
theorem dX12_longDivide_306 : decode cX12_longDivide 306 = .ok (.iconst 1, 1) := by decide +kernel
theorem dX12_longDivide_307 : decode cX12_longDivide 307 = .ok (.istore 21, 2) := by decide +kernel
theorem dX12_longDivide_309 : decode cX12_longDivide 309 = .ok (.iload 21, 2) := by decide +kernel
theorem dX12_longDivide_311 : decode cX12_longDivide 311 = .ok (.iload 6, 2) := by decide +kernel
theorem dX12_longDivide_313 : decode cX12_longDivide 313 = .ok (.if_icmp .gt 90, 3) := by decide +kernel
theorem dX12_longDivide_316 : decode cX12_longDivide 316 = .ok (.aload_n 0, 1) := by decide +kernel
theorem dX12_longDivide_317 : decode cX12_longDivide 317 = .ok (.getfield 13, 3) := by decide +kernel
theorem dX12_longDivide_320 : decode cX12_longDivide 320 = .ok (.iload 12, 2) := by decide +kernel
theorem dX12_longDivide_322 : decode cX12_longDivide 322 = .ok (.iload 21, 2) := by decide +kernel
theorem dX12_longDivide_324 : decode cX12_longDivide 324 = .ok (.iadd, 1) := by decide +kernel
theorem dX12_longDivide_325 : decode cX12_longDivide 325 = .ok (.iconst 1, 1) := by decide +kernel
theorem dX12_longDivide_326 : decode cX12_longDivide 326 = .ok (.isub, 1) := by decide +kernel
theorem dX12_longDivide_327 : decode cX12_longDivide 327 = .ok (.iaload, 1) := by decide +kernel
theorem dX12_longDivide_328 : decode cX12_longDivide 328 = .ok (.i2l, 1) := by decide +kernel
theorem dX12_longDivide_329 : decode cX12_longDivide 329 = .ok (.lload 15, 2) := by decide +kernel
theorem dX12_longDivide_331 : decode cX12_longDivide 331 = .ok (.aload_n 0, 1) := by decide +kernel
theorem dX12_longDivide_332 : decode cX12_longDivide 332 = .ok (.getfield 17, 3) := by decide +kernel
theorem dX12_longDivide_335 : decode cX12_longDivide 335 = .ok (.iload 21, 2) := by decide +kernel
theorem dX12_longDivide_337 : decode cX12_longDivide 337 = .ok (.iaload, 1) := by decide +kernel
theorem dX12_longDivide_338 : decode cX12_longDivide 338 = .ok (.i2l, 1) := by decide +kernel
theorem dX12_longDivide_339 : decode cX12_longDivide 339 = .ok (.lmul, 1) := by decide +kernel
theorem dX12_longDivide_340 : decode cX12_longDivide 340 = .ok (.lsub, 1) := by decide +kernel
theorem dX12_longDivide_341 : decode cX12_longDivide 341 = .ok (.lload 19, 2) := by decide +kernel
theorem dX12_longDivide_343 : decode cX12_longDivide 343 = .ok (.lsub, 1) := by decide +kernel
theorem dX12_longDivide_344 : decode cX12_longDivide 344 = .ok (.lstore 22, 2) := by decide +kernel
theorem dX12_longDivide_346 : decode cX12_longDivide 346 = .ok (.lconst 0, 1) := by decide +kernel
theorem dX12_longDivide_347 : decode cX12_longDivide 347 = .ok (.lstore 19, 2) := by decide +kernel
theorem dX12_longDivide_349 : decode cX12_longDivide 349 = .ok (.lload 22, 2) := by decide +kernel
theorem dX12_longDivide_351 : decode cX12_longDivide 351 = .ok (.lconst 0, 1) := by decide +kernel
theorem dX12_longDivide_352 : decode cX12_longDivide 352 = .ok (.lcmp, 1) := by decide +kernel
theorem dX12_longDivide_353 : decode cX12_longDivide 353 = .ok (.ifCond .ge 29, 3) := by decide +kernel
theorem dX12_longDivide_356 : decode cX12_longDivide 356 = .ok (.lload 22, 2) := by decide +kernel
theorem dX12_longDivide_358 : decode cX12_longDivide 358 = .ok (.lneg, 1) := by decide +kernel
theorem dX12_longDivide_359 : decode cX12_longDivide 359 = .ok (.ldc2_w 219, 3) := by decide +kernel
theorem dX12_longDivide_362 : decode cX12_longDivide 362 = .ok (.ladd, 1) := by decide +kernel
theorem dX12_longDivide_363 : decode cX12_longDivide 363 = .ok (.lconst 1, 1) := by decide +kernel
theorem dX12_longDivide_364 : decode cX12_longDivide 364 = .ok (.lsub, 1) := by decide +kernel
theorem dX12_longDivide_365 : decode cX12_longDivide 365 = .ok (.ldc2_w 219, 3) := by decide +kernel
theorem dX12_longDivide_368 : decode cX12_longDivide 368 = .ok (.ldiv, 1) := by decide +kernel
theorem dX12_longDivide_369 : decode cX12_longDivide 369 = .ok (.lstore 19, 2) := by decide +kernel
theorem dX12_longDivide_371 : decode cX12_longDivide 371 = .ok (.lload 22, 2) := by decide +kernel
theorem dX12_longDivide_373 : decode cX12_longDivide 373 = .ok (.lload 19, 2) := by decide +kernel
theorem dX12_longDivide_375 : decode cX12_longDivide 375 = .ok (.ldc2_w 219, 3) := by decide +kernel
theorem dX12_longDivide_378 : decode cX12_longDivide 378 = .ok (.lmul, 1) := by decide +kernel
theorem dX12_longDivide_379 : decode cX12_longDivide 379 = .ok (.ladd, 1) := by decide +kernel
theorem dX12_longDivide_380 : decode cX12_longDivide 380 = .ok (.lstore 22, 2) := by decide +kernel
theorem dX12_longDivide_382 : decode cX12_longDivide 382 = .ok (.aload_n 0, 1) := by decide +kernel
theorem dX12_longDivide_383 : decode cX12_longDivide 383 = .ok (.getfield 13, 3) := by decide +kernel
theorem dX12_longDivide_386 : decode cX12_longDivide 386 = .ok (.iload 12, 2) := by decide +kernel
theorem dX12_longDivide_388 : decode cX12_longDivide 388 = .ok (.iload 21, 2) := by decide +kernel
theorem dX12_longDivide_390 : decode cX12_longDivide 390 = .ok (.iadd, 1) := by decide +kernel
theorem dX12_longDivide_391 : decode cX12_longDivide 391 = .ok (.iconst 1, 1) := by decide +kernel
theorem dX12_longDivide_392 : decode cX12_longDivide 392 = .ok (.isub, 1) := by decide +kernel
theorem dX12_longDivide_393 : decode cX12_longDivide 393 = .ok (.lload 22, 2) := by decide +kernel
theorem dX12_longDivide_395 : decode cX12_longDivide 395 = .ok (.l2i, 1) := by decide +kernel
theorem dX12_longDivide_396 : decode cX12_longDivide 396 = .ok (.iastore, 1) := by decide +kernel
theorem dX12_longDivide_397 : decode cX12_longDivide 397 = .ok (.iinc 21 1, 3) := by decide +kernel
theorem dX12_longDivide_400 : decode cX12_longDivide 400 = .ok (.goto (-91), 3) := by decide +kernel
theorem dX12_longDivide_403 : decode cX12_longDivide 403 = .ok (.aload_n 0, 1) := by decide +kernel
theorem dX12_longDivide_404 : decode cX12_longDivide 404 = .ok (.getfield 13, 3) := by decide +kernel
theorem dX12_longDivide_407 : decode cX12_longDivide 407 = .ok (.iload 12, 2) := by decide +kernel
theorem dX12_longDivide_409 : decode cX12_longDivide 409 = .ok (.iload 6, 2) := by decide +kernel
theorem dX12_longDivide_411 : decode cX12_longDivide 411 = .ok (.iadd, 1) := by decide +kernel
theorem dX12_longDivide_412 : decode cX12_longDivide 412 = .ok (.iaload, 1) := by decide +kernel
theorem dX12_longDivide_413 : decode cX12_longDivide 413 = .ok (.i2l, 1) := by decide +kernel
theorem dX12_longDivide_414 : decode cX12_longDivide 414 = .ok (.lload 19, 2) := by decide +kernel
theorem dX12_longDivide_416 : decode cX12_longDivide 416 = .ok (.lsub, 1) := by decide +kernel
theorem dX12_longDivide_417 : decode cX12_longDivide 417 = .ok (.lstore 21, 2) := by decide +kernel
theorem dX12_longDivide_419 : decode cX12_longDivide 419 = .ok (.aload_n 0, 1) := by decide +kernel
theorem dX12_longDivide_420 : decode cX12_longDivide 420 = .ok (.getfield 13, 3) := by decide +kernel
theorem dX12_longDivide_423 : decode cX12_longDivide 423 = .ok (.iload 12, 2) := by decide +kernel
theorem dX12_longDivide_425 : decode cX12_longDivide 425 = .ok (.iload 6, 2) := by decide +kernel
theorem dX12_longDivide_427 : decode cX12_longDivide 427 = .ok (.iadd, 1) := by decide +kernel
theorem dX12_longDivide_428 : decode cX12_longDivide 428 = .ok (.lload 21, 2) := by decide +kernel
theorem dX12_longDivide_430 : decode cX12_longDivide 430 = .ok (.l2i, 1) := by decide +kernel
theorem dX12_longDivide_431 : decode cX12_longDivide 431 = .ok (.iastore, 1) := by decide +kernel
theorem dX12_longDivide_432 : decode cX12_longDivide 432 = .ok (.lload 21, 2) := by decide +kernel
theorem dX12_longDivide_434 : decode cX12_longDivide 434 = .ok (.lconst 0, 1) := by decide +kernel
theorem dX12_longDivide_435 : decode cX12_longDivide 435 = .ok (.lcmp, 1) := by decide +kernel
theorem dX12_longDivide_436 : decode cX12_longDivide 436 = .ok (.ifCond .ge 111, 3) := by decide +kernel
theorem dX12_longDivide_439 : decode cX12_longDivide 439 = .ok (.lload 15, 2) := by decide +kernel
theorem dX12_longDivide_441 : decode cX12_longDivide 441 = .ok (.lconst 1, 1) := by decide +kernel
theorem dX12_longDivide_442 : decode cX12_longDivide 442 = .ok (.lsub, 1) := by decide +kernel
theorem dX12_longDivide_443 : decode cX12_longDivide 443 = .ok (.lstore 15, 2) := by decide +kernel
theorem dX12_longDivide_445 : decode cX12_longDivide 445 = .ok (.iconst 0, 1) := by decide +kernel
theorem dX12_longDivide_446 : decode cX12_longDivide 446 = .ok (.istore 23, 2) := by decide +kernel
theorem dX12_longDivide_448 : decode cX12_longDivide 448 = .ok (.iconst 1, 1) := by decide +kernel
theorem dX12_longDivide_449 : decode cX12_longDivide 449 = .ok (.istore 24, 2) := by decide +kernel
theorem dX12_longDivide_451 : decode cX12_longDivide 451 = .ok (.iload 24, 2) := by decide +kernel
theorem dX12_longDivide_453 : decode cX12_longDivide 453 = .ok (.iload 6, 2) := by decide +kernel
theorem dX12_longDivide_455 : decode cX12_longDivide 455 = .ok (.if_icmp .gt 77, 3) := by decide +kernel
theorem dX12_longDivide_458 : decode cX12_longDivide 458 = .ok (.aload_n 0, 1) := by decide +kernel
theorem dX12_longDivide_459 : decode cX12_longDivide 459 = .ok (.getfield 13, 3) := by decide +kernel
theorem dX12_longDivide_462 : decode cX12_longDivide 462 = .ok (.iload 12, 2) := by decide +kernel
theorem dX12_longDivide_464 : decode cX12_longDivide 464 = .ok (.iload 24, 2) := by decide +kernel
theorem dX12_longDivide_466 : decode cX12_longDivide 466 = .ok (.iadd, 1) := by decide +kernel
theorem dX12_longDivide_467 : decode cX12_longDivide 467 = .ok (.iconst 1, 1) := by decide +kernel
theorem dX12_longDivide_468 : decode cX12_longDivide 468 = .ok (.isub, 1) := by decide +kernel
theorem dX12_longDivide_469 : decode cX12_longDivide 469 = .ok (.iaload, 1) := by decide +kernel
theorem dX12_longDivide_470 : decode cX12_longDivide 470 = .ok (.aload_n 0, 1) := by decide +kernel
theorem dX12_longDivide_471 : decode cX12_longDivide 471 = .ok (.getfield 17, 3) := by decide +kernel
theorem dX12_longDivide_474 : decode cX12_longDivide 474 = .ok (.iload 24, 2) := by decide +kernel
theorem dX12_longDivide_476 : decode cX12_longDivide 476 = .ok (.iaload, 1) := by decide +kernel
theorem dX12_longDivide_477 : decode cX12_longDivide 477 = .ok (.iadd, 1) := by decide +kernel
theorem dX12_longDivide_478 : decode cX12_longDivide 478 = .ok (.iload 23, 2) := by decide +kernel
theorem dX12_longDivide_480 : decode cX12_longDivide 480 = .ok (.iadd, 1) := by decide +kernel
theorem dX12_longDivide_481 : decode cX12_longDivide 481 = .ok (.istore 25, 2) := by decide +kernel
theorem dX12_longDivide_483 : decode cX12_longDivide 483 = .ok (.iload 25, 2) := by decide +kernel
theorem dX12_longDivide_485 : decode cX12_longDivide 485 = .ok (.ldc 232, 2) := by decide +kernel
theorem dX12_longDivide_487 : decode cX12_longDivide 487 = .ok (.if_icmp .lt 7, 3) := by decide +kernel
theorem dX12_longDivide_490 : decode cX12_longDivide 490 = .ok (.iconst 1, 1) := by decide +kernel
theorem dX12_longDivide_491 : decode cX12_longDivide 491 = .ok (.goto 4, 3) := by decide +kernel
theorem dX12_longDivide_494 : decode cX12_longDivide 494 = .ok (.iconst 0, 1) := by decide +kernel
theorem dX12_longDivide_495 : decode cX12_longDivide 495 = .ok (.istore 23, 2) := by decide +kernel
theorem dX12_longDivide_497 : decode cX12_longDivide 497 = .ok (.aload_n 0, 1) := by decide +kernel
theorem dX12_longDivide_498 : decode cX12_longDivide 498 = .ok (.getfield 13, 3) := by decide +kernel
theorem dX12_longDivide_501 : decode cX12_longDivide 501 = .ok (.iload 12, 2) := by decide +kernel
theorem dX12_longDivide_503 : decode cX12_longDivide 503 = .ok (.iload 24, 2) := by decide +kernel
theorem dX12_longDivide_505 : decode cX12_longDivide 505 = .ok (.iadd, 1) := by decide +kernel
theorem dX12_longDivide_506 : decode cX12_longDivide 506 = .ok (.iconst 1, 1) := by decide +kernel
theorem dX12_longDivide_507 : decode cX12_longDivide 507 = .ok (.isub, 1) := by decide +kernel
theorem dX12_longDivide_508 : decode cX12_longDivide 508 = .ok (.iload 25, 2) := by decide +kernel
theorem dX12_longDivide_510 : decode cX12_longDivide 510 = .ok (.ldc 232, 2) := by decide +kernel
theorem dX12_longDivide_512 : decode cX12_longDivide 512 = .ok (.if_icmp .lt 11, 3) := by decide +kernel
theorem dX12_longDivide_515 : decode cX12_longDivide 515 = .ok (.iload 25, 2) := by decide +kernel
theorem dX12_longDivide_517 : decode cX12_longDivide 517 = .ok (.ldc 232, 2) := by decide +kernel
theorem dX12_longDivide_519 : decode cX12_longDivide 519 = .ok (.isub, 1) := by decide +kernel
theorem dX12_longDivide_520 : decode cX12_longDivide 520 = .ok (.goto 5, 3) := by decide +kernel
theorem dX12_longDivide_523 : decode cX12_longDivide 523 = .ok (.iload 25, 2) := by decide +kernel
theorem dX12_longDivide_525 : decode cX12_longDivide 525 = .ok (.iastore, 1) := by decide +kernel
theorem dX12_longDivide_526 : decode cX12_longDivide 526 = .ok (.iinc 24 1, 3) := by decide +kernel
theorem dX12_longDivide_529 : decode cX12_longDivide 529 = .ok (.goto (-78), 3) := by decide +kernel
theorem dX12_longDivide_532 : decode cX12_longDivide 532 = .ok (.aload_n 0, 1) := by decide +kernel
theorem dX12_longDivide_533 : decode cX12_longDivide 533 = .ok (.getfield 13, 3) := by decide +kernel
theorem dX12_longDivide_536 : decode cX12_longDivide 536 = .ok (.iload 12, 2) := by decide +kernel
theorem dX12_longDivide_538 : decode cX12_longDivide 538 = .ok (.iload 6, 2) := by decide +kernel
theorem dX12_longDivide_540 : decode cX12_longDivide 540 = .ok (.iadd, 1) := by decide +kernel
theorem dX12_longDivide_541 : decode cX12_longDivide 541 = .ok (.dup2, 1) := by decide +kernel
theorem dX12_longDivide_542 : decode cX12_longDivide 542 = .ok (.iaload, 1) := by decide +kernel
theorem dX12_longDivide_543 : decode cX12_longDivide 543 = .ok (.iload 23, 2) := by decide +kernel
theorem dX12_longDivide_545 : decode cX12_longDivide 545 = .ok (.iadd, 1) := by decide +kernel
theorem dX12_longDivide_546 : decode cX12_longDivide 546 = .ok (.iastore, 1) := by decide +kernel
theorem dX12_longDivide_547 : decode cX12_longDivide 547 = .ok (.aload 7, 2) := by decide +kernel
theorem dX12_longDivide_549 : decode cX12_longDivide 549 = .ok (.iload 8, 2) := by decide +kernel
theorem dX12_longDivide_551 : decode cX12_longDivide 551 = .ok (.iload 12, 2) := by decide +kernel
theorem dX12_longDivide_553 : decode cX12_longDivide 553 = .ok (.iadd, 1) := by decide +kernel
theorem dX12_longDivide_554 : decode cX12_longDivide 554 = .ok (.lload 15, 2) := by decide +kernel
theorem dX12_longDivide_556 : decode cX12_longDivide 556 = .ok (.l2i, 1) := by decide +kernel
theorem dX12_longDivide_557 : decode cX12_longDivide 557 = .ok (.iastore, 1) := by decide +kernel
theorem dX12_longDivide_558 : decode cX12_longDivide 558 = .ok (.iinc 12 (-1), 3) := by decide +kernel
theorem dX12_longDivide_561 : decode cX12_longDivide 561 = .ok (.goto (-411), 3) := by decide +kernel
theorem dX12_longDivide_564 : decode cX12_longDivide 564 = .ok (.return_, 1) := by decide +kernel
theorem w_1963 : Cond.fieldLink RX12 13 (TX12 2).1 (TX12 2).2.1 (TX12 2).2.2.1 ∈ tb := tbc_8 80 (by decide +kernel) rfl
theorem w_1964 : Cond.fieldLink RX12 17 (TX12 3).1 (TX12 3).2.1 (TX12 3).2.2.1 ∈ tb := tbc_8 81 (by decide +kernel) rfl
theorem w_2066 : u_lay RX12 TX12 0 ∈ tb := tbc_8 183 (by decide +kernel) rfl
theorem w_2068 : u_lay RX12 TX12 1 ∈ tb := tbc_8 185 (by decide +kernel) rfl
theorem w_2070 : u_lay RX12 TX12 2 ∈ tb := tbc_8 187 (by decide +kernel) rfl
theorem w_2072 : u_lay RX12 TX12 3 ∈ tb := tbc_8 189 (by decide +kernel) rfl
theorem w_2074 : u_lay RX12 TX12 4 ∈ tb := tbc_8 191 (by decide +kernel) rfl
theorem w_2076 : u_lay RX12 TX12 5 ∈ tb := tbc_8 193 (by decide +kernel) rfl
theorem w_2078 : u_lay RX12 TX12 6 ∈ tb := tbc_8 195 (by decide +kernel) rfl
theorem w_2080 : u_lay RX12 TX12 7 ∈ tb := tbc_8 197 (by decide +kernel) rfl
theorem w_2082 : u_lay RX12 TX12 8 ∈ tb := tbc_8 199 (by decide +kernel) rfl
theorem w_2084 : u_lay RX12 TX12 9 ∈ tb := tbc_8 201 (by decide +kernel) rfl
theorem w_2086 : u_lay RX12 TX12 10 ∈ tb := tbc_8 203 (by decide +kernel) rfl
theorem w_2088 : u_lay RX12 TX12 11 ∈ tb := tbc_8 205 (by decide +kernel) rfl
theorem w_2090 : u_lay RX12 TX12 12 ∈ tb := tbc_8 207 (by decide +kernel) rfl
theorem w_2092 : u_lay RX12 TX12 13 ∈ tb := tbc_8 209 (by decide +kernel) rfl
theorem w_2094 : u_lay RX12 TX12 14 ∈ tb := tbc_8 211 (by decide +kernel) rfl
theorem w_2096 : u_lay RX12 TX12 15 ∈ tb := tbc_8 213 (by decide +kernel) rfl
theorem w_2098 : u_lay RX12 TX12 16 ∈ tb := tbc_8 215 (by decide +kernel) rfl
theorem w_2100 : u_lay RX12 TX12 17 ∈ tb := tbc_8 217 (by decide +kernel) rfl
theorem w_2102 : u_lay RX12 TX12 18 ∈ tb := tbc_8 219 (by decide +kernel) rfl
theorem w_2104 : u_lay RX12 TX12 19 ∈ tb := tbc_8 221 (by decide +kernel) rfl
theorem w_2106 : u_lay RX12 TX12 20 ∈ tb := tbc_8 223 (by decide +kernel) rfl
theorem w_2108 : u_lay RX12 TX12 21 ∈ tb := tbc_8 225 (by decide +kernel) rfl
theorem w_2110 : u_lay RX12 TX12 22 ∈ tb := tbc_8 227 (by decide +kernel) rfl
theorem w_2112 : u_lay RX12 TX12 23 ∈ tb := tbc_8 229 (by decide +kernel) rfl
theorem w_2114 : u_lay RX12 TX12 24 ∈ tb := tbc_8 231 (by decide +kernel) rfl
theorem w_2116 : u_lay RX12 TX12 25 ∈ tb := tbc_8 233 (by decide +kernel) rfl
theorem w_2118 : u_lay RX12 TX12 26 ∈ tb := tbc_8 235 (by decide +kernel) rfl
theorem w_2120 : u_lay RX12 TX12 27 ∈ tb := tbc_8 237 (by decide +kernel) rfl
theorem w_2122 : u_lay RX12 TX12 28 ∈ tb := tbc_8 239 (by decide +kernel) rfl
theorem w_2124 : u_lay RX12 TX12 29 ∈ tb := tbc_9 1 (by decide +kernel) rfl
theorem w_2126 : u_lay RX12 TX12 30 ∈ tb := tbc_9 3 (by decide +kernel) rfl
theorem w_2128 : u_lay RX12 TX12 31 ∈ tb := tbc_9 5 (by decide +kernel) rfl
theorem w_2130 : u_lay RX12 TX12 32 ∈ tb := tbc_9 7 (by decide +kernel) rfl
theorem w_2132 : u_lay RX12 TX12 33 ∈ tb := tbc_9 9 (by decide +kernel) rfl
theorem w_2134 : u_lay RX12 TX12 34 ∈ tb := tbc_9 11 (by decide +kernel) rfl
theorem w_2136 : u_lay RX12 TX12 35 ∈ tb := tbc_9 13 (by decide +kernel) rfl
theorem w_2138 : u_lay RX12 TX12 36 ∈ tb := tbc_9 15 (by decide +kernel) rfl
theorem w_2140 : u_lay RX12 TX12 37 ∈ tb := tbc_9 17 (by decide +kernel) rfl
theorem w_2142 : u_lay RX12 TX12 38 ∈ tb := tbc_9 19 (by decide +kernel) rfl
theorem w_2144 : u_lay RX12 TX12 39 ∈ tb := tbc_9 21 (by decide +kernel) rfl
theorem w_2146 : u_lay RX12 TX12 40 ∈ tb := tbc_9 23 (by decide +kernel) rfl
theorem w_2148 : u_lay RX12 TX12 41 ∈ tb := tbc_9 25 (by decide +kernel) rfl
theorem w_2150 : u_lay RX12 TX12 42 ∈ tb := tbc_9 27 (by decide +kernel) rfl
theorem w_2152 : u_lay RX12 TX12 43 ∈ tb := tbc_9 29 (by decide +kernel) rfl
theorem w_2154 : u_lay RX12 TX12 44 ∈ tb := tbc_9 31 (by decide +kernel) rfl
theorem w_2156 : u_lay RX12 TX12 45 ∈ tb := tbc_9 33 (by decide +kernel) rfl
theorem w_2158 : u_lay RX12 TX12 46 ∈ tb := tbc_9 35 (by decide +kernel) rfl
theorem w_2160 : u_lay RX12 TX12 47 ∈ tb := tbc_9 37 (by decide +kernel) rfl
theorem w_2162 : u_lay RX12 TX12 48 ∈ tb := tbc_9 39 (by decide +kernel) rfl
theorem w_2164 : u_lay RX12 TX12 49 ∈ tb := tbc_9 41 (by decide +kernel) rfl
theorem w_2166 : u_lay RX12 TX12 50 ∈ tb := tbc_9 43 (by decide +kernel) rfl
theorem w_2168 : u_lay RX12 TX12 51 ∈ tb := tbc_9 45 (by decide +kernel) rfl
theorem w_2170 : u_lay RX12 TX12 52 ∈ tb := tbc_9 47 (by decide +kernel) rfl
theorem w_2172 : u_lay RX12 TX12 53 ∈ tb := tbc_9 49 (by decide +kernel) rfl
theorem w_2174 : u_lay RX12 TX12 54 ∈ tb := tbc_9 51 (by decide +kernel) rfl
theorem w_2176 : u_lay RX12 TX12 55 ∈ tb := tbc_9 53 (by decide +kernel) rfl
theorem w_2178 : u_lay RX12 TX12 56 ∈ tb := tbc_9 55 (by decide +kernel) rfl
theorem w_2180 : u_lay RX12 TX12 57 ∈ tb := tbc_9 57 (by decide +kernel) rfl
theorem w_2182 : u_lay RX12 TX12 58 ∈ tb := tbc_9 59 (by decide +kernel) rfl
theorem w_2184 : u_lay RX12 TX12 59 ∈ tb := tbc_9 61 (by decide +kernel) rfl
theorem w_2186 : u_lay RX12 TX12 60 ∈ tb := tbc_9 63 (by decide +kernel) rfl
theorem w_2188 : u_lay RX12 TX12 61 ∈ tb := tbc_9 65 (by decide +kernel) rfl
theorem w_2190 : u_lay RX12 TX12 62 ∈ tb := tbc_9 67 (by decide +kernel) rfl
theorem w_2192 : u_lay RX12 TX12 63 ∈ tb := tbc_9 69 (by decide +kernel) rfl
theorem w_2194 : u_lay RX12 TX12 64 ∈ tb := tbc_9 71 (by decide +kernel) rfl
theorem w_2196 : u_lay RX12 TX12 65 ∈ tb := tbc_9 73 (by decide +kernel) rfl
theorem w_2198 : u_lay RX12 TX12 66 ∈ tb := tbc_9 75 (by decide +kernel) rfl
theorem w_2200 : u_lay RX12 TX12 67 ∈ tb := tbc_9 77 (by decide +kernel) rfl
theorem w_2202 : u_lay RX12 TX12 68 ∈ tb := tbc_9 79 (by decide +kernel) rfl
theorem w_2204 : u_lay RX12 TX12 69 ∈ tb := tbc_9 81 (by decide +kernel) rfl
theorem w_2206 : u_lay RX12 TX12 70 ∈ tb := tbc_9 83 (by decide +kernel) rfl
theorem w_2208 : u_lay RX12 TX12 71 ∈ tb := tbc_9 85 (by decide +kernel) rfl
theorem w_2210 : u_lay RX12 TX12 72 ∈ tb := tbc_9 87 (by decide +kernel) rfl
theorem w_2212 : u_lay RX12 TX12 73 ∈ tb := tbc_9 89 (by decide +kernel) rfl
theorem w_2214 : u_lay RX12 TX12 74 ∈ tb := tbc_9 91 (by decide +kernel) rfl
theorem w_2216 : u_lay RX12 TX12 75 ∈ tb := tbc_9 93 (by decide +kernel) rfl
theorem w_2218 : u_lay RX12 TX12 76 ∈ tb := tbc_9 95 (by decide +kernel) rfl
theorem w_2220 : u_lay RX12 TX12 77 ∈ tb := tbc_9 97 (by decide +kernel) rfl
theorem w_2222 : u_lay RX12 TX12 78 ∈ tb := tbc_9 99 (by decide +kernel) rfl
theorem w_2224 : u_lay RX12 TX12 79 ∈ tb := tbc_9 101 (by decide +kernel) rfl
theorem w_2226 : u_lay RX12 TX12 80 ∈ tb := tbc_9 103 (by decide +kernel) rfl
theorem w_2228 : u_lay RX12 TX12 81 ∈ tb := tbc_9 105 (by decide +kernel) rfl
theorem w_2230 : u_lay RX12 TX12 82 ∈ tb := tbc_9 107 (by decide +kernel) rfl
theorem w_2232 : u_lay RX12 TX12 83 ∈ tb := tbc_9 109 (by decide +kernel) rfl
theorem w_2234 : u_lay RX12 TX12 84 ∈ tb := tbc_9 111 (by decide +kernel) rfl
theorem w_2236 : u_lay RX12 TX12 85 ∈ tb := tbc_9 113 (by decide +kernel) rfl
theorem w_2238 : u_lay RX12 TX12 86 ∈ tb := tbc_9 115 (by decide +kernel) rfl
theorem w_2240 : u_lay RX12 TX12 87 ∈ tb := tbc_9 117 (by decide +kernel) rfl
theorem w_2242 : u_lay RX12 TX12 88 ∈ tb := tbc_9 119 (by decide +kernel) rfl
theorem w_2244 : u_lay RX12 TX12 89 ∈ tb := tbc_9 121 (by decide +kernel) rfl
theorem w_2246 : u_lay RX12 TX12 90 ∈ tb := tbc_9 123 (by decide +kernel) rfl
theorem w_2248 : u_lay RX12 TX12 91 ∈ tb := tbc_9 125 (by decide +kernel) rfl
theorem w_2250 : u_lay RX12 TX12 92 ∈ tb := tbc_9 127 (by decide +kernel) rfl
theorem w_2252 : u_lay RX12 TX12 93 ∈ tb := tbc_9 129 (by decide +kernel) rfl
theorem w_2254 : u_lay RX12 TX12 94 ∈ tb := tbc_9 131 (by decide +kernel) rfl
theorem w_2256 : u_lay RX12 TX12 95 ∈ tb := tbc_9 133 (by decide +kernel) rfl
theorem w_2258 : u_lay RX12 TX12 96 ∈ tb := tbc_9 135 (by decide +kernel) rfl
theorem w_2260 : u_lay RX12 TX12 97 ∈ tb := tbc_9 137 (by decide +kernel) rfl
theorem w_2262 : u_lay RX12 TX12 98 ∈ tb := tbc_9 139 (by decide +kernel) rfl
theorem w_2264 : u_lay RX12 TX12 99 ∈ tb := tbc_9 141 (by decide +kernel) rfl
theorem w_2266 : u_lay RX12 TX12 100 ∈ tb := tbc_9 143 (by decide +kernel) rfl
theorem w_2268 : u_lay RX12 TX12 101 ∈ tb := tbc_9 145 (by decide +kernel) rfl
theorem w_2270 : u_lay RX12 TX12 102 ∈ tb := tbc_9 147 (by decide +kernel) rfl
theorem w_2272 : u_lay RX12 TX12 103 ∈ tb := tbc_9 149 (by decide +kernel) rfl
theorem w_2274 : u_lay RX12 TX12 104 ∈ tb := tbc_9 151 (by decide +kernel) rfl
theorem w_2601 : Cond.constantLong RX12 253 (jv 999999999) ∈ tb := tbc_10 238 (by decide +kernel) rfl
theorem w_2602 : Cond.methodLink RX12 255 Lib.MathLoose.min_long.x ∈ tb := tbc_10 239 (by decide +kernel) rfl
theorem w_2603 : Cond.static Lib.MathLoose.min_long.x ∈ tb := tbc_11 0 (by decide +kernel) rfl
theorem w_2604 : Cond.code Lib.MathLoose.min_long.x Lib.MathLoose.min_long.code 4 (some .long) ∈ tb := tbc_11 1 (by decide +kernel) rfl
theorem inX12 : ∀ w ∈ u_ws RX12 TX12 105, w ∈ tb := by
  show ∀ w ∈ [u_lay RX12 TX12 0, u_lay RX12 TX12 1, u_lay RX12 TX12 2, u_lay RX12 TX12 3, u_lay RX12 TX12 4, u_lay RX12 TX12 5, u_lay RX12 TX12 6, u_lay RX12 TX12 7, u_lay RX12 TX12 8, u_lay RX12 TX12 9, u_lay RX12 TX12 10, u_lay RX12 TX12 11, u_lay RX12 TX12 12, u_lay RX12 TX12 13, u_lay RX12 TX12 14, u_lay RX12 TX12 15, u_lay RX12 TX12 16, u_lay RX12 TX12 17, u_lay RX12 TX12 18, u_lay RX12 TX12 19, u_lay RX12 TX12 20, u_lay RX12 TX12 21, u_lay RX12 TX12 22, u_lay RX12 TX12 23, u_lay RX12 TX12 24, u_lay RX12 TX12 25, u_lay RX12 TX12 26, u_lay RX12 TX12 27, u_lay RX12 TX12 28, u_lay RX12 TX12 29, u_lay RX12 TX12 30, u_lay RX12 TX12 31, u_lay RX12 TX12 32, u_lay RX12 TX12 33, u_lay RX12 TX12 34, u_lay RX12 TX12 35, u_lay RX12 TX12 36, u_lay RX12 TX12 37, u_lay RX12 TX12 38, u_lay RX12 TX12 39, u_lay RX12 TX12 40, u_lay RX12 TX12 41, u_lay RX12 TX12 42, u_lay RX12 TX12 43, u_lay RX12 TX12 44, u_lay RX12 TX12 45, u_lay RX12 TX12 46, u_lay RX12 TX12 47, u_lay RX12 TX12 48, u_lay RX12 TX12 49, u_lay RX12 TX12 50, u_lay RX12 TX12 51, u_lay RX12 TX12 52, u_lay RX12 TX12 53, u_lay RX12 TX12 54, u_lay RX12 TX12 55, u_lay RX12 TX12 56, u_lay RX12 TX12 57, u_lay RX12 TX12 58, u_lay RX12 TX12 59, u_lay RX12 TX12 60, u_lay RX12 TX12 61, u_lay RX12 TX12 62, u_lay RX12 TX12 63, u_lay RX12 TX12 64, u_lay RX12 TX12 65, u_lay RX12 TX12 66, u_lay RX12 TX12 67, u_lay RX12 TX12 68, u_lay RX12 TX12 69, u_lay RX12 TX12 70, u_lay RX12 TX12 71, u_lay RX12 TX12 72, u_lay RX12 TX12 73, u_lay RX12 TX12 74, u_lay RX12 TX12 75, u_lay RX12 TX12 76, u_lay RX12 TX12 77, u_lay RX12 TX12 78, u_lay RX12 TX12 79, u_lay RX12 TX12 80, u_lay RX12 TX12 81, u_lay RX12 TX12 82, u_lay RX12 TX12 83, u_lay RX12 TX12 84, u_lay RX12 TX12 85, u_lay RX12 TX12 86, u_lay RX12 TX12 87, u_lay RX12 TX12 88, u_lay RX12 TX12 89, u_lay RX12 TX12 90, u_lay RX12 TX12 91, u_lay RX12 TX12 92, u_lay RX12 TX12 93, u_lay RX12 TX12 94, u_lay RX12 TX12 95, u_lay RX12 TX12 96, u_lay RX12 TX12 97, u_lay RX12 TX12 98, u_lay RX12 TX12 99, u_lay RX12 TX12 100, u_lay RX12 TX12 101, u_lay RX12 TX12 102, u_lay RX12 TX12 103, u_lay RX12 TX12 104], w ∈ tb
  exact List.forall_mem_cons.mpr ⟨w_2066, List.forall_mem_cons.mpr ⟨w_2068, List.forall_mem_cons.mpr ⟨w_2070, List.forall_mem_cons.mpr ⟨w_2072, List.forall_mem_cons.mpr ⟨w_2074, List.forall_mem_cons.mpr ⟨w_2076, List.forall_mem_cons.mpr ⟨w_2078, List.forall_mem_cons.mpr ⟨w_2080, List.forall_mem_cons.mpr ⟨w_2082, List.forall_mem_cons.mpr ⟨w_2084, List.forall_mem_cons.mpr ⟨w_2086, List.forall_mem_cons.mpr ⟨w_2088, List.forall_mem_cons.mpr ⟨w_2090, List.forall_mem_cons.mpr ⟨w_2092, List.forall_mem_cons.mpr ⟨w_2094, List.forall_mem_cons.mpr ⟨w_2096, List.forall_mem_cons.mpr ⟨w_2098, List.forall_mem_cons.mpr ⟨w_2100, List.forall_mem_cons.mpr ⟨w_2102, List.forall_mem_cons.mpr ⟨w_2104, List.forall_mem_cons.mpr ⟨w_2106, List.forall_mem_cons.mpr ⟨w_2108, List.forall_mem_cons.mpr ⟨w_2110, List.forall_mem_cons.mpr ⟨w_2112, List.forall_mem_cons.mpr ⟨w_2114, List.forall_mem_cons.mpr ⟨w_2116, List.forall_mem_cons.mpr ⟨w_2118, List.forall_mem_cons.mpr ⟨w_2120, List.forall_mem_cons.mpr ⟨w_2122, List.forall_mem_cons.mpr ⟨w_2124, List.forall_mem_cons.mpr ⟨w_2126, List.forall_mem_cons.mpr ⟨w_2128, List.forall_mem_cons.mpr ⟨w_2130, List.forall_mem_cons.mpr ⟨w_2132, List.forall_mem_cons.mpr ⟨w_2134, List.forall_mem_cons.mpr ⟨w_2136, List.forall_mem_cons.mpr ⟨w_2138, List.forall_mem_cons.mpr ⟨w_2140, List.forall_mem_cons.mpr ⟨w_2142, List.forall_mem_cons.mpr ⟨w_2144, List.forall_mem_cons.mpr ⟨w_2146, List.forall_mem_cons.mpr ⟨w_2148, List.forall_mem_cons.mpr ⟨w_2150, List.forall_mem_cons.mpr ⟨w_2152, List.forall_mem_cons.mpr ⟨w_2154, List.forall_mem_cons.mpr ⟨w_2156, List.forall_mem_cons.mpr ⟨w_2158, List.forall_mem_cons.mpr ⟨w_2160, List.forall_mem_cons.mpr ⟨w_2162, List.forall_mem_cons.mpr ⟨w_2164, List.forall_mem_cons.mpr ⟨w_2166, List.forall_mem_cons.mpr ⟨w_2168, List.forall_mem_cons.mpr ⟨w_2170, List.forall_mem_cons.mpr ⟨w_2172, List.forall_mem_cons.mpr ⟨w_2174, List.forall_mem_cons.mpr ⟨w_2176, List.forall_mem_cons.mpr ⟨w_2178, List.forall_mem_cons.mpr ⟨w_2180, List.forall_mem_cons.mpr ⟨w_2182, List.forall_mem_cons.mpr ⟨w_2184, List.forall_mem_cons.mpr ⟨w_2186, List.forall_mem_cons.mpr ⟨w_2188, List.forall_mem_cons.mpr ⟨w_2190, List.forall_mem_cons.mpr ⟨w_2192, List.forall_mem_cons.mpr ⟨w_2194, List.forall_mem_cons.mpr ⟨w_2196, List.forall_mem_cons.mpr ⟨w_2198, List.forall_mem_cons.mpr ⟨w_2200, List.forall_mem_cons.mpr ⟨w_2202, List.forall_mem_cons.mpr ⟨w_2204, List.forall_mem_cons.mpr ⟨w_2206, List.forall_mem_cons.mpr ⟨w_2208, List.forall_mem_cons.mpr ⟨w_2210, List.forall_mem_cons.mpr ⟨w_2212, List.forall_mem_cons.mpr ⟨w_2214, List.forall_mem_cons.mpr ⟨w_2216, List.forall_mem_cons.mpr ⟨w_2218, List.forall_mem_cons.mpr ⟨w_2220, List.forall_mem_cons.mpr ⟨w_2222, List.forall_mem_cons.mpr ⟨w_2224, List.forall_mem_cons.mpr ⟨w_2226, List.forall_mem_cons.mpr ⟨w_2228, List.forall_mem_cons.mpr ⟨w_2230, List.forall_mem_cons.mpr ⟨w_2232, List.forall_mem_cons.mpr ⟨w_2234, List.forall_mem_cons.mpr ⟨w_2236, List.forall_mem_cons.mpr ⟨w_2238, List.forall_mem_cons.mpr ⟨w_2240, List.forall_mem_cons.mpr ⟨w_2242, List.forall_mem_cons.mpr ⟨w_2244, List.forall_mem_cons.mpr ⟨w_2246, List.forall_mem_cons.mpr ⟨w_2248, List.forall_mem_cons.mpr ⟨w_2250, List.forall_mem_cons.mpr ⟨w_2252, List.forall_mem_cons.mpr ⟨w_2254, List.forall_mem_cons.mpr ⟨w_2256, List.forall_mem_cons.mpr ⟨w_2258, List.forall_mem_cons.mpr ⟨w_2260, List.forall_mem_cons.mpr ⟨w_2262, List.forall_mem_cons.mpr ⟨w_2264, List.forall_mem_cons.mpr ⟨w_2266, List.forall_mem_cons.mpr ⟨w_2268, List.forall_mem_cons.mpr ⟨w_2270, List.forall_mem_cons.mpr ⟨w_2272, List.forall_mem_cons.mpr ⟨w_2274, fun _ h => absurd h List.not_mem_nil⟩⟩⟩⟩⟩⟩⟩⟩⟩⟩⟩⟩⟩⟩⟩⟩⟩⟩⟩⟩⟩⟩⟩⟩⟩⟩⟩⟩⟩⟩⟩⟩⟩⟩⟩⟩⟩⟩⟩⟩⟩⟩⟩⟩⟩⟩⟩⟩⟩⟩⟩⟩⟩⟩⟩⟩⟩⟩⟩⟩⟩⟩⟩⟩⟩⟩⟩⟩⟩⟩⟩⟩⟩⟩⟩⟩⟩⟩⟩⟩⟩⟩⟩⟩⟩⟩⟩⟩⟩⟩⟩⟩⟩⟩⟩⟩⟩⟩⟩⟩⟩⟩⟩⟩⟩
section RW51
variable {p : Program} {l : Launch} {e : Env} {R : Room} {s : State} {m : MethodId} {args : Array Value} {below : List Frame} {meth : Method} {c : Code} {H : Heap} {locs : List Loc} {cells slots : Nat} {Q : State → Prop}
variable {cc : ByteArray} {pc nL : Nat} {ls : Array Slot} {rest st0 : List Value} {G : sG} {n : Nat} {S : sS}
theorem g_X12_13 (Cx : sC G p m c cc nL s args RX12) (hW : sW G n S H) {k : Nat} (hk : k < n) (ht : tau k = .inl 12) {v : Value} (hv : S.2.2.2 k 2 = v) (hdg : decode cc pc = .ok (.getfield 13, 3)) (kk : W p l e R s m args below meth c H locs cells slots Q (F0 m (pc + 3) ls (v :: rest))) : W p l e R s m args below meth c H locs cells slots Q (F0 m pc ls (.ref (G.2.2.1 + k) :: rest)) :=
  sGet Cx inX12 rfl 2 (by decide) w_1963 hW hk ht hv hdg kk
theorem g_X12_17 (Cx : sC G p m c cc nL s args RX12) (hW : sW G n S H) {k : Nat} (hk : k < n) (ht : tau k = .inl 12) {v : Value} (hv : S.2.2.2 k 3 = v) (hdg : decode cc pc = .ok (.getfield 17, 3)) (kk : W p l e R s m args below meth c H locs cells slots Q (F0 m (pc + 3) ls (v :: rest))) : W p l e R s m args below meth c H locs cells slots Q (F0 m pc ls (.ref (G.2.2.1 + k) :: rest)) :=
  sGet Cx inX12 rfl 3 (by decide) w_1964 hW hk ht hv hdg kk
end RW51
