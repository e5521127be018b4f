theorem dX12_branch_0 : decode cX12_branch 0 = .ok (.aload_n 0, 1) := by decide +kernel
theorem dX12_branch_1 : decode cX12_branch 1 = .ok (.ldc_w 650, 3) := by decide +kernel
theorem dX12_branch_4 : decode cX12_branch 4 = .ok (.invokevirtual 603, 3) := by decide +kernel
theorem dX12_branch_7 : decode cX12_branch 7 = .ok (.aload_n 0, 1) := by decide +kernel
theorem dX12_branch_8 : decode cX12_branch 8 = .ok (.aload_n 0, 1) := by decide +kernel
theorem dX12_branch_9 : decode cX12_branch 9 = .ok (.getfield 112, 3) := by decide +kernel
theorem dX12_branch_12 : decode cX12_branch 12 = .ok (.iload_n 1, 1) := by decide +kernel
theorem dX12_branch_13 : decode cX12_branch 13 = .ok (.iaload, 1) := by decide +kernel
theorem dX12_branch_14 : decode cX12_branch 14 = .ok (.i2l, 1) := by decide +kernel
theorem dX12_branch_15 : decode cX12_branch 15 = .ok (.invokevirtual 607, 3) := by decide +kernel
theorem dX12_branch_18 : decode cX12_branch 18 = .ok (.aload_n 0, 1) := by decide +kernel
theorem dX12_branch_19 : decode cX12_branch 19 = .ok (.aload_n 0, 1) := by decide +kernel
theorem dX12_branch_20 : decode cX12_branch 20 = .ok (.getfield 103, 3) := by decide +kernel
theorem dX12_branch_23 : decode cX12_branch 23 = .ok (.aload_n 0, 1) := by decide +kernel
theorem dX12_branch_24 : decode cX12_branch 24 = .ok (.iload_n 1, 1) := by decide +kernel
theorem dX12_branch_25 : decode cX12_branch 25 = .ok (.iconst 1, 1) := by decide +kernel
theorem dX12_branch_26 : decode cX12_branch 26 = .ok (.iadd, 1) := by decide +kernel
theorem dX12_branch_27 : decode cX12_branch 27 = .ok (.iconst 0, 1) := by decide +kernel
theorem dX12_branch_28 : decode cX12_branch 28 = .ok (.invokevirtual 529, 3) := by decide +kernel
theorem dX12_branch_31 : decode cX12_branch 31 = .ok (.aload_n 0, 1) := by decide +kernel
theorem dX12_branch_32 : decode cX12_branch 32 = .ok (.getfield 109, 3) := by decide +kernel
theorem dX12_branch_35 : decode cX12_branch 35 = .ok (.iconst 0, 1) := by decide +kernel
theorem dX12_branch_36 : decode cX12_branch 36 = .ok (.aload_n 0, 1) := by decide +kernel
theorem dX12_branch_37 : decode cX12_branch 37 = .ok (.getfield 26, 3) := by decide +kernel
theorem dX12_branch_40 : decode cX12_branch 40 = .ok (.iconst 0, 1) := by decide +kernel
theorem dX12_branch_41 : decode cX12_branch 41 = .ok (.aload_n 0, 1) := by decide +kernel
theorem dX12_branch_42 : decode cX12_branch 42 = .ok (.getfield 35, 3) := by decide +kernel
theorem dX12_branch_45 : decode cX12_branch 45 = .ok (.iconst 0, 1) := by decide +kernel
theorem dX12_branch_46 : decode cX12_branch 46 = .ok (.invokevirtual 266, 3) := by decide +kernel
theorem dX12_branch_49 : decode cX12_branch 49 = .ok (.aload_n 0, 1) := by decide +kernel
theorem dX12_branch_50 : decode cX12_branch 50 = .ok (.aload_n 0, 1) := by decide +kernel
theorem dX12_branch_51 : decode cX12_branch 51 = .ok (.getfield 26, 3) := by decide +kernel
theorem dX12_branch_54 : decode cX12_branch 54 = .ok (.iconst 0, 1) := by decide +kernel
theorem dX12_branch_55 : decode cX12_branch 55 = .ok (.invokevirtual 597, 3) := by decide +kernel
theorem dX12_branch_58 : decode cX12_branch 58 = .ok (.aload_n 0, 1) := by decide +kernel
theorem dX12_branch_59 : decode cX12_branch 59 = .ok (.getfield 520, 3) := by decide +kernel
theorem dX12_branch_62 : decode cX12_branch 62 = .ok (.sipush 30000, 3) := by decide +kernel
theorem dX12_branch_65 : decode cX12_branch 65 = .ok (.if_icmp .le 10, 3) := by decide +kernel
theorem dX12_branch_68 : decode cX12_branch 68 = .ok (.aload_n 0, 1) := by decide +kernel
theorem dX12_branch_69 : decode cX12_branch 69 = .ok (.bipush 6, 2) := by decide +kernel
theorem dX12_branch_71 : decode cX12_branch 71 = .ok (.putfield 477, 3) := by decide +kernel
theorem dX12_branch_74 : decode cX12_branch 74 = .ok (.return_, 1) := by decide +kernel
theorem dX12_branch_75 : decode cX12_branch 75 = .ok (.aload_n 0, 1) := by decide +kernel
theorem dX12_branch_76 : decode cX12_branch 76 = .ok (.getfield 511, 3) := by decide +kernel
theorem dX12_branch_79 : decode cX12_branch 79 = .ok (.sipush 5280, 3) := by decide +kernel
theorem dX12_branch_82 : decode cX12_branch 82 = .ok (.imul, 1) := by decide +kernel
theorem dX12_branch_83 : decode cX12_branch 83 = .ok (.istore_n 2, 1) := by decide +kernel
theorem dX12_branch_84 : decode cX12_branch 84 = .ok (.iconst 0, 1) := by decide +kernel
theorem dX12_branch_85 : decode cX12_branch 85 = .ok (.istore_n 3, 1) := by decide +kernel
theorem dX12_branch_86 : decode cX12_branch 86 = .ok (.iload_n 3, 1) := by decide +kernel
theorem dX12_branch_87 : decode cX12_branch 87 = .ok (.sipush 5280, 3) := by decide +kernel
theorem dX12_branch_90 : decode cX12_branch 90 = .ok (.if_icmp .ge 23, 3) := by decide +kernel
theorem dX12_branch_93 : decode cX12_branch 93 = .ok (.aload_n 0, 1) := by decide +kernel
theorem dX12_branch_94 : decode cX12_branch 94 = .ok (.getfield 119, 3) := by decide +kernel
theorem dX12_branch_97 : decode cX12_branch 97 = .ok (.iload_n 2, 1) := by decide +kernel
theorem dX12_branch_98 : decode cX12_branch 98 = .ok (.iload_n 3, 1) := by decide +kernel
theorem dX12_branch_99 : decode cX12_branch 99 = .ok (.iadd, 1) := by decide +kernel
theorem dX12_branch_100 : decode cX12_branch 100 = .ok (.aload_n 0, 1) := by decide +kernel
theorem dX12_branch_101 : decode cX12_branch 101 = .ok (.getfield 103, 3) := by decide +kernel
theorem dX12_branch_104 : decode cX12_branch 104 = .ok (.iload_n 3, 1) := by decide +kernel
theorem dX12_branch_105 : decode cX12_branch 105 = .ok (.iaload, 1) := by decide +kernel
theorem dX12_branch_106 : decode cX12_branch 106 = .ok (.iastore, 1) := by decide +kernel
theorem dX12_branch_107 : decode cX12_branch 107 = .ok (.iinc 3 1, 3) := by decide +kernel
theorem dX12_branch_110 : decode cX12_branch 110 = .ok (.goto (-24), 3) := by decide +kernel
theorem dX12_branch_113 : decode cX12_branch 113 = .ok (.iconst 0, 1) := by decide +kernel
theorem dX12_branch_114 : decode cX12_branch 114 = .ok (.istore_n 3, 1) := by decide +kernel
theorem dX12_branch_115 : decode cX12_branch 115 = .ok (.iload_n 3, 1) := by decide +kernel
theorem dX12_branch_116 : decode cX12_branch 116 = .ok (.bipush 8, 2) := by decide +kernel
theorem dX12_branch_118 : decode cX12_branch 118 = .ok (.if_icmp .ge 29, 3) := by decide +kernel
theorem dX12_branch_121 : decode cX12_branch 121 = .ok (.aload_n 0, 1) := by decide +kernel
theorem dX12_branch_122 : decode cX12_branch 122 = .ok (.getfield 122, 3) := by decide +kernel
theorem dX12_branch_125 : decode cX12_branch 125 = .ok (.aload_n 0, 1) := by decide +kernel
theorem dX12_branch_126 : decode cX12_branch 126 = .ok (.getfield 511, 3) := by decide +kernel
theorem dX12_branch_129 : decode cX12_branch 129 = .ok (.bipush 8, 2) := by decide +kernel
theorem dX12_branch_131 : decode cX12_branch 131 = .ok (.imul, 1) := by decide +kernel
theorem dX12_branch_132 : decode cX12_branch 132 = .ok (.iload_n 3, 1) := by decide +kernel
theorem dX12_branch_133 : decode cX12_branch 133 = .ok (.iadd, 1) := by decide +kernel
theorem dX12_branch_134 : decode cX12_branch 134 = .ok (.aload_n 0, 1) := by decide +kernel
theorem dX12_branch_135 : decode cX12_branch 135 = .ok (.getfield 109, 3) := by decide +kernel
theorem dX12_branch_138 : decode cX12_branch 138 = .ok (.iload_n 3, 1) := by decide +kernel
theorem dX12_branch_139 : decode cX12_branch 139 = .ok (.iaload, 1) := by decide +kernel
theorem dX12_branch_140 : decode cX12_branch 140 = .ok (.iastore, 1) := by decide +kernel
theorem dX12_branch_141 : decode cX12_branch 141 = .ok (.iinc 3 1, 3) := by decide +kernel
theorem dX12_branch_144 : decode cX12_branch 144 = .ok (.goto (-29), 3) := by decide +kernel
theorem dX12_branch_147 : decode cX12_branch 147 = .ok (.iconst 0, 1) := by decide +kernel
theorem dX12_branch_148 : decode cX12_branch 148 = .ok (.istore_n 3, 1) := by decide +kernel
theorem dX12_branch_149 : decode cX12_branch 149 = .ok (.iload_n 3, 1) := by decide +kernel
theorem dX12_branch_150 : decode cX12_branch 150 = .ok (.bipush 44, 2) := by decide +kernel
theorem dX12_branch_152 : decode cX12_branch 152 = .ok (.if_icmp .ge 29, 3) := by decide +kernel
theorem dX12_branch_155 : decode cX12_branch 155 = .ok (.aload_n 0, 1) := by decide +kernel
theorem dX12_branch_156 : decode cX12_branch 156 = .ok (.getfield 125, 3) := by decide +kernel
theorem dX12_branch_159 : decode cX12_branch 159 = .ok (.aload_n 0, 1) := by decide +kernel
theorem dX12_branch_160 : decode cX12_branch 160 = .ok (.getfield 511, 3) := by decide +kernel
theorem dX12_branch_163 : decode cX12_branch 163 = .ok (.bipush 44, 2) := by decide +kernel
theorem dX12_branch_165 : decode cX12_branch 165 = .ok (.imul, 1) := by decide +kernel
theorem dX12_branch_166 : decode cX12_branch 166 = .ok (.iload_n 3, 1) := by decide +kernel
theorem dX12_branch_167 : decode cX12_branch 167 = .ok (.iadd, 1) := by decide +kernel
theorem dX12_branch_168 : decode cX12_branch 168 = .ok (.aload_n 0, 1) := by decide +kernel
theorem dX12_branch_169 : decode cX12_branch 169 = .ok (.getfield 112, 3) := by decide +kernel
theorem dX12_branch_172 : decode cX12_branch 172 = .ok (.iload_n 3, 1) := by decide +kernel
theorem dX12_branch_173 : decode cX12_branch 173 = .ok (.iaload, 1) := by decide +kernel
theorem dX12_branch_174 : decode cX12_branch 174 = .ok (.iastore, 1) := by decide +kernel
theorem dX12_branch_175 : decode cX12_branch 175 = .ok (.iinc 3 1, 3) := by decide +kernel
theorem dX12_branch_178 : decode cX12_branch 178 = .ok (.goto (-29), 3) := by decide +kernel
theorem dX12_branch_181 : decode cX12_branch 181 = .ok (.iconst 0, 1) := by decide +kernel
theorem dX12_branch_182 : decode cX12_branch 182 = .ok (.istore_n 3, 1) := by decide +kernel
theorem dX12_branch_183 : decode cX12_branch 183 = .ok (.iload_n 3, 1) := by decide +kernel
theorem dX12_branch_184 : decode cX12_branch 184 = .ok (.bipush 15, 2) := by decide +kernel
theorem dX12_branch_186 : decode cX12_branch 186 = .ok (.if_icmp .ge 29, 3) := by decide +kernel
theorem dX12_branch_189 : decode cX12_branch 189 = .ok (.aload_n 0, 1) := by decide +kernel
theorem dX12_branch_190 : decode cX12_branch 190 = .ok (.getfield 128, 3) := by decide +kernel
theorem dX12_branch_193 : decode cX12_branch 193 = .ok (.aload_n 0, 1) := by decide +kernel
theorem dX12_branch_194 : decode cX12_branch 194 = .ok (.getfield 511, 3) := by decide +kernel
theorem dX12_branch_197 : decode cX12_branch 197 = .ok (.bipush 15, 2) := by decide +kernel
theorem dX12_branch_199 : decode cX12_branch 199 = .ok (.imul, 1) := by decide +kernel
theorem dX12_branch_200 : decode cX12_branch 200 = .ok (.iload_n 3, 1) := by decide +kernel
theorem dX12_branch_201 : decode cX12_branch 201 = .ok (.iadd, 1) := by decide +kernel
theorem dX12_branch_202 : decode cX12_branch 202 = .ok (.aload_n 0, 1) := by decide +kernel
theorem dX12_branch_203 : decode cX12_branch 203 = .ok (.getfield 115, 3) := by decide +kernel
theorem dX12_branch_206 : decode cX12_branch 206 = .ok (.iload_n 3, 1) := by decide +kernel
theorem dX12_branch_207 : decode cX12_branch 207 = .ok (.iaload, 1) := by decide +kernel
theorem dX12_branch_208 : decode cX12_branch 208 = .ok (.iastore, 1) := by decide +kernel
theorem dX12_branch_209 : decode cX12_branch 209 = .ok (.iinc 3 1, 3) := by decide +kernel
theorem dX12_branch_212 : decode cX12_branch 212 = .ok (.goto (-29), 3) := by decide +kernel
theorem dX12_branch_215 : decode cX12_branch 215 = .ok (.aload_n 0, 1) := by decide +kernel
theorem dX12_branch_216 : decode cX12_branch 216 = .ok (.getfield 511, 3) := by decide +kernel
theorem dX12_branch_219 : decode cX12_branch 219 = .ok (.iconst 5, 1) := by decide +kernel
theorem dX12_branch_220 : decode cX12_branch 220 = .ok (.imul, 1) := by decide +kernel
theorem dX12_branch_221 : decode cX12_branch 221 = .ok (.istore_n 3, 1) := by decide +kernel
theorem dX12_branch_222 : decode cX12_branch 222 = .ok (.aload_n 0, 1) := by decide +kernel
theorem dX12_branch_223 : decode cX12_branch 223 = .ok (.getfield 131, 3) := by decide +kernel
theorem dX12_branch_226 : decode cX12_branch 226 = .ok (.iload_n 3, 1) := by decide +kernel
theorem dX12_branch_227 : decode cX12_branch 227 = .ok (.aload_n 0, 1) := by decide +kernel
theorem dX12_branch_228 : decode cX12_branch 228 = .ok (.getfield 483, 3) := by decide +kernel
theorem dX12_branch_231 : decode cX12_branch 231 = .ok (.iastore, 1) := by decide +kernel
theorem dX12_branch_232 : decode cX12_branch 232 = .ok (.aload_n 0, 1) := by decide +kernel
theorem dX12_branch_233 : decode cX12_branch 233 = .ok (.getfield 131, 3) := by decide +kernel
theorem dX12_branch_236 : decode cX12_branch 236 = .ok (.iload_n 3, 1) := by decide +kernel
theorem dX12_branch_237 : decode cX12_branch 237 = .ok (.iconst 1, 1) := by decide +kernel
theorem dX12_branch_238 : decode cX12_branch 238 = .ok (.iadd, 1) := by decide +kernel
theorem dX12_branch_239 : decode cX12_branch 239 = .ok (.aload_n 0, 1) := by decide +kernel
theorem dX12_branch_240 : decode cX12_branch 240 = .ok (.getfield 526, 3) := by decide +kernel
theorem dX12_branch_243 : decode cX12_branch 243 = .ok (.iastore, 1) := by decide +kernel
theorem dX12_branch_244 : decode cX12_branch 244 = .ok (.aload_n 0, 1) := by decide +kernel
theorem dX12_branch_245 : decode cX12_branch 245 = .ok (.getfield 131, 3) := by decide +kernel
theorem dX12_branch_248 : decode cX12_branch 248 = .ok (.iload_n 3, 1) := by decide +kernel
theorem dX12_branch_249 : decode cX12_branch 249 = .ok (.iconst 2, 1) := by decide +kernel
theorem dX12_branch_250 : decode cX12_branch 250 = .ok (.iadd, 1) := by decide +kernel
theorem dX12_branch_251 : decode cX12_branch 251 = .ok (.aload_n 0, 1) := by decide +kernel
theorem dX12_branch_252 : decode cX12_branch 252 = .ok (.getfield 480, 3) := by decide +kernel
theorem dX12_branch_255 : decode cX12_branch 255 = .ok (.iastore, 1) := by decide +kernel
theorem dX12_branch_256 : decode cX12_branch 256 = .ok (.aload_n 0, 1) := by decide +kernel
theorem dX12_branch_257 : decode cX12_branch 257 = .ok (.getfield 131, 3) := by decide +kernel
theorem dX12_branch_260 : decode cX12_branch 260 = .ok (.iload_n 3, 1) := by decide +kernel
theorem dX12_branch_261 : decode cX12_branch 261 = .ok (.iconst 3, 1) := by decide +kernel
theorem dX12_branch_262 : decode cX12_branch 262 = .ok (.iadd, 1) := by decide +kernel
theorem dX12_branch_263 : decode cX12_branch 263 = .ok (.aload_n 0, 1) := by decide +kernel
theorem dX12_branch_264 : decode cX12_branch 264 = .ok (.getfield 508, 3) := by decide +kernel
theorem dX12_branch_267 : decode cX12_branch 267 = .ok (.iastore, 1) := by decide +kernel
theorem dX12_branch_268 : decode cX12_branch 268 = .ok (.aload_n 0, 1) := by decide +kernel
theorem dX12_branch_269 : decode cX12_branch 269 = .ok (.getfield 131, 3) := by decide +kernel
theorem dX12_branch_272 : decode cX12_branch 272 = .ok (.iload_n 3, 1) := by decide +kernel
theorem dX12_branch_273 : decode cX12_branch 273 = .ok (.iconst 4, 1) := by decide +kernel
theorem dX12_branch_274 : decode cX12_branch 274 = .ok (.iadd, 1) := by decide +kernel
theorem dX12_branch_275 : decode cX12_branch 275 = .ok (.iload_n 1, 1) := by decide +kernel
theorem dX12_branch_276 : decode cX12_branch 276 = .ok (.iastore, 1) := by decide +kernel
theorem dX12_branch_277 : decode cX12_branch 277 = .ok (.aload_n 0, 1) := by decide +kernel
theorem dX12_branch_278 : decode cX12_branch 278 = .ok (.dup, 1) := by decide +kernel
theorem dX12_branch_279 : decode cX12_branch 279 = .ok (.getfield 511, 3) := by decide +kernel
theorem dX12_branch_282 : decode cX12_branch 282 = .ok (.iconst 1, 1) := by decide +kernel
theorem dX12_branch_283 : decode cX12_branch 283 = .ok (.iadd, 1) := by decide +kernel
theorem dX12_branch_284 : decode cX12_branch 284 = .ok (.putfield 511, 3) := by decide +kernel
theorem dX12_branch_287 : decode cX12_branch 287 = .ok (.aload_n 0, 1) := by decide +kernel
theorem dX12_branch_288 : decode cX12_branch 288 = .ok (.invokevirtual 647, 3) := by decide +kernel
theorem dX12_branch_291 : decode cX12_branch 291 = .ok (.ifCond .eq 9, 3) := by decide +kernel
theorem dX12_branch_294 : decode cX12_branch 294 = .ok (.aload_n 0, 1) := by decide +kernel
theorem dX12_branch_295 : decode cX12_branch 295 = .ok (.iload_n 1, 1) := by decide +kernel
theorem dX12_branch_296 : decode cX12_branch 296 = .ok (.iconst 0, 1) := by decide +kernel
theorem dX12_branch_297 : decode cX12_branch 297 = .ok (.invokevirtual 651, 3) := by decide +kernel
theorem dX12_branch_300 : decode cX12_branch 300 = .ok (.return_, 1) := by decide +kernel
theorem dX12_leafBound_0 : decode cX12_leafBound 0 = .ok (.aload_n 0, 1) := by decide +kernel
theorem dX12_leafBound_1 : decode cX12_leafBound 1 = .ok (.iconst 0, 1) := by decide +kernel
theorem dX12_leafBound_2 : decode cX12_leafBound 2 = .ok (.invokevirtual 615, 3) := by decide +kernel
theorem dX12_leafBound_5 : decode cX12_leafBound 5 = .ok (.aload_n 0, 1) := by decide +kernel
theorem dX12_leafBound_6 : decode cX12_leafBound 6 = .ok (.ldc_w 626, 3) := by decide +kernel
theorem dX12_leafBound_9 : decode cX12_leafBound 9 = .ok (.invokevirtual 620, 3) := by decide +kernel
theorem dX12_leafBound_12 : decode cX12_leafBound 12 = .ok (.aload_n 0, 1) := by decide +kernel
theorem dX12_leafBound_13 : decode cX12_leafBound 13 = .ok (.getfield 477, 3) := by decide +kernel
theorem dX12_leafBound_16 : decode cX12_leafBound 16 = .ok (.iconst 1, 1) := by decide +kernel
theorem dX12_leafBound_17 : decode cX12_leafBound 17 = .ok (.if_icmp .ne 7, 3) := by decide +kernel
theorem dX12_leafBound_20 : decode cX12_leafBound 20 = .ok (.aload_n 0, 1) := by decide +kernel
theorem dX12_leafBound_21 : decode cX12_leafBound 21 = .ok (.invokevirtual 623, 3) := by decide +kernel
theorem dX12_leafBound_24 : decode cX12_leafBound 24 = .ok (.return_, 1) := by decide +kernel
theorem dX12_leafFarkas_0 : decode cX12_leafFarkas 0 = .ok (.aload_n 0, 1) := by decide +kernel
theorem dX12_leafFarkas_1 : decode cX12_leafFarkas 1 = .ok (.iload_n 1, 1) := by decide +kernel
theorem dX12_leafFarkas_2 : decode cX12_leafFarkas 2 = .ok (.invokevirtual 615, 3) := by decide +kernel
theorem dX12_leafFarkas_5 : decode cX12_leafFarkas 5 = .ok (.iload_n 2, 1) := by decide +kernel
theorem dX12_leafFarkas_6 : decode cX12_leafFarkas 6 = .ok (.aload_n 0, 1) := by decide +kernel
theorem dX12_leafFarkas_7 : decode cX12_leafFarkas 7 = .ok (.getfield 465, 3) := by decide +kernel
theorem dX12_leafFarkas_10 : decode cX12_leafFarkas 10 = .ok (.if_icmp .le 24, 3) := by decide +kernel
theorem dX12_leafFarkas_13 : decode cX12_leafFarkas 13 = .ok (.aload_n 0, 1) := by decide +kernel
theorem dX12_leafFarkas_14 : decode cX12_leafFarkas 14 = .ok (.getfield 109, 3) := by decide +kernel
theorem dX12_leafFarkas_17 : decode cX12_leafFarkas 17 = .ok (.iconst 0, 1) := by decide +kernel
theorem dX12_leafFarkas_18 : decode cX12_leafFarkas 18 = .ok (.aload_n 0, 1) := by decide +kernel
theorem dX12_leafFarkas_19 : decode cX12_leafFarkas 19 = .ok (.getfield 154, 3) := by decide +kernel
theorem dX12_leafFarkas_22 : decode cX12_leafFarkas 22 = .ok (.bipush 8, 2) := by decide +kernel
theorem dX12_leafFarkas_24 : decode cX12_leafFarkas 24 = .ok (.iload_n 2, 1) := by decide +kernel
theorem dX12_leafFarkas_25 : decode cX12_leafFarkas 25 = .ok (.aload_n 0, 1) := by decide +kernel
theorem dX12_leafFarkas_26 : decode cX12_leafFarkas 26 = .ok (.getfield 465, 3) := by decide +kernel
theorem dX12_leafFarkas_29 : decode cX12_leafFarkas 29 = .ok (.isub, 1) := by decide +kernel
theorem dX12_leafFarkas_30 : decode cX12_leafFarkas 30 = .ok (.imul, 1) := by decide +kernel
theorem dX12_leafFarkas_31 : decode cX12_leafFarkas 31 = .ok (.invokestatic 233, 3) := by decide +kernel
theorem dX12_leafFarkas_34 : decode cX12_leafFarkas 34 = .ok (.aload_n 0, 1) := by decide +kernel
theorem dX12_leafFarkas_35 : decode cX12_leafFarkas 35 = .ok (.ldc_w 618, 3) := by decide +kernel
theorem dX12_leafFarkas_38 : decode cX12_leafFarkas 38 = .ok (.invokevirtual 620, 3) := by decide +kernel
theorem dX12_leafFarkas_41 : decode cX12_leafFarkas 41 = .ok (.aload_n 0, 1) := by decide +kernel
theorem dX12_leafFarkas_42 : decode cX12_leafFarkas 42 = .ok (.getfield 477, 3) := by decide +kernel
theorem dX12_leafFarkas_45 : decode cX12_leafFarkas 45 = .ok (.iconst 1, 1) := by decide +kernel
theorem dX12_leafFarkas_46 : decode cX12_leafFarkas 46 = .ok (.if_icmp .ne 7, 3) := by decide +kernel
theorem dX12_leafFarkas_49 : decode cX12_leafFarkas 49 = .ok (.aload_n 0, 1) := by decide +kernel
theorem dX12_leafFarkas_50 : decode cX12_leafFarkas 50 = .ok (.invokevirtual 623, 3) := by decide +kernel
theorem dX12_leafFarkas_53 : decode cX12_leafFarkas 53 = .ok (.return_, 1) := by decide +kernel
theorem w_149 : Cond.selects RX12 yX12_multipliersOf yX12_multipliersOf ∈ tb := sel_10 (q := (yX12_multipliersOf, 105)) 5 (by decide +kernel)
theorem w_151 : Cond.selects RX12 yX12_writePairs yX12_writePairs ∈ tb := sel_10 (q := (yX12_writePairs, 105)) 7 (by decide +kernel)
theorem w_157 : Cond.selects RX12 yX12_leafDone yX12_leafDone ∈ tb := sel_10 (q := (yX12_leafDone, 105)) 13 (by decide +kernel)
theorem w_2529 : Cond.methodLink RX12 615 yX12_multipliersOf ∈ tb := tbc_10 166 (by decide +kernel) rfl
theorem w_2531 : Cond.instanceMethod yX12_multipliersOf ∈ tb := tbc_10 168 (by decide +kernel) rfl
theorem w_2532 : Cond.code yX12_multipliersOf cX12_multipliersOf 3 none ∈ tb := tbc_10 169 (by decide +kernel) rfl
theorem w_2541 : Cond.methodLink RX12 620 yX12_writePairs ∈ tb := tbc_10 178 (by decide +kernel) rfl
theorem w_2543 : Cond.instanceMethod yX12_writePairs ∈ tb := tbc_10 180 (by decide +kernel) rfl
theorem w_2544 : Cond.code yX12_writePairs cX12_writePairs 3 none ∈ tb := tbc_10 181 (by decide +kernel) rfl
theorem w_2568 : Cond.methodLink RX12 623 yX12_leafDone ∈ tb := tbc_10 205 (by decide +kernel) rfl
theorem w_2570 : Cond.instanceMethod yX12_leafDone ∈ tb := tbc_10 207 (by decide +kernel) rfl
theorem w_2571 : Cond.code yX12_leafDone cX12_leafDone 3 none ∈ tb := tbc_10 208 (by decide +kernel) rfl
section RW66
variable {p : Program} {l : Launch} {e : Env} {R : Room} {s : State} {m : MethodId} {args : Array Value} {below : List Frame} {meth : Method} {c : Code} {H : Heap} {locs : List Loc} {cells slots : Nat} {Q : State → Prop}
variable {cc : ByteArray} {pc nL : Nat} {ls : Array Slot} {rest st0 : List Value} {G : sG} {n : Nat} {S : sS}
theorem g_X12_508 (Cx : sC G p m c cc nL s args RX12) (hW : sW G n S H) {k : Nat} (hk : k < n) (ht : tau k = .inl 12) {v : Int} (hv : S.1 k 69 = v) (hdg : decode cc pc = .ok (.getfield 508, 3)) (kk : W p l e R s m args below meth c H locs cells slots Q (F0 m (pc + 3) ls (.int (iv v) :: rest))) : W p l e R s m args below meth c H locs cells slots Q (F0 m pc ls (.ref (G.2.2.1 + k) :: rest)) :=
  sGet Cx inX12 rfl 69 (by decide) w_2030 hW hk ht (congrArg (fun z => Value.int (iv z)) hv) hdg kk
theorem c_X12_615 (Cx : sC G p m c cc nL s args RX12) {rm : Room} {mc ms : Nat} (h1 : rm.cells = mc) (h2 : rm.slots = ms) (h3 : rm.frames + 1 ≤ R.frames ∧ 8 + (3 + 11) + rm.locals ≤ R.locals) : CallW R s args RX12 RX12 615 yX12_multipliersOf cX12_multipliersOf 3 none (.code yX12_multipliersOf cX12_multipliersOf 3 none :: tb) rm mc ms 1 :=
  sCw Cx 1 w_2529 w_2531 w_149 w_217 w_2532 (by decide +kernel) h1 h2 h3
theorem c_X12_620 (Cx : sC G p m c cc nL s args RX12) {rm : Room} {mc ms : Nat} (h1 : rm.cells = mc) (h2 : rm.slots = ms) (h3 : rm.frames + 1 ≤ R.frames ∧ 8 + (3 + 11) + rm.locals ≤ R.locals) : CallW R s args RX12 RX12 620 yX12_writePairs cX12_writePairs 3 none (.code yX12_writePairs cX12_writePairs 3 none :: tb) rm mc ms 1 :=
  sCw Cx 1 w_2541 w_2543 w_151 w_217 w_2544 (by decide +kernel) h1 h2 h3
theorem g_X12_477 (Cx : sC G p m c cc nL s args RX12) (hW : sW G n S H) {k : Nat} (hk : k < n) (ht : tau k = .inl 12) {v : Int} (hv : S.1 k 61 = v) (hdg : decode cc pc = .ok (.getfield 477, 3)) (kk : W p l e R s m args below meth c H locs cells slots Q (F0 m (pc + 3) ls (.int (iv v) :: rest))) : W p l e R s m args below meth c H locs cells slots Q (F0 m pc ls (.ref (G.2.2.1 + k) :: rest)) :=
  sGet Cx inX12 rfl 61 (by decide) w_2022 hW hk ht (congrArg (fun z => Value.int (iv z)) hv) hdg kk
theorem c_X12_623 (Cx : sC G p m c cc nL s args RX12) {rm : Room} {mc ms : Nat} (h1 : rm.cells = mc) (h2 : rm.slots = ms) (h3 : rm.frames + 1 ≤ R.frames ∧ 8 + (3 + 11) + rm.locals ≤ R.locals) : CallW R s args RX12 RX12 623 yX12_leafDone cX12_leafDone 3 none (.code yX12_leafDone cX12_leafDone 3 none :: tb) rm mc ms 0 :=
  sCw Cx 0 w_2568 w_2570 w_157 w_217 w_2571 (by decide +kernel) h1 h2 h3
end RW66
