theorem dX0_init_0 : decode cX0_init 0 = .ok (.aload_n 0, 1) := by decide +kernel
theorem dX0_init_1 : decode cX0_init 1 = .ok (.invokespecial 1, 3) := by decide +kernel
theorem dX0_init_4 : decode cX0_init 4 = .ok (.aload_n 0, 1) := by decide +kernel
theorem dX0_init_5 : decode cX0_init 5 = .ok (.bipush 32, 2) := by decide +kernel
theorem dX0_init_7 : decode cX0_init 7 = .ok (.newarray .int, 2) := by decide +kernel
theorem dX0_init_9 : decode cX0_init 9 = .ok (.putfield 9, 3) := by decide +kernel
theorem dX0_init_12 : decode cX0_init 12 = .ok (.return_, 1) := by decide +kernel
theorem dX10_init_0 : decode cX10_init 0 = .ok (.aload_n 0, 1) := by decide +kernel
theorem dX10_init_1 : decode cX10_init 1 = .ok (.invokespecial 3, 3) := by decide +kernel
theorem dX10_init_4 : decode cX10_init 4 = .ok (.aload_n 0, 1) := by decide +kernel
theorem dX10_init_5 : decode cX10_init 5 = .ok (.iload_n 1, 1) := by decide +kernel
theorem dX10_init_6 : decode cX10_init 6 = .ok (.iconst 0, 1) := by decide +kernel
theorem dX10_init_7 : decode cX10_init 7 = .ok (.invokestatic 9, 3) := by decide +kernel
theorem dX10_init_10 : decode cX10_init 10 = .ok (.newarray .byte, 2) := by decide +kernel
theorem dX10_init_12 : decode cX10_init 12 = .ok (.putfield 15, 3) := by decide +kernel
theorem dX10_init_15 : decode cX10_init 15 = .ok (.return_, 1) := by decide +kernel
theorem dX11_init_0 : decode cX11_init 0 = .ok (.aload_n 0, 1) := by decide +kernel
theorem dX11_init_1 : decode cX11_init 1 = .ok (.invokespecial 1, 3) := by decide +kernel
theorem dX11_init_4 : decode cX11_init 4 = .ok (.aload_n 0, 1) := by decide +kernel
theorem dX11_init_5 : decode cX11_init 5 = .ok (.new 7, 3) := by decide +kernel
theorem dX11_init_8 : decode cX11_init 8 = .ok (.dup, 1) := by decide +kernel
theorem dX11_init_9 : decode cX11_init 9 = .ok (.sipush 30000, 3) := by decide +kernel
theorem dX11_init_12 : decode cX11_init 12 = .ok (.invokespecial 11, 3) := by decide +kernel
theorem dX11_init_15 : decode cX11_init 15 = .ok (.putfield 14, 3) := by decide +kernel
theorem dX11_init_18 : decode cX11_init 18 = .ok (.aload_n 0, 1) := by decide +kernel
theorem dX11_init_19 : decode cX11_init 19 = .ok (.new 7, 3) := by decide +kernel
theorem dX11_init_22 : decode cX11_init 22 = .ok (.dup, 1) := by decide +kernel
theorem dX11_init_23 : decode cX11_init 23 = .ok (.bipush 120, 2) := by decide +kernel
theorem dX11_init_25 : decode cX11_init 25 = .ok (.invokespecial 11, 3) := by decide +kernel
theorem dX11_init_28 : decode cX11_init 28 = .ok (.putfield 18, 3) := by decide +kernel
theorem dX11_init_31 : decode cX11_init 31 = .ok (.aload_n 0, 1) := by decide +kernel
theorem dX11_init_32 : decode cX11_init 32 = .ok (.new 21, 3) := by decide +kernel
theorem dX11_init_35 : decode cX11_init 35 = .ok (.dup, 1) := by decide +kernel
theorem dX11_init_36 : decode cX11_init 36 = .ok (.invokespecial 23, 3) := by decide +kernel
theorem dX11_init_39 : decode cX11_init 39 = .ok (.putfield 24, 3) := by decide +kernel
theorem dX11_init_42 : decode cX11_init 42 = .ok (.aload_n 0, 1) := by decide +kernel
theorem dX11_init_43 : decode cX11_init 43 = .ok (.new 21, 3) := by decide +kernel
theorem dX11_init_46 : decode cX11_init 46 = .ok (.dup, 1) := by decide +kernel
theorem dX11_init_47 : decode cX11_init 47 = .ok (.invokespecial 23, 3) := by decide +kernel
theorem dX11_init_50 : decode cX11_init 50 = .ok (.putfield 28, 3) := by decide +kernel
theorem dX11_init_53 : decode cX11_init 53 = .ok (.aload_n 0, 1) := by decide +kernel
theorem dX11_init_54 : decode cX11_init 54 = .ok (.new 31, 3) := by decide +kernel
theorem dX11_init_57 : decode cX11_init 57 = .ok (.dup, 1) := by decide +kernel
theorem dX11_init_58 : decode cX11_init 58 = .ok (.invokespecial 33, 3) := by decide +kernel
theorem dX11_init_61 : decode cX11_init 61 = .ok (.putfield 34, 3) := by decide +kernel
theorem dX11_init_64 : decode cX11_init 64 = .ok (.aload_n 0, 1) := by decide +kernel
theorem dX11_init_65 : decode cX11_init 65 = .ok (.new 38, 3) := by decide +kernel
theorem dX11_init_68 : decode cX11_init 68 = .ok (.dup, 1) := by decide +kernel
theorem dX11_init_69 : decode cX11_init 69 = .ok (.invokespecial 40, 3) := by decide +kernel
theorem dX11_init_72 : decode cX11_init 72 = .ok (.putfield 41, 3) := by decide +kernel
theorem dX11_init_75 : decode cX11_init 75 = .ok (.aload_n 0, 1) := by decide +kernel
theorem dX11_init_76 : decode cX11_init 76 = .ok (.new 45, 3) := by decide +kernel
theorem dX11_init_79 : decode cX11_init 79 = .ok (.dup, 1) := by decide +kernel
theorem dX11_init_80 : decode cX11_init 80 = .ok (.invokespecial 47, 3) := by decide +kernel
theorem dX11_init_83 : decode cX11_init 83 = .ok (.putfield 48, 3) := by decide +kernel
theorem dX11_init_86 : decode cX11_init 86 = .ok (.aload_n 0, 1) := by decide +kernel
theorem dX11_init_87 : decode cX11_init 87 = .ok (.iconst (-1), 1) := by decide +kernel
theorem dX11_init_88 : decode cX11_init 88 = .ok (.putfield 52, 3) := by decide +kernel
theorem dX11_init_91 : decode cX11_init 91 = .ok (.return_, 1) := by decide +kernel
theorem dX12_init_0 : decode cX12_init 0 = .ok (.aload_n 0, 1) := by decide +kernel
theorem dX12_init_1 : decode cX12_init 1 = .ok (.invokespecial 3, 3) := by decide +kernel
theorem dX12_init_4 : decode cX12_init 4 = .ok (.aload_n 0, 1) := by decide +kernel
theorem dX12_init_5 : decode cX12_init 5 = .ok (.sipush 30000, 3) := by decide +kernel
theorem dX12_init_8 : decode cX12_init 8 = .ok (.newarray .byte, 2) := by decide +kernel
theorem dX12_init_10 : decode cX12_init 10 = .ok (.putfield 9, 3) := by decide +kernel
theorem dX12_init_13 : decode cX12_init 13 = .ok (.aload_n 0, 1) := by decide +kernel
theorem dX12_init_14 : decode cX12_init 14 = .ok (.bipush 66, 2) := by decide +kernel
theorem dX12_init_16 : decode cX12_init 16 = .ok (.newarray .int, 2) := by decide +kernel
theorem dX12_init_18 : decode cX12_init 18 = .ok (.putfield 13, 3) := by decide +kernel
theorem dX12_init_21 : decode cX12_init 21 = .ok (.aload_n 0, 1) := by decide +kernel
theorem dX12_init_22 : decode cX12_init 22 = .ok (.bipush 66, 2) := by decide +kernel
theorem dX12_init_24 : decode cX12_init 24 = .ok (.newarray .int, 2) := by decide +kernel
theorem dX12_init_26 : decode cX12_init 26 = .ok (.putfield 17, 3) := by decide +kernel
theorem dX12_init_29 : decode cX12_init 29 = .ok (.aload_n 0, 1) := by decide +kernel
theorem dX12_init_30 : decode cX12_init 30 = .ok (.iconst 4, 1) := by decide +kernel
theorem dX12_init_31 : decode cX12_init 31 = .ok (.newarray .int, 2) := by decide +kernel
theorem dX12_init_33 : decode cX12_init 33 = .ok (.putfield 20, 3) := by decide +kernel
theorem dX12_init_36 : decode cX12_init 36 = .ok (.aload_n 0, 1) := by decide +kernel
theorem dX12_init_37 : decode cX12_init 37 = .ok (.sipush 576, 3) := by decide +kernel
theorem dX12_init_40 : decode cX12_init 40 = .ok (.newarray .byte, 2) := by decide +kernel
theorem dX12_init_42 : decode cX12_init 42 = .ok (.putfield 23, 3) := by decide +kernel
theorem dX12_init_45 : decode cX12_init 45 = .ok (.aload_n 0, 1) := by decide +kernel
theorem dX12_init_46 : decode cX12_init 46 = .ok (.bipush 68, 2) := by decide +kernel
theorem dX12_init_48 : decode cX12_init 48 = .ok (.newarray .int, 2) := by decide +kernel
theorem dX12_init_50 : decode cX12_init 50 = .ok (.putfield 26, 3) := by decide +kernel
theorem dX12_init_53 : decode cX12_init 53 = .ok (.aload_n 0, 1) := by decide +kernel
theorem dX12_init_54 : decode cX12_init 54 = .ok (.bipush 68, 2) := by decide +kernel
theorem dX12_init_56 : decode cX12_init 56 = .ok (.newarray .int, 2) := by decide +kernel
theorem dX12_init_58 : decode cX12_init 58 = .ok (.putfield 29, 3) := by decide +kernel
theorem dX12_init_61 : decode cX12_init 61 = .ok (.aload_n 0, 1) := by decide +kernel
theorem dX12_init_62 : decode cX12_init 62 = .ok (.bipush 68, 2) := by decide +kernel
theorem dX12_init_64 : decode cX12_init 64 = .ok (.newarray .int, 2) := by decide +kernel
theorem dX12_init_66 : decode cX12_init 66 = .ok (.putfield 32, 3) := by decide +kernel
theorem dX12_init_69 : decode cX12_init 69 = .ok (.aload_n 0, 1) := by decide +kernel
theorem dX12_init_70 : decode cX12_init 70 = .ok (.bipush 68, 2) := by decide +kernel
theorem dX12_init_72 : decode cX12_init 72 = .ok (.newarray .int, 2) := by decide +kernel
theorem dX12_init_74 : decode cX12_init 74 = .ok (.putfield 35, 3) := by decide +kernel
theorem dX12_init_77 : decode cX12_init 77 = .ok (.aload_n 0, 1) := by decide +kernel
theorem dX12_init_78 : decode cX12_init 78 = .ok (.bipush 68, 2) := by decide +kernel
theorem dX12_init_80 : decode cX12_init 80 = .ok (.newarray .int, 2) := by decide +kernel
theorem dX12_init_82 : decode cX12_init 82 = .ok (.putfield 38, 3) := by decide +kernel
theorem dX12_init_85 : decode cX12_init 85 = .ok (.aload_n 0, 1) := by decide +kernel
theorem dX12_init_86 : decode cX12_init 86 = .ok (.bipush 68, 2) := by decide +kernel
theorem dX12_init_88 : decode cX12_init 88 = .ok (.newarray .int, 2) := by decide +kernel
theorem dX12_init_90 : decode cX12_init 90 = .ok (.putfield 41, 3) := by decide +kernel
theorem dX12_init_93 : decode cX12_init 93 = .ok (.aload_n 0, 1) := by decide +kernel
theorem dX12_init_94 : decode cX12_init 94 = .ok (.sipush 30000, 3) := by decide +kernel
theorem dX12_init_97 : decode cX12_init 97 = .ok (.newarray .byte, 2) := by decide +kernel
theorem dX12_init_99 : decode cX12_init 99 = .ok (.putfield 44, 3) := by decide +kernel
theorem dX12_init_102 : decode cX12_init 102 = .ok (.aload_n 0, 1) := by decide +kernel
theorem dX12_init_103 : decode cX12_init 103 = .ok (.sipush 30004, 3) := by decide +kernel
theorem dX12_init_106 : decode cX12_init 106 = .ok (.newarray .int, 2) := by decide +kernel
theorem dX12_init_108 : decode cX12_init 108 = .ok (.putfield 47, 3) := by decide +kernel
theorem dX12_init_111 : decode cX12_init 111 = .ok (.aload_n 0, 1) := by decide +kernel
theorem dX12_init_112 : decode cX12_init 112 = .ok (.sipush 30004, 3) := by decide +kernel
theorem dX12_init_115 : decode cX12_init 115 = .ok (.newarray .int, 2) := by decide +kernel
theorem dX12_init_117 : decode cX12_init 117 = .ok (.putfield 50, 3) := by decide +kernel
theorem dX12_init_120 : decode cX12_init 120 = .ok (.aload_n 0, 1) := by decide +kernel
theorem dX12_init_121 : decode cX12_init 121 = .ok (.sipush 30004, 3) := by decide +kernel
theorem dX12_init_124 : decode cX12_init 124 = .ok (.newarray .int, 2) := by decide +kernel
theorem dX12_init_126 : decode cX12_init 126 = .ok (.putfield 53, 3) := by decide +kernel
theorem dX12_init_129 : decode cX12_init 129 = .ok (.aload_n 0, 1) := by decide +kernel
theorem dX12_init_130 : decode cX12_init 130 = .ok (.sipush 30004, 3) := by decide +kernel
theorem dX12_init_133 : decode cX12_init 133 = .ok (.newarray .int, 2) := by decide +kernel
theorem dX12_init_135 : decode cX12_init 135 = .ok (.putfield 56, 3) := by decide +kernel
theorem dX12_init_138 : decode cX12_init 138 = .ok (.aload_n 0, 1) := by decide +kernel
theorem dX12_init_139 : decode cX12_init 139 = .ok (.sipush 700, 3) := by decide +kernel
theorem dX12_init_142 : decode cX12_init 142 = .ok (.newarray .int, 2) := by decide +kernel
theorem dX12_init_144 : decode cX12_init 144 = .ok (.putfield 59, 3) := by decide +kernel
theorem dX12_init_147 : decode cX12_init 147 = .ok (.aload_n 0, 1) := by decide +kernel
theorem dX12_init_148 : decode cX12_init 148 = .ok (.sipush 700, 3) := by decide +kernel
theorem dX12_init_151 : decode cX12_init 151 = .ok (.newarray .int, 2) := by decide +kernel
theorem dX12_init_153 : decode cX12_init 153 = .ok (.putfield 62, 3) := by decide +kernel
theorem dX12_init_156 : decode cX12_init 156 = .ok (.aload_n 0, 1) := by decide +kernel
theorem dX12_init_157 : decode cX12_init 157 = .ok (.sipush 700, 3) := by decide +kernel
theorem dX12_init_160 : decode cX12_init 160 = .ok (.newarray .int, 2) := by decide +kernel
theorem dX12_init_162 : decode cX12_init 162 = .ok (.putfield 65, 3) := by decide +kernel
theorem dX12_init_165 : decode cX12_init 165 = .ok (.aload_n 0, 1) := by decide +kernel
theorem dX12_init_166 : decode cX12_init 166 = .ok (.sipush 700, 3) := by decide +kernel
theorem dX12_init_169 : decode cX12_init 169 = .ok (.newarray .int, 2) := by decide +kernel
theorem dX12_init_171 : decode cX12_init 171 = .ok (.putfield 68, 3) := by decide +kernel
theorem dX12_init_174 : decode cX12_init 174 = .ok (.aload_n 0, 1) := by decide +kernel
theorem dX12_init_175 : decode cX12_init 175 = .ok (.sipush 700, 3) := by decide +kernel
theorem dX12_init_178 : decode cX12_init 178 = .ok (.newarray .int, 2) := by decide +kernel
theorem dX12_init_180 : decode cX12_init 180 = .ok (.putfield 71, 3) := by decide +kernel
theorem dX12_init_183 : decode cX12_init 183 = .ok (.aload_n 0, 1) := by decide +kernel
theorem dX12_init_184 : decode cX12_init 184 = .ok (.sipush 2100, 3) := by decide +kernel
theorem dX12_init_187 : decode cX12_init 187 = .ok (.newarray .int, 2) := by decide +kernel
theorem dX12_init_189 : decode cX12_init 189 = .ok (.putfield 74, 3) := by decide +kernel
theorem dX12_init_192 : decode cX12_init 192 = .ok (.aload_n 0, 1) := by decide +kernel
theorem dX12_init_193 : decode cX12_init 193 = .ok (.bipush 13, 2) := by decide +kernel
theorem dX12_init_195 : decode cX12_init 195 = .ok (.newarray .boolean, 2) := by decide +kernel
theorem dX12_init_197 : decode cX12_init 197 = .ok (.putfield 77, 3) := by decide +kernel
theorem dX12_init_200 : decode cX12_init 200 = .ok (.aload_n 0, 1) := by decide +kernel
theorem dX12_init_201 : decode cX12_init 201 = .ok (.sipush 247, 3) := by decide +kernel
theorem dX12_init_204 : decode cX12_init 204 = .ok (.newarray .long, 2) := by decide +kernel
theorem dX12_init_206 : decode cX12_init 206 = .ok (.putfield 81, 3) := by decide +kernel
theorem dX12_init_209 : decode cX12_init 209 = .ok (.aload_n 0, 1) := by decide +kernel
theorem dX12_init_210 : decode cX12_init 210 = .ok (.bipush 13, 2) := by decide +kernel
theorem dX12_init_212 : decode cX12_init 212 = .ok (.newarray .long, 2) := by decide +kernel
theorem dX12_init_214 : decode cX12_init 214 = .ok (.putfield 85, 3) := by decide +kernel
theorem dX12_init_217 : decode cX12_init 217 = .ok (.aload_n 0, 1) := by decide +kernel
theorem dX12_init_218 : decode cX12_init 218 = .ok (.sipush 1820, 3) := by decide +kernel
theorem dX12_init_221 : decode cX12_init 221 = .ok (.newarray .long, 2) := by decide +kernel
theorem dX12_init_223 : decode cX12_init 223 = .ok (.putfield 88, 3) := by decide +kernel
theorem dX12_init_226 : decode cX12_init 226 = .ok (.aload_n 0, 1) := by decide +kernel
theorem dX12_init_227 : decode cX12_init 227 = .ok (.iconst 2, 1) := by decide +kernel
theorem dX12_init_228 : decode cX12_init 228 = .ok (.newarray .int, 2) := by decide +kernel
theorem dX12_init_230 : decode cX12_init 230 = .ok (.putfield 91, 3) := by decide +kernel
theorem dX12_init_233 : decode cX12_init 233 = .ok (.aload_n 0, 1) := by decide +kernel
theorem dX12_init_234 : decode cX12_init 234 = .ok (.bipush 13, 2) := by decide +kernel
theorem dX12_init_236 : decode cX12_init 236 = .ok (.newarray .boolean, 2) := by decide +kernel
theorem dX12_init_238 : decode cX12_init 238 = .ok (.putfield 94, 3) := by decide +kernel
theorem dX12_init_241 : decode cX12_init 241 = .ok (.aload_n 0, 1) := by decide +kernel
theorem dX12_init_242 : decode cX12_init 242 = .ok (.bipush 13, 2) := by decide +kernel
theorem dX12_init_244 : decode cX12_init 244 = .ok (.newarray .long, 2) := by decide +kernel
theorem dX12_init_246 : decode cX12_init 246 = .ok (.putfield 97, 3) := by decide +kernel
theorem dX12_init_249 : decode cX12_init 249 = .ok (.aload_n 0, 1) := by decide +kernel
theorem dX12_init_250 : decode cX12_init 250 = .ok (.sipush 4368, 3) := by decide +kernel
theorem dX12_init_253 : decode cX12_init 253 = .ok (.newarray .int, 2) := by decide +kernel
theorem dX12_init_255 : decode cX12_init 255 = .ok (.putfield 100, 3) := by decide +kernel
theorem dX12_init_258 : decode cX12_init 258 = .ok (.aload_n 0, 1) := by decide +kernel
theorem dX12_init_259 : decode cX12_init 259 = .ok (.sipush 5280, 3) := by decide +kernel
theorem dX12_init_262 : decode cX12_init 262 = .ok (.newarray .int, 2) := by decide +kernel
theorem dX12_init_264 : decode cX12_init 264 = .ok (.putfield 103, 3) := by decide +kernel
theorem dX12_init_267 : decode cX12_init 267 = .ok (.aload_n 0, 1) := by decide +kernel
theorem dX12_init_268 : decode cX12_init 268 = .ok (.sipush 5280, 3) := by decide +kernel
theorem dX12_init_271 : decode cX12_init 271 = .ok (.newarray .int, 2) := by decide +kernel
theorem dX12_init_273 : decode cX12_init 273 = .ok (.putfield 106, 3) := by decide +kernel
theorem dX12_init_276 : decode cX12_init 276 = .ok (.aload_n 0, 1) := by decide +kernel
theorem dX12_init_277 : decode cX12_init 277 = .ok (.bipush 8, 2) := by decide +kernel
theorem dX12_init_279 : decode cX12_init 279 = .ok (.newarray .int, 2) := by decide +kernel
theorem dX12_init_281 : decode cX12_init 281 = .ok (.putfield 109, 3) := by decide +kernel
theorem dX12_init_284 : decode cX12_init 284 = .ok (.aload_n 0, 1) := by decide +kernel
theorem dX12_init_285 : decode cX12_init 285 = .ok (.bipush 44, 2) := by decide +kernel
theorem dX12_init_287 : decode cX12_init 287 = .ok (.newarray .int, 2) := by decide +kernel
theorem dX12_init_289 : decode cX12_init 289 = .ok (.putfield 112, 3) := by decide +kernel
theorem dX12_init_292 : decode cX12_init 292 = .ok (.aload_n 0, 1) := by decide +kernel
theorem dX12_init_293 : decode cX12_init 293 = .ok (.bipush 15, 2) := by decide +kernel
theorem dX12_init_295 : decode cX12_init 295 = .ok (.newarray .int, 2) := by decide +kernel
theorem dX12_init_297 : decode cX12_init 297 = .ok (.putfield 115, 3) := by decide +kernel
theorem dX12_init_300 : decode cX12_init 300 = .ok (.aload_n 0, 1) := by decide +kernel
theorem dX12_init_301 : decode cX12_init 301 = .ok (.ldc 118, 2) := by decide +kernel
theorem dX12_init_303 : decode cX12_init 303 = .ok (.newarray .int, 2) := by decide +kernel
theorem dX12_init_305 : decode cX12_init 305 = .ok (.putfield 119, 3) := by decide +kernel
theorem dX12_init_308 : decode cX12_init 308 = .ok (.aload_n 0, 1) := by decide +kernel
theorem dX12_init_309 : decode cX12_init 309 = .ok (.sipush 328, 3) := by decide +kernel
theorem dX12_init_312 : decode cX12_init 312 = .ok (.newarray .int, 2) := by decide +kernel
theorem dX12_init_314 : decode cX12_init 314 = .ok (.putfield 122, 3) := by decide +kernel
theorem dX12_init_317 : decode cX12_init 317 = .ok (.aload_n 0, 1) := by decide +kernel
theorem dX12_init_318 : decode cX12_init 318 = .ok (.sipush 1804, 3) := by decide +kernel
theorem dX12_init_321 : decode cX12_init 321 = .ok (.newarray .int, 2) := by decide +kernel
theorem dX12_init_323 : decode cX12_init 323 = .ok (.putfield 125, 3) := by decide +kernel
theorem dX12_init_326 : decode cX12_init 326 = .ok (.aload_n 0, 1) := by decide +kernel
theorem dX12_init_327 : decode cX12_init 327 = .ok (.sipush 615, 3) := by decide +kernel
theorem dX12_init_330 : decode cX12_init 330 = .ok (.newarray .int, 2) := by decide +kernel
theorem dX12_init_332 : decode cX12_init 332 = .ok (.putfield 128, 3) := by decide +kernel
theorem dX12_init_335 : decode cX12_init 335 = .ok (.aload_n 0, 1) := by decide +kernel
theorem dX12_init_336 : decode cX12_init 336 = .ok (.sipush 205, 3) := by decide +kernel
theorem dX12_init_339 : decode cX12_init 339 = .ok (.newarray .int, 2) := by decide +kernel
theorem dX12_init_341 : decode cX12_init 341 = .ok (.putfield 131, 3) := by decide +kernel
theorem dX12_init_344 : decode cX12_init 344 = .ok (.aload_n 0, 1) := by decide +kernel
theorem dX12_init_345 : decode cX12_init 345 = .ok (.bipush 8, 2) := by decide +kernel
theorem dX12_init_347 : decode cX12_init 347 = .ok (.newarray .int, 2) := by decide +kernel
theorem dX12_init_349 : decode cX12_init 349 = .ok (.putfield 134, 3) := by decide +kernel
theorem dX12_init_352 : decode cX12_init 352 = .ok (.aload_n 0, 1) := by decide +kernel
theorem dX12_init_353 : decode cX12_init 353 = .ok (.bipush 8, 2) := by decide +kernel
theorem dX12_init_355 : decode cX12_init 355 = .ok (.newarray .int, 2) := by decide +kernel
theorem dX12_init_357 : decode cX12_init 357 = .ok (.putfield 137, 3) := by decide +kernel
theorem dX12_init_360 : decode cX12_init 360 = .ok (.aload_n 0, 1) := by decide +kernel
theorem dX12_init_361 : decode cX12_init 361 = .ok (.bipush 104, 2) := by decide +kernel
theorem dX12_init_363 : decode cX12_init 363 = .ok (.newarray .int, 2) := by decide +kernel
theorem dX12_init_365 : decode cX12_init 365 = .ok (.putfield 140, 3) := by decide +kernel
theorem dX12_init_368 : decode cX12_init 368 = .ok (.aload_n 0, 1) := by decide +kernel
theorem dX12_init_369 : decode cX12_init 369 = .ok (.ldc 143, 2) := by decide +kernel
theorem dX12_init_371 : decode cX12_init 371 = .ok (.newarray .byte, 2) := by decide +kernel
theorem dX12_init_373 : decode cX12_init 373 = .ok (.putfield 144, 3) := by decide +kernel
theorem dX12_init_376 : decode cX12_init 376 = .ok (.aload_n 0, 1) := by decide +kernel
theorem dX12_init_377 : decode cX12_init 377 = .ok (.ldc 147, 2) := by decide +kernel
theorem dX12_init_379 : decode cX12_init 379 = .ok (.newarray .byte, 2) := by decide +kernel
theorem dX12_init_381 : decode cX12_init 381 = .ok (.putfield 148, 3) := by decide +kernel
theorem dX12_init_384 : decode cX12_init 384 = .ok (.aload_n 0, 1) := by decide +kernel
theorem dX12_init_385 : decode cX12_init 385 = .ok (.iconst 4, 1) := by decide +kernel
theorem dX12_init_386 : decode cX12_init 386 = .ok (.newarray .int, 2) := by decide +kernel
theorem dX12_init_388 : decode cX12_init 388 = .ok (.putfield 151, 3) := by decide +kernel
theorem dX12_init_391 : decode cX12_init 391 = .ok (.aload_n 0, 1) := by decide +kernel
theorem dX12_init_392 : decode cX12_init 392 = .ok (.sipush 336, 3) := by decide +kernel
theorem dX12_init_395 : decode cX12_init 395 = .ok (.newarray .int, 2) := by decide +kernel
theorem dX12_init_397 : decode cX12_init 397 = .ok (.putfield 154, 3) := by decide +kernel
theorem dX12_init_400 : decode cX12_init 400 = .ok (.aload_n 0, 1) := by decide +kernel
theorem dX12_init_401 : decode cX12_init 401 = .ok (.bipush 68, 2) := by decide +kernel
theorem dX12_init_403 : decode cX12_init 403 = .ok (.newarray .int, 2) := by decide +kernel
theorem dX12_init_405 : decode cX12_init 405 = .ok (.putfield 157, 3) := by decide +kernel
theorem dX12_init_408 : decode cX12_init 408 = .ok (.aload_n 0, 1) := by decide +kernel
theorem dX12_init_409 : decode cX12_init 409 = .ok (.bipush 68, 2) := by decide +kernel
theorem dX12_init_411 : decode cX12_init 411 = .ok (.newarray .int, 2) := by decide +kernel
theorem dX12_init_413 : decode cX12_init 413 = .ok (.putfield 160, 3) := by decide +kernel
theorem dX12_init_416 : decode cX12_init 416 = .ok (.aload_n 0, 1) := by decide +kernel
theorem dX12_init_417 : decode cX12_init 417 = .ok (.bipush 104, 2) := by decide +kernel
theorem dX12_init_419 : decode cX12_init 419 = .ok (.newarray .int, 2) := by decide +kernel
theorem dX12_init_421 : decode cX12_init 421 = .ok (.putfield 163, 3) := by decide +kernel
theorem dX12_init_424 : decode cX12_init 424 = .ok (.aload_n 0, 1) := by decide +kernel
theorem dX12_init_425 : decode cX12_init 425 = .ok (.iconst 4, 1) := by decide +kernel
theorem dX12_init_426 : decode cX12_init 426 = .ok (.newarray .int, 2) := by decide +kernel
theorem dX12_init_428 : decode cX12_init 428 = .ok (.putfield 166, 3) := by decide +kernel
theorem dX12_init_431 : decode cX12_init 431 = .ok (.aload_n 0, 1) := by decide +kernel
theorem dX12_init_432 : decode cX12_init 432 = .ok (.sipush 5460, 3) := by decide +kernel
theorem dX12_init_435 : decode cX12_init 435 = .ok (.newarray .int, 2) := by decide +kernel
theorem dX12_init_437 : decode cX12_init 437 = .ok (.putfield 169, 3) := by decide +kernel
theorem dX12_init_440 : decode cX12_init 440 = .ok (.aload_n 0, 1) := by decide +kernel
theorem dX12_init_441 : decode cX12_init 441 = .ok (.sipush 520, 3) := by decide +kernel
theorem dX12_init_444 : decode cX12_init 444 = .ok (.newarray .int, 2) := by decide +kernel
theorem dX12_init_446 : decode cX12_init 446 = .ok (.putfield 172, 3) := by decide +kernel
theorem dX12_init_449 : decode cX12_init 449 = .ok (.aload_n 0, 1) := by decide +kernel
theorem dX12_init_450 : decode cX12_init 450 = .ok (.sipush 140, 3) := by decide +kernel
theorem dX12_init_453 : decode cX12_init 453 = .ok (.newarray .int, 2) := by decide +kernel
theorem dX12_init_455 : decode cX12_init 455 = .ok (.putfield 175, 3) := by decide +kernel
theorem dX12_init_458 : decode cX12_init 458 = .ok (.aload_n 0, 1) := by decide +kernel
theorem dX12_init_459 : decode cX12_init 459 = .ok (.bipush 10, 2) := by decide +kernel
theorem dX12_init_461 : decode cX12_init 461 = .ok (.newarray .int, 2) := by decide +kernel
theorem dX12_init_463 : decode cX12_init 463 = .ok (.putfield 178, 3) := by decide +kernel
theorem dX12_init_466 : decode cX12_init 466 = .ok (.aload_n 0, 1) := by decide +kernel
theorem dX12_init_467 : decode cX12_init 467 = .ok (.bipush 10, 2) := by decide +kernel
theorem dX12_init_469 : decode cX12_init 469 = .ok (.newarray .int, 2) := by decide +kernel
theorem dX12_init_471 : decode cX12_init 471 = .ok (.putfield 181, 3) := by decide +kernel
theorem dX12_init_474 : decode cX12_init 474 = .ok (.aload_n 0, 1) := by decide +kernel
theorem dX12_init_475 : decode cX12_init 475 = .ok (.bipush 10, 2) := by decide +kernel
theorem dX12_init_477 : decode cX12_init 477 = .ok (.newarray .int, 2) := by decide +kernel
theorem dX12_init_479 : decode cX12_init 479 = .ok (.putfield 184, 3) := by decide +kernel
theorem dX12_init_482 : decode cX12_init 482 = .ok (.aload_n 0, 1) := by decide +kernel
theorem dX12_init_483 : decode cX12_init 483 = .ok (.bipush 10, 2) := by decide +kernel
theorem dX12_init_485 : decode cX12_init 485 = .ok (.newarray .int, 2) := by decide +kernel
theorem dX12_init_487 : decode cX12_init 487 = .ok (.putfield 187, 3) := by decide +kernel
theorem dX12_init_490 : decode cX12_init 490 = .ok (.aload_n 0, 1) := by decide +kernel
theorem dX12_init_491 : decode cX12_init 491 = .ok (.sipush 247, 3) := by decide +kernel
theorem dX12_init_494 : decode cX12_init 494 = .ok (.newarray .long, 2) := by decide +kernel
theorem dX12_init_496 : decode cX12_init 496 = .ok (.putfield 190, 3) := by decide +kernel
theorem dX12_init_499 : decode cX12_init 499 = .ok (.aload_n 0, 1) := by decide +kernel
theorem dX12_init_500 : decode cX12_init 500 = .ok (.sipush 3002, 3) := by decide +kernel
theorem dX12_init_503 : decode cX12_init 503 = .ok (.newarray .int, 2) := by decide +kernel
theorem dX12_init_505 : decode cX12_init 505 = .ok (.putfield 193, 3) := by decide +kernel
theorem dX12_init_508 : decode cX12_init 508 = .ok (.aload_n 0, 1) := by decide +kernel
theorem dX12_init_509 : decode cX12_init 509 = .ok (.sipush 3002, 3) := by decide +kernel
theorem dX12_init_512 : decode cX12_init 512 = .ok (.newarray .int, 2) := by decide +kernel
theorem dX12_init_514 : decode cX12_init 514 = .ok (.putfield 196, 3) := by decide +kernel
theorem dX12_init_517 : decode cX12_init 517 = .ok (.aload_n 0, 1) := by decide +kernel
theorem dX12_init_518 : decode cX12_init 518 = .ok (.sipush 3002, 3) := by decide +kernel
theorem dX12_init_521 : decode cX12_init 521 = .ok (.newarray .int, 2) := by decide +kernel
theorem dX12_init_523 : decode cX12_init 523 = .ok (.putfield 199, 3) := by decide +kernel
theorem dX12_init_526 : decode cX12_init 526 = .ok (.return_, 1) := by decide +kernel
theorem dX1_init_0 : decode cX1_init 0 = .ok (.aload_n 0, 1) := by decide +kernel
theorem dX1_init_1 : decode cX1_init 1 = .ok (.invokespecial 3, 3) := by decide +kernel
theorem dX1_init_4 : decode cX1_init 4 = .ok (.aload_n 0, 1) := by decide +kernel
theorem dX1_init_5 : decode cX1_init 5 = .ok (.new 9, 3) := by decide +kernel
theorem dX1_init_8 : decode cX1_init 8 = .ok (.dup, 1) := by decide +kernel
theorem dX1_init_9 : decode cX1_init 9 = .ok (.invokespecial 11, 3) := by decide +kernel
theorem dX1_init_12 : decode cX1_init 12 = .ok (.putfield 12, 3) := by decide +kernel
theorem dX1_init_15 : decode cX1_init 15 = .ok (.aload_n 0, 1) := by decide +kernel
theorem dX1_init_16 : decode cX1_init 16 = .ok (.new 18, 3) := by decide +kernel
theorem dX1_init_19 : decode cX1_init 19 = .ok (.dup, 1) := by decide +kernel
theorem dX1_init_20 : decode cX1_init 20 = .ok (.invokespecial 20, 3) := by decide +kernel
theorem dX1_init_23 : decode cX1_init 23 = .ok (.putfield 21, 3) := by decide +kernel
theorem dX1_init_26 : decode cX1_init 26 = .ok (.aload_n 0, 1) := by decide +kernel
theorem dX1_init_27 : decode cX1_init 27 = .ok (.bipush 104, 2) := by decide +kernel
theorem dX1_init_29 : decode cX1_init 29 = .ok (.newarray .int, 2) := by decide +kernel
theorem dX1_init_31 : decode cX1_init 31 = .ok (.putfield 27, 3) := by decide +kernel
theorem dX1_init_34 : decode cX1_init 34 = .ok (.aload_n 0, 1) := by decide +kernel
theorem dX1_init_35 : decode cX1_init 35 = .ok (.new 25, 3) := by decide +kernel
theorem dX1_init_38 : decode cX1_init 38 = .ok (.dup, 1) := by decide +kernel
theorem dX1_init_39 : decode cX1_init 39 = .ok (.invokespecial 31, 3) := by decide +kernel
theorem dX1_init_42 : decode cX1_init 42 = .ok (.putfield 32, 3) := by decide +kernel
theorem dX1_init_45 : decode cX1_init 45 = .ok (.aload_n 0, 1) := by decide +kernel
theorem dX1_init_46 : decode cX1_init 46 = .ok (.new 25, 3) := by decide +kernel
theorem dX1_init_49 : decode cX1_init 49 = .ok (.dup, 1) := by decide +kernel
theorem dX1_init_50 : decode cX1_init 50 = .ok (.invokespecial 31, 3) := by decide +kernel
theorem dX1_init_53 : decode cX1_init 53 = .ok (.putfield 36, 3) := by decide +kernel
theorem dX1_init_56 : decode cX1_init 56 = .ok (.aload_n 0, 1) := by decide +kernel
theorem dX1_init_57 : decode cX1_init 57 = .ok (.new 25, 3) := by decide +kernel
theorem dX1_init_60 : decode cX1_init 60 = .ok (.dup, 1) := by decide +kernel
theorem dX1_init_61 : decode cX1_init 61 = .ok (.invokespecial 31, 3) := by decide +kernel
theorem dX1_init_64 : decode cX1_init 64 = .ok (.putfield 39, 3) := by decide +kernel
theorem dX1_init_67 : decode cX1_init 67 = .ok (.aload_n 0, 1) := by decide +kernel
theorem dX1_init_68 : decode cX1_init 68 = .ok (.new 25, 3) := by decide +kernel
theorem dX1_init_71 : decode cX1_init 71 = .ok (.dup, 1) := by decide +kernel
theorem dX1_init_72 : decode cX1_init 72 = .ok (.invokespecial 31, 3) := by decide +kernel
theorem dX1_init_75 : decode cX1_init 75 = .ok (.putfield 42, 3) := by decide +kernel
theorem dX1_init_78 : decode cX1_init 78 = .ok (.aload_n 0, 1) := by decide +kernel
theorem dX1_init_79 : decode cX1_init 79 = .ok (.new 25, 3) := by decide +kernel
theorem dX1_init_82 : decode cX1_init 82 = .ok (.dup, 1) := by decide +kernel
theorem dX1_init_83 : decode cX1_init 83 = .ok (.invokespecial 31, 3) := by decide +kernel
theorem dX1_init_86 : decode cX1_init 86 = .ok (.putfield 45, 3) := by decide +kernel
theorem dX1_init_89 : decode cX1_init 89 = .ok (.aload_n 0, 1) := by decide +kernel
theorem dX1_init_90 : decode cX1_init 90 = .ok (.new 25, 3) := by decide +kernel
theorem dX1_init_93 : decode cX1_init 93 = .ok (.dup, 1) := by decide +kernel
theorem dX1_init_94 : decode cX1_init 94 = .ok (.invokespecial 31, 3) := by decide +kernel
theorem dX1_init_97 : decode cX1_init 97 = .ok (.putfield 48, 3) := by decide +kernel
theorem dX1_init_100 : decode cX1_init 100 = .ok (.aload_n 0, 1) := by decide +kernel
theorem dX1_init_101 : decode cX1_init 101 = .ok (.new 25, 3) := by decide +kernel
theorem dX1_init_104 : decode cX1_init 104 = .ok (.dup, 1) := by decide +kernel
theorem dX1_init_105 : decode cX1_init 105 = .ok (.invokespecial 31, 3) := by decide +kernel
theorem dX1_init_108 : decode cX1_init 108 = .ok (.putfield 51, 3) := by decide +kernel
theorem dX1_init_111 : decode cX1_init 111 = .ok (.aload_n 0, 1) := by decide +kernel
theorem dX1_init_112 : decode cX1_init 112 = .ok (.new 25, 3) := by decide +kernel
theorem dX1_init_115 : decode cX1_init 115 = .ok (.dup, 1) := by decide +kernel
theorem dX1_init_116 : decode cX1_init 116 = .ok (.invokespecial 31, 3) := by decide +kernel
theorem dX1_init_119 : decode cX1_init 119 = .ok (.putfield 54, 3) := by decide +kernel
theorem dX1_init_122 : decode cX1_init 122 = .ok (.aload_n 0, 1) := by decide +kernel
theorem dX1_init_123 : decode cX1_init 123 = .ok (.bipush 41, 2) := by decide +kernel
theorem dX1_init_125 : decode cX1_init 125 = .ok (.newarray .int, 2) := by decide +kernel
theorem dX1_init_127 : decode cX1_init 127 = .ok (.putfield 57, 3) := by decide +kernel
theorem dX1_init_130 : decode cX1_init 130 = .ok (.aload_n 0, 1) := by decide +kernel
theorem dX1_init_131 : decode cX1_init 131 = .ok (.bipush 41, 2) := by decide +kernel
theorem dX1_init_133 : decode cX1_init 133 = .ok (.newarray .int, 2) := by decide +kernel
theorem dX1_init_135 : decode cX1_init 135 = .ok (.putfield 60, 3) := by decide +kernel
theorem dX1_init_138 : decode cX1_init 138 = .ok (.aload_n 0, 1) := by decide +kernel
theorem dX1_init_139 : decode cX1_init 139 = .ok (.sipush 328, 3) := by decide +kernel
theorem dX1_init_142 : decode cX1_init 142 = .ok (.newarray .int, 2) := by decide +kernel
theorem dX1_init_144 : decode cX1_init 144 = .ok (.putfield 63, 3) := by decide +kernel
theorem dX1_init_147 : decode cX1_init 147 = .ok (.aload_n 0, 1) := by decide +kernel
theorem dX1_init_148 : decode cX1_init 148 = .ok (.new 66, 3) := by decide +kernel
theorem dX1_init_151 : decode cX1_init 151 = .ok (.dup, 1) := by decide +kernel
theorem dX1_init_152 : decode cX1_init 152 = .ok (.invokespecial 68, 3) := by decide +kernel
theorem dX1_init_155 : decode cX1_init 155 = .ok (.putfield 69, 3) := by decide +kernel
theorem dX1_init_158 : decode cX1_init 158 = .ok (.return_, 1) := by decide +kernel
theorem dX2_init_0 : decode cX2_init 0 = .ok (.aload_n 0, 1) := by decide +kernel
theorem dX2_init_1 : decode cX2_init 1 = .ok (.invokespecial 7, 3) := by decide +kernel
theorem dX2_init_4 : decode cX2_init 4 = .ok (.aload_n 0, 1) := by decide +kernel
theorem dX2_init_5 : decode cX2_init 5 = .ok (.sipush 4816, 3) := by decide +kernel
theorem dX2_init_8 : decode cX2_init 8 = .ok (.newarray .int, 2) := by decide +kernel
theorem dX2_init_10 : decode cX2_init 10 = .ok (.putfield 13, 3) := by decide +kernel
theorem dX2_init_13 : decode cX2_init 13 = .ok (.aload_n 0, 1) := by decide +kernel
theorem dX2_init_14 : decode cX2_init 14 = .ok (.sipush 4816, 3) := by decide +kernel
theorem dX2_init_17 : decode cX2_init 17 = .ok (.newarray .int, 2) := by decide +kernel
theorem dX2_init_19 : decode cX2_init 19 = .ok (.putfield 17, 3) := by decide +kernel
theorem dX2_init_22 : decode cX2_init 22 = .ok (.aload_n 0, 1) := by decide +kernel
theorem dX2_init_23 : decode cX2_init 23 = .ok (.bipush 41, 2) := by decide +kernel
theorem dX2_init_25 : decode cX2_init 25 = .ok (.newarray .int, 2) := by decide +kernel
theorem dX2_init_27 : decode cX2_init 27 = .ok (.putfield 20, 3) := by decide +kernel
theorem dX2_init_30 : decode cX2_init 30 = .ok (.aload_n 0, 1) := by decide +kernel
theorem dX2_init_31 : decode cX2_init 31 = .ok (.bipush 14, 2) := by decide +kernel
theorem dX2_init_33 : decode cX2_init 33 = .ok (.newarray .int, 2) := by decide +kernel
theorem dX2_init_35 : decode cX2_init 35 = .ok (.putfield 23, 3) := by decide +kernel
theorem dX2_init_38 : decode cX2_init 38 = .ok (.aload_n 0, 1) := by decide +kernel
theorem dX2_init_39 : decode cX2_init 39 = .ok (.ldc 26, 2) := by decide +kernel
theorem dX2_init_41 : decode cX2_init 41 = .ok (.newarray .int, 2) := by decide +kernel
theorem dX2_init_43 : decode cX2_init 43 = .ok (.putfield 27, 3) := by decide +kernel
theorem dX2_init_46 : decode cX2_init 46 = .ok (.aload_n 0, 1) := by decide +kernel
theorem dX2_init_47 : decode cX2_init 47 = .ok (.new 3, 3) := by decide +kernel
theorem dX2_init_50 : decode cX2_init 50 = .ok (.dup, 1) := by decide +kernel
theorem dX2_init_51 : decode cX2_init 51 = .ok (.invokespecial 30, 3) := by decide +kernel
theorem dX2_init_54 : decode cX2_init 54 = .ok (.putfield 31, 3) := by decide +kernel
theorem dX2_init_57 : decode cX2_init 57 = .ok (.aload_n 0, 1) := by decide +kernel
theorem dX2_init_58 : decode cX2_init 58 = .ok (.new 3, 3) := by decide +kernel
theorem dX2_init_61 : decode cX2_init 61 = .ok (.dup, 1) := by decide +kernel
theorem dX2_init_62 : decode cX2_init 62 = .ok (.invokespecial 30, 3) := by decide +kernel
theorem dX2_init_65 : decode cX2_init 65 = .ok (.putfield 35, 3) := by decide +kernel
theorem dX2_init_68 : decode cX2_init 68 = .ok (.aload_n 0, 1) := by decide +kernel
theorem dX2_init_69 : decode cX2_init 69 = .ok (.new 3, 3) := by decide +kernel
theorem dX2_init_72 : decode cX2_init 72 = .ok (.dup, 1) := by decide +kernel
theorem dX2_init_73 : decode cX2_init 73 = .ok (.invokespecial 30, 3) := by decide +kernel
theorem dX2_init_76 : decode cX2_init 76 = .ok (.putfield 38, 3) := by decide +kernel
theorem dX2_init_79 : decode cX2_init 79 = .ok (.aload_n 0, 1) := by decide +kernel
theorem dX2_init_80 : decode cX2_init 80 = .ok (.new 3, 3) := by decide +kernel
theorem dX2_init_83 : decode cX2_init 83 = .ok (.dup, 1) := by decide +kernel
theorem dX2_init_84 : decode cX2_init 84 = .ok (.invokespecial 30, 3) := by decide +kernel
theorem dX2_init_87 : decode cX2_init 87 = .ok (.putfield 41, 3) := by decide +kernel
theorem dX2_init_90 : decode cX2_init 90 = .ok (.aload_n 0, 1) := by decide +kernel
theorem dX2_init_91 : decode cX2_init 91 = .ok (.new 3, 3) := by decide +kernel
theorem dX2_init_94 : decode cX2_init 94 = .ok (.dup, 1) := by decide +kernel
theorem dX2_init_95 : decode cX2_init 95 = .ok (.invokespecial 30, 3) := by decide +kernel
theorem dX2_init_98 : decode cX2_init 98 = .ok (.putfield 44, 3) := by decide +kernel
theorem dX2_init_101 : decode cX2_init 101 = .ok (.aload_n 0, 1) := by decide +kernel
theorem dX2_init_102 : decode cX2_init 102 = .ok (.new 3, 3) := by decide +kernel
theorem dX2_init_105 : decode cX2_init 105 = .ok (.dup, 1) := by decide +kernel
theorem dX2_init_106 : decode cX2_init 106 = .ok (.invokespecial 30, 3) := by decide +kernel
theorem dX2_init_109 : decode cX2_init 109 = .ok (.putfield 47, 3) := by decide +kernel
theorem dX2_init_112 : decode cX2_init 112 = .ok (.aload_n 0, 1) := by decide +kernel
theorem dX2_init_113 : decode cX2_init 113 = .ok (.new 3, 3) := by decide +kernel
theorem dX2_init_116 : decode cX2_init 116 = .ok (.dup, 1) := by decide +kernel
theorem dX2_init_117 : decode cX2_init 117 = .ok (.invokespecial 30, 3) := by decide +kernel
theorem dX2_init_120 : decode cX2_init 120 = .ok (.putfield 50, 3) := by decide +kernel
theorem dX2_init_123 : decode cX2_init 123 = .ok (.aload_n 0, 1) := by decide +kernel
theorem dX2_init_124 : decode cX2_init 124 = .ok (.new 3, 3) := by decide +kernel
theorem dX2_init_127 : decode cX2_init 127 = .ok (.dup, 1) := by decide +kernel
theorem dX2_init_128 : decode cX2_init 128 = .ok (.invokespecial 30, 3) := by decide +kernel
theorem dX2_init_131 : decode cX2_init 131 = .ok (.putfield 53, 3) := by decide +kernel
theorem dX2_init_134 : decode cX2_init 134 = .ok (.return_, 1) := by decide +kernel
theorem dX3_init_0 : decode cX3_init 0 = .ok (.aload_n 0, 1) := by decide +kernel
theorem dX3_init_1 : decode cX3_init 1 = .ok (.invokespecial 3, 3) := by decide +kernel
theorem dX3_init_4 : decode cX3_init 4 = .ok (.aload_n 0, 1) := by decide +kernel
theorem dX3_init_5 : decode cX3_init 5 = .ok (.sipush 221, 3) := by decide +kernel
theorem dX3_init_8 : decode cX3_init 8 = .ok (.newarray .int, 2) := by decide +kernel
theorem dX3_init_10 : decode cX3_init 10 = .ok (.putfield 11, 3) := by decide +kernel
theorem dX3_init_13 : decode cX3_init 13 = .ok (.aload_n 0, 1) := by decide +kernel
theorem dX3_init_14 : decode cX3_init 14 = .ok (.bipush 13, 2) := by decide +kernel
theorem dX3_init_16 : decode cX3_init 16 = .ok (.newarray .boolean, 2) := by decide +kernel
theorem dX3_init_18 : decode cX3_init 18 = .ok (.putfield 15, 3) := by decide +kernel
theorem dX3_init_21 : decode cX3_init 21 = .ok (.return_, 1) := by decide +kernel
theorem dX4_init_0 : decode cX4_init 0 = .ok (.aload_n 0, 1) := by decide +kernel
theorem dX4_init_1 : decode cX4_init 1 = .ok (.invokespecial 3, 3) := by decide +kernel
theorem dX4_init_4 : decode cX4_init 4 = .ok (.aload_n 0, 1) := by decide +kernel
theorem dX4_init_5 : decode cX4_init 5 = .ok (.new 9, 3) := by decide +kernel
theorem dX4_init_8 : decode cX4_init 8 = .ok (.dup, 1) := by decide +kernel
theorem dX4_init_9 : decode cX4_init 9 = .ok (.iconst 0, 1) := by decide +kernel
theorem dX4_init_10 : decode cX4_init 10 = .ok (.invokespecial 11, 3) := by decide +kernel
theorem dX4_init_13 : decode cX4_init 13 = .ok (.putfield 14, 3) := by decide +kernel
theorem dX4_init_16 : decode cX4_init 16 = .ok (.aload_n 0, 1) := by decide +kernel
theorem dX4_init_17 : decode cX4_init 17 = .ok (.sipush 30001, 3) := by decide +kernel
theorem dX4_init_20 : decode cX4_init 20 = .ok (.newarray .int, 2) := by decide +kernel
theorem dX4_init_22 : decode cX4_init 22 = .ok (.putfield 20, 3) := by decide +kernel
theorem dX4_init_25 : decode cX4_init 25 = .ok (.return_, 1) := by decide +kernel
theorem dX5_init_0 : decode cX5_init 0 = .ok (.aload_n 0, 1) := by decide +kernel
theorem dX5_init_1 : decode cX5_init 1 = .ok (.invokespecial 3, 3) := by decide +kernel
theorem dX5_init_4 : decode cX5_init 4 = .ok (.aload_n 0, 1) := by decide +kernel
theorem dX5_init_5 : decode cX5_init 5 = .ok (.new 9, 3) := by decide +kernel
theorem dX5_init_8 : decode cX5_init 8 = .ok (.dup, 1) := by decide +kernel
theorem dX5_init_9 : decode cX5_init 9 = .ok (.sipush 1500, 3) := by decide +kernel
theorem dX5_init_12 : decode cX5_init 12 = .ok (.invokespecial 13, 3) := by decide +kernel
theorem dX5_init_15 : decode cX5_init 15 = .ok (.putfield 16, 3) := by decide +kernel
theorem dX5_init_18 : decode cX5_init 18 = .ok (.aload_n 0, 1) := by decide +kernel
theorem dX5_init_19 : decode cX5_init 19 = .ok (.new 9, 3) := by decide +kernel
theorem dX5_init_22 : decode cX5_init 22 = .ok (.dup, 1) := by decide +kernel
theorem dX5_init_23 : decode cX5_init 23 = .ok (.sipush 30000, 3) := by decide +kernel
theorem dX5_init_26 : decode cX5_init 26 = .ok (.invokespecial 13, 3) := by decide +kernel
theorem dX5_init_29 : decode cX5_init 29 = .ok (.putfield 20, 3) := by decide +kernel
theorem dX5_init_32 : decode cX5_init 32 = .ok (.aload_n 0, 1) := by decide +kernel
theorem dX5_init_33 : decode cX5_init 33 = .ok (.bipush 112, 2) := by decide +kernel
theorem dX5_init_35 : decode cX5_init 35 = .ok (.newarray .int, 2) := by decide +kernel
theorem dX5_init_37 : decode cX5_init 37 = .ok (.putfield 25, 3) := by decide +kernel
theorem dX5_init_40 : decode cX5_init 40 = .ok (.aload_n 0, 1) := by decide +kernel
theorem dX5_init_41 : decode cX5_init 41 = .ok (.new 23, 3) := by decide +kernel
theorem dX5_init_44 : decode cX5_init 44 = .ok (.dup, 1) := by decide +kernel
theorem dX5_init_45 : decode cX5_init 45 = .ok (.invokespecial 29, 3) := by decide +kernel
theorem dX5_init_48 : decode cX5_init 48 = .ok (.putfield 30, 3) := by decide +kernel
theorem dX5_init_51 : decode cX5_init 51 = .ok (.aload_n 0, 1) := by decide +kernel
theorem dX5_init_52 : decode cX5_init 52 = .ok (.new 23, 3) := by decide +kernel
theorem dX5_init_55 : decode cX5_init 55 = .ok (.dup, 1) := by decide +kernel
theorem dX5_init_56 : decode cX5_init 56 = .ok (.invokespecial 29, 3) := by decide +kernel
theorem dX5_init_59 : decode cX5_init 59 = .ok (.putfield 34, 3) := by decide +kernel
theorem dX5_init_62 : decode cX5_init 62 = .ok (.aload_n 0, 1) := by decide +kernel
theorem dX5_init_63 : decode cX5_init 63 = .ok (.new 23, 3) := by decide +kernel
theorem dX5_init_66 : decode cX5_init 66 = .ok (.dup, 1) := by decide +kernel
theorem dX5_init_67 : decode cX5_init 67 = .ok (.invokespecial 29, 3) := by decide +kernel
theorem dX5_init_70 : decode cX5_init 70 = .ok (.putfield 37, 3) := by decide +kernel
theorem dX5_init_73 : decode cX5_init 73 = .ok (.aload_n 0, 1) := by decide +kernel
theorem dX5_init_74 : decode cX5_init 74 = .ok (.new 23, 3) := by decide +kernel
theorem dX5_init_77 : decode cX5_init 77 = .ok (.dup, 1) := by decide +kernel
theorem dX5_init_78 : decode cX5_init 78 = .ok (.invokespecial 29, 3) := by decide +kernel
theorem dX5_init_81 : decode cX5_init 81 = .ok (.putfield 40, 3) := by decide +kernel
theorem dX5_init_84 : decode cX5_init 84 = .ok (.aload_n 0, 1) := by decide +kernel
theorem dX5_init_85 : decode cX5_init 85 = .ok (.new 23, 3) := by decide +kernel
theorem dX5_init_88 : decode cX5_init 88 = .ok (.dup, 1) := by decide +kernel
theorem dX5_init_89 : decode cX5_init 89 = .ok (.invokespecial 29, 3) := by decide +kernel
theorem dX5_init_92 : decode cX5_init 92 = .ok (.putfield 43, 3) := by decide +kernel
theorem dX5_init_95 : decode cX5_init 95 = .ok (.aload_n 0, 1) := by decide +kernel
theorem dX5_init_96 : decode cX5_init 96 = .ok (.new 23, 3) := by decide +kernel
theorem dX5_init_99 : decode cX5_init 99 = .ok (.dup, 1) := by decide +kernel
theorem dX5_init_100 : decode cX5_init 100 = .ok (.invokespecial 29, 3) := by decide +kernel
theorem dX5_init_103 : decode cX5_init 103 = .ok (.putfield 46, 3) := by decide +kernel
theorem dX5_init_106 : decode cX5_init 106 = .ok (.aload_n 0, 1) := by decide +kernel
theorem dX5_init_107 : decode cX5_init 107 = .ok (.new 23, 3) := by decide +kernel
theorem dX5_init_110 : decode cX5_init 110 = .ok (.dup, 1) := by decide +kernel
theorem dX5_init_111 : decode cX5_init 111 = .ok (.invokespecial 29, 3) := by decide +kernel
theorem dX5_init_114 : decode cX5_init 114 = .ok (.putfield 49, 3) := by decide +kernel
theorem dX5_init_117 : decode cX5_init 117 = .ok (.return_, 1) := by decide +kernel
theorem dX6_init_0 : decode cX6_init 0 = .ok (.aload_n 0, 1) := by decide +kernel
theorem dX6_init_1 : decode cX6_init 1 = .ok (.invokespecial 3, 3) := by decide +kernel
theorem dX6_init_4 : decode cX6_init 4 = .ok (.aload_n 0, 1) := by decide +kernel
theorem dX6_init_5 : decode cX6_init 5 = .ok (.sipush 4264, 3) := by decide +kernel
theorem dX6_init_8 : decode cX6_init 8 = .ok (.newarray .int, 2) := by decide +kernel
theorem dX6_init_10 : decode cX6_init 10 = .ok (.putfield 13, 3) := by decide +kernel
theorem dX6_init_13 : decode cX6_init 13 = .ok (.aload_n 0, 1) := by decide +kernel
theorem dX6_init_14 : decode cX6_init 14 = .ok (.sipush 328, 3) := by decide +kernel
theorem dX6_init_17 : decode cX6_init 17 = .ok (.newarray .int, 2) := by decide +kernel
theorem dX6_init_19 : decode cX6_init 19 = .ok (.putfield 17, 3) := by decide +kernel
theorem dX6_init_22 : decode cX6_init 22 = .ok (.aload_n 0, 1) := by decide +kernel
theorem dX6_init_23 : decode cX6_init 23 = .ok (.new 11, 3) := by decide +kernel
theorem dX6_init_26 : decode cX6_init 26 = .ok (.dup, 1) := by decide +kernel
theorem dX6_init_27 : decode cX6_init 27 = .ok (.invokespecial 20, 3) := by decide +kernel
theorem dX6_init_30 : decode cX6_init 30 = .ok (.putfield 21, 3) := by decide +kernel
theorem dX6_init_33 : decode cX6_init 33 = .ok (.aload_n 0, 1) := by decide +kernel
theorem dX6_init_34 : decode cX6_init 34 = .ok (.new 11, 3) := by decide +kernel
theorem dX6_init_37 : decode cX6_init 37 = .ok (.dup, 1) := by decide +kernel
theorem dX6_init_38 : decode cX6_init 38 = .ok (.invokespecial 20, 3) := by decide +kernel
theorem dX6_init_41 : decode cX6_init 41 = .ok (.putfield 25, 3) := by decide +kernel
theorem dX6_init_44 : decode cX6_init 44 = .ok (.aload_n 0, 1) := by decide +kernel
theorem dX6_init_45 : decode cX6_init 45 = .ok (.new 11, 3) := by decide +kernel
theorem dX6_init_48 : decode cX6_init 48 = .ok (.dup, 1) := by decide +kernel
theorem dX6_init_49 : decode cX6_init 49 = .ok (.invokespecial 20, 3) := by decide +kernel
theorem dX6_init_52 : decode cX6_init 52 = .ok (.putfield 28, 3) := by decide +kernel
theorem dX6_init_55 : decode cX6_init 55 = .ok (.aload_n 0, 1) := by decide +kernel
theorem dX6_init_56 : decode cX6_init 56 = .ok (.new 11, 3) := by decide +kernel
theorem dX6_init_59 : decode cX6_init 59 = .ok (.dup, 1) := by decide +kernel
theorem dX6_init_60 : decode cX6_init 60 = .ok (.invokespecial 20, 3) := by decide +kernel
theorem dX6_init_63 : decode cX6_init 63 = .ok (.putfield 31, 3) := by decide +kernel
theorem dX6_init_66 : decode cX6_init 66 = .ok (.aload_n 0, 1) := by decide +kernel
theorem dX6_init_67 : decode cX6_init 67 = .ok (.new 11, 3) := by decide +kernel
theorem dX6_init_70 : decode cX6_init 70 = .ok (.dup, 1) := by decide +kernel
theorem dX6_init_71 : decode cX6_init 71 = .ok (.invokespecial 20, 3) := by decide +kernel
theorem dX6_init_74 : decode cX6_init 74 = .ok (.putfield 34, 3) := by decide +kernel
theorem dX6_init_77 : decode cX6_init 77 = .ok (.aload_n 0, 1) := by decide +kernel
theorem dX6_init_78 : decode cX6_init 78 = .ok (.new 11, 3) := by decide +kernel
theorem dX6_init_81 : decode cX6_init 81 = .ok (.dup, 1) := by decide +kernel
theorem dX6_init_82 : decode cX6_init 82 = .ok (.invokespecial 20, 3) := by decide +kernel
theorem dX6_init_85 : decode cX6_init 85 = .ok (.putfield 37, 3) := by decide +kernel
theorem dX6_init_88 : decode cX6_init 88 = .ok (.return_, 1) := by decide +kernel
theorem dX7_init_0 : decode cX7_init 0 = .ok (.aload_n 0, 1) := by decide +kernel
theorem dX7_init_1 : decode cX7_init 1 = .ok (.invokespecial 3, 3) := by decide +kernel
theorem dX7_init_4 : decode cX7_init 4 = .ok (.aload_n 0, 1) := by decide +kernel
theorem dX7_init_5 : decode cX7_init 5 = .ok (.new 9, 3) := by decide +kernel
theorem dX7_init_8 : decode cX7_init 8 = .ok (.dup, 1) := by decide +kernel
theorem dX7_init_9 : decode cX7_init 9 = .ok (.invokespecial 11, 3) := by decide +kernel
theorem dX7_init_12 : decode cX7_init 12 = .ok (.putfield 12, 3) := by decide +kernel
theorem dX7_init_15 : decode cX7_init 15 = .ok (.aload_n 0, 1) := by decide +kernel
theorem dX7_init_16 : decode cX7_init 16 = .ok (.new 18, 3) := by decide +kernel
theorem dX7_init_19 : decode cX7_init 19 = .ok (.dup, 1) := by decide +kernel
theorem dX7_init_20 : decode cX7_init 20 = .ok (.invokespecial 20, 3) := by decide +kernel
theorem dX7_init_23 : decode cX7_init 23 = .ok (.putfield 21, 3) := by decide +kernel
theorem dX7_init_26 : decode cX7_init 26 = .ok (.aload_n 0, 1) := by decide +kernel
theorem dX7_init_27 : decode cX7_init 27 = .ok (.new 25, 3) := by decide +kernel
theorem dX7_init_30 : decode cX7_init 30 = .ok (.dup, 1) := by decide +kernel
theorem dX7_init_31 : decode cX7_init 31 = .ok (.invokespecial 27, 3) := by decide +kernel
theorem dX7_init_34 : decode cX7_init 34 = .ok (.putfield 28, 3) := by decide +kernel
theorem dX7_init_37 : decode cX7_init 37 = .ok (.aload_n 0, 1) := by decide +kernel
theorem dX7_init_38 : decode cX7_init 38 = .ok (.new 32, 3) := by decide +kernel
theorem dX7_init_41 : decode cX7_init 41 = .ok (.dup, 1) := by decide +kernel
theorem dX7_init_42 : decode cX7_init 42 = .ok (.invokespecial 34, 3) := by decide +kernel
theorem dX7_init_45 : decode cX7_init 45 = .ok (.putfield 35, 3) := by decide +kernel
theorem dX7_init_48 : decode cX7_init 48 = .ok (.aload_n 0, 1) := by decide +kernel
theorem dX7_init_49 : decode cX7_init 49 = .ok (.new 32, 3) := by decide +kernel
theorem dX7_init_52 : decode cX7_init 52 = .ok (.dup, 1) := by decide +kernel
theorem dX7_init_53 : decode cX7_init 53 = .ok (.invokespecial 34, 3) := by decide +kernel
theorem dX7_init_56 : decode cX7_init 56 = .ok (.putfield 39, 3) := by decide +kernel
theorem dX7_init_59 : decode cX7_init 59 = .ok (.aload_n 0, 1) := by decide +kernel
theorem dX7_init_60 : decode cX7_init 60 = .ok (.new 32, 3) := by decide +kernel
theorem dX7_init_63 : decode cX7_init 63 = .ok (.dup, 1) := by decide +kernel
theorem dX7_init_64 : decode cX7_init 64 = .ok (.invokespecial 34, 3) := by decide +kernel
theorem dX7_init_67 : decode cX7_init 67 = .ok (.putfield 42, 3) := by decide +kernel
theorem dX7_init_70 : decode cX7_init 70 = .ok (.aload_n 0, 1) := by decide +kernel
theorem dX7_init_71 : decode cX7_init 71 = .ok (.new 32, 3) := by decide +kernel
theorem dX7_init_74 : decode cX7_init 74 = .ok (.dup, 1) := by decide +kernel
theorem dX7_init_75 : decode cX7_init 75 = .ok (.invokespecial 34, 3) := by decide +kernel
theorem dX7_init_78 : decode cX7_init 78 = .ok (.putfield 45, 3) := by decide +kernel
theorem dX7_init_81 : decode cX7_init 81 = .ok (.aload_n 0, 1) := by decide +kernel
theorem dX7_init_82 : decode cX7_init 82 = .ok (.new 48, 3) := by decide +kernel
theorem dX7_init_85 : decode cX7_init 85 = .ok (.dup, 1) := by decide +kernel
theorem dX7_init_86 : decode cX7_init 86 = .ok (.invokespecial 50, 3) := by decide +kernel
theorem dX7_init_89 : decode cX7_init 89 = .ok (.putfield 51, 3) := by decide +kernel
theorem dX7_init_92 : decode cX7_init 92 = .ok (.return_, 1) := by decide +kernel
theorem dX8_init_0 : decode cX8_init 0 = .ok (.aload_n 0, 1) := by decide +kernel
theorem dX8_init_1 : decode cX8_init 1 = .ok (.invokespecial 3, 3) := by decide +kernel
theorem dX8_init_4 : decode cX8_init 4 = .ok (.aload_n 0, 1) := by decide +kernel
theorem dX8_init_5 : decode cX8_init 5 = .ok (.sipush 2001, 3) := by decide +kernel
theorem dX8_init_8 : decode cX8_init 8 = .ok (.newarray .int, 2) := by decide +kernel
theorem dX8_init_10 : decode cX8_init 10 = .ok (.putfield 11, 3) := by decide +kernel
theorem dX8_init_13 : decode cX8_init 13 = .ok (.aload_n 0, 1) := by decide +kernel
theorem dX8_init_14 : decode cX8_init 14 = .ok (.sipush 2001, 3) := by decide +kernel
theorem dX8_init_17 : decode cX8_init 17 = .ok (.newarray .int, 2) := by decide +kernel
theorem dX8_init_19 : decode cX8_init 19 = .ok (.putfield 15, 3) := by decide +kernel
theorem dX8_init_22 : decode cX8_init 22 = .ok (.aload_n 0, 1) := by decide +kernel
theorem dX8_init_23 : decode cX8_init 23 = .ok (.sipush 2001, 3) := by decide +kernel
theorem dX8_init_26 : decode cX8_init 26 = .ok (.newarray .long, 2) := by decide +kernel
theorem dX8_init_28 : decode cX8_init 28 = .ok (.putfield 18, 3) := by decide +kernel
theorem dX8_init_31 : decode cX8_init 31 = .ok (.return_, 1) := by decide +kernel
theorem dX9_init_0 : decode cX9_init 0 = .ok (.aload_n 0, 1) := by decide +kernel
theorem dX9_init_1 : decode cX9_init 1 = .ok (.invokespecial 5, 3) := by decide +kernel
theorem dX9_init_4 : decode cX9_init 4 = .ok (.aload_n 0, 1) := by decide +kernel
theorem dX9_init_5 : decode cX9_init 5 = .ok (.new 11, 3) := by decide +kernel
theorem dX9_init_8 : decode cX9_init 8 = .ok (.dup, 1) := by decide +kernel
theorem dX9_init_9 : decode cX9_init 9 = .ok (.invokespecial 13, 3) := by decide +kernel
theorem dX9_init_12 : decode cX9_init 12 = .ok (.putfield 14, 3) := by decide +kernel
theorem dX9_init_15 : decode cX9_init 15 = .ok (.aload_n 0, 1) := by decide +kernel
theorem dX9_init_16 : decode cX9_init 16 = .ok (.sipush 128, 3) := by decide +kernel
theorem dX9_init_19 : decode cX9_init 19 = .ok (.newarray .long, 2) := by decide +kernel
theorem dX9_init_21 : decode cX9_init 21 = .ok (.putfield 18, 3) := by decide +kernel
theorem dX9_init_24 : decode cX9_init 24 = .ok (.aload_n 0, 1) := by decide +kernel
theorem dX9_init_25 : decode cX9_init 25 = .ok (.sipush 768, 3) := by decide +kernel
theorem dX9_init_28 : decode cX9_init 28 = .ok (.newarray .int, 2) := by decide +kernel
theorem dX9_init_30 : decode cX9_init 30 = .ok (.putfield 22, 3) := by decide +kernel
theorem dX9_init_33 : decode cX9_init 33 = .ok (.aload_n 0, 1) := by decide +kernel
theorem dX9_init_34 : decode cX9_init 34 = .ok (.sipush 1728, 3) := by decide +kernel
theorem dX9_init_37 : decode cX9_init 37 = .ok (.newarray .int, 2) := by decide +kernel
theorem dX9_init_39 : decode cX9_init 39 = .ok (.putfield 26, 3) := by decide +kernel
theorem dX9_init_42 : decode cX9_init 42 = .ok (.aload_n 0, 1) := by decide +kernel
theorem dX9_init_43 : decode cX9_init 43 = .ok (.bipush 31, 2) := by decide +kernel
theorem dX9_init_45 : decode cX9_init 45 = .ok (.bipush 13, 2) := by decide +kernel
theorem dX9_init_47 : decode cX9_init 47 = .ok (.multianewarray 29 2, 4) := by decide +kernel
theorem dX9_init_51 : decode cX9_init 51 = .ok (.putfield 31, 3) := by decide +kernel
theorem dX9_init_54 : decode cX9_init 54 = .ok (.aload_n 0, 1) := by decide +kernel
theorem dX9_init_55 : decode cX9_init 55 = .ok (.bipush 31, 2) := by decide +kernel
theorem dX9_init_57 : decode cX9_init 57 = .ok (.bipush 13, 2) := by decide +kernel
theorem dX9_init_59 : decode cX9_init 59 = .ok (.multianewarray 29 2, 4) := by decide +kernel
theorem dX9_init_63 : decode cX9_init 63 = .ok (.putfield 34, 3) := by decide +kernel
theorem dX9_init_66 : decode cX9_init 66 = .ok (.aload_n 0, 1) := by decide +kernel
theorem dX9_init_67 : decode cX9_init 67 = .ok (.bipush 31, 2) := by decide +kernel
theorem dX9_init_69 : decode cX9_init 69 = .ok (.bipush 13, 2) := by decide +kernel
theorem dX9_init_71 : decode cX9_init 71 = .ok (.multianewarray 29 2, 4) := by decide +kernel
theorem dX9_init_75 : decode cX9_init 75 = .ok (.putfield 37, 3) := by decide +kernel
theorem dX9_init_78 : decode cX9_init 78 = .ok (.aload_n 0, 1) := by decide +kernel
theorem dX9_init_79 : decode cX9_init 79 = .ok (.bipush 13, 2) := by decide +kernel
theorem dX9_init_81 : decode cX9_init 81 = .ok (.newarray .long, 2) := by decide +kernel
theorem dX9_init_83 : decode cX9_init 83 = .ok (.putfield 40, 3) := by decide +kernel
theorem dX9_init_86 : decode cX9_init 86 = .ok (.aload_n 0, 1) := by decide +kernel
theorem dX9_init_87 : decode cX9_init 87 = .ok (.new 43, 3) := by decide +kernel
theorem dX9_init_90 : decode cX9_init 90 = .ok (.dup, 1) := by decide +kernel
theorem dX9_init_91 : decode cX9_init 91 = .ok (.invokespecial 45, 3) := by decide +kernel
theorem dX9_init_94 : decode cX9_init 94 = .ok (.putfield 46, 3) := by decide +kernel
theorem dX9_init_97 : decode cX9_init 97 = .ok (.return_, 1) := by decide +kernel
theorem w_232 : Cond.methodLink RX11 1 objectInit ∈ tb := tbc_1 29 (by decide +kernel) rfl
theorem w_233 : Cond.instanceMethod objectInit ∈ tb := tbc_1 30 (by decide +kernel) rfl
theorem w_234 : Cond.code objectInit ⟨#[0xb1]⟩ 1 none ∈ tb := tbc_1 31 (by decide +kernel) rfl
theorem w_235 : Cond.classLink RX11 7 RX10 ∈ tb := tbc_1 32 (by decide +kernel) rfl
theorem w_236 : Cond.instantiable RX10 3 ∈ tb := tbc_1 33 (by decide +kernel) rfl
theorem w_237 : Cond.methodLink RX11 11 yX10_init ∈ tb := tbc_1 34 (by decide +kernel) rfl
theorem w_238 : Cond.instanceMethod yX10_init ∈ tb := tbc_1 35 (by decide +kernel) rfl
theorem w_239 : Cond.code yX10_init cX10_init 2 none ∈ tb := tbc_1 36 (by decide +kernel) rfl
theorem w_240 : Cond.methodLink RX10 3 objectInit ∈ tb := tbc_1 37 (by decide +kernel) rfl
theorem w_241 : Cond.methodLink RX10 9 Lib.Math.max.name ∈ tb := tbc_1 38 (by decide +kernel) rfl
theorem w_254 : Cond.arrayClass .byte ∈ tb := tbc_1 51 (by decide +kernel) rfl
theorem w_255 : Cond.classLink RX11 21 RX3 ∈ tb := tbc_1 52 (by decide +kernel) rfl
theorem w_256 : Cond.instantiable RX3 5 ∈ tb := tbc_1 53 (by decide +kernel) rfl
theorem w_257 : Cond.methodLinkNest RX11 23 yX3_init "OptimumHouse" ∈ nst := nsc_1 54 (by decide +kernel) rfl
theorem w_258 : Cond.instanceMethod yX3_init ∈ tb := tbc_1 55 (by decide +kernel) rfl
theorem w_259 : Cond.code yX3_init cX3_init 1 none ∈ tb := tbc_1 56 (by decide +kernel) rfl
theorem w_260 : Cond.methodLink RX3 3 objectInit ∈ tb := tbc_1 57 (by decide +kernel) rfl
theorem w_294 : Cond.arrayClass .int ∈ tb := tbc_1 91 (by decide +kernel) rfl
theorem w_295 : Cond.arrayClass .boolean ∈ tb := tbc_1 92 (by decide +kernel) rfl
theorem w_296 : Cond.classLink RX11 31 RX9 ∈ tb := tbc_1 93 (by decide +kernel) rfl
theorem w_297 : Cond.instantiable RX9 17 ∈ tb := tbc_1 94 (by decide +kernel) rfl
theorem w_298 : Cond.methodLinkNest RX11 33 yX9_init "OptimumHouse" ∈ nst := nsc_1 95 (by decide +kernel) rfl
theorem w_299 : Cond.instanceMethod yX9_init ∈ tb := tbc_1 96 (by decide +kernel) rfl
theorem w_300 : Cond.code yX9_init cX9_init 1 none ∈ tb := tbc_1 97 (by decide +kernel) rfl
theorem w_301 : Cond.methodLink RX9 5 objectInit ∈ tb := tbc_1 98 (by decide +kernel) rfl
theorem w_302 : Cond.classLink RX9 11 RX8 ∈ tb := tbc_1 99 (by decide +kernel) rfl
theorem w_303 : Cond.instantiable RX8 5 ∈ tb := tbc_1 100 (by decide +kernel) rfl
theorem w_304 : Cond.methodLinkNest RX9 13 yX8_init "OptimumHouse" ∈ nst := nsc_1 101 (by decide +kernel) rfl
theorem w_305 : Cond.instanceMethod yX8_init ∈ tb := tbc_1 102 (by decide +kernel) rfl
theorem w_306 : Cond.code yX8_init cX8_init 1 none ∈ tb := tbc_1 103 (by decide +kernel) rfl
theorem w_307 : Cond.methodLink RX8 3 objectInit ∈ tb := tbc_1 104 (by decide +kernel) rfl
theorem w_324 : Cond.arrayClass .long ∈ tb := tbc_1 121 (by decide +kernel) rfl
theorem w_325 : Cond.classLink RX9 29 ("[" ++ (FieldType.array .long).toString) ∈ tb := tbc_1 122 (by decide +kernel) rfl
theorem w_327 : Cond.classLink RX9 43 RX3 ∈ tb := tbc_1 124 (by decide +kernel) rfl
theorem w_328 : Cond.methodLinkNest RX9 45 yX3_init "OptimumHouse" ∈ nst := nsc_1 125 (by decide +kernel) rfl
theorem w_381 : Cond.classLink RX11 38 RX7 ∈ tb := tbc_1 178 (by decide +kernel) rfl
theorem w_382 : Cond.instantiable RX7 17 ∈ tb := tbc_1 179 (by decide +kernel) rfl
theorem w_383 : Cond.methodLinkNest RX11 40 yX7_init "OptimumHouse" ∈ nst := nsc_1 180 (by decide +kernel) rfl
theorem w_384 : Cond.instanceMethod yX7_init ∈ tb := tbc_1 181 (by decide +kernel) rfl
theorem w_385 : Cond.code yX7_init cX7_init 1 none ∈ tb := tbc_1 182 (by decide +kernel) rfl
theorem w_386 : Cond.methodLink RX7 3 objectInit ∈ tb := tbc_1 183 (by decide +kernel) rfl
theorem w_387 : Cond.classLink RX7 9 RX6 ∈ tb := tbc_1 184 (by decide +kernel) rfl
theorem w_388 : Cond.instantiable RX6 10 ∈ tb := tbc_1 185 (by decide +kernel) rfl
theorem w_389 : Cond.methodLinkNest RX7 11 yX6_init "OptimumHouse" ∈ nst := nsc_1 186 (by decide +kernel) rfl
theorem w_390 : Cond.instanceMethod yX6_init ∈ tb := tbc_1 187 (by decide +kernel) rfl
theorem w_391 : Cond.code yX6_init cX6_init 1 none ∈ tb := tbc_1 188 (by decide +kernel) rfl
theorem w_392 : Cond.methodLink RX6 3 objectInit ∈ tb := tbc_1 189 (by decide +kernel) rfl
theorem w_393 : Cond.classLink RX6 11 RX0 ∈ tb := tbc_1 190 (by decide +kernel) rfl
theorem w_394 : Cond.instantiable RX0 3 ∈ tb := tbc_1 191 (by decide +kernel) rfl
theorem w_395 : Cond.methodLinkNest RX6 20 yX0_init "OptimumHouse" ∈ nst := nsc_1 192 (by decide +kernel) rfl
theorem w_396 : Cond.instanceMethod yX0_init ∈ tb := tbc_1 193 (by decide +kernel) rfl
theorem w_397 : Cond.code yX0_init cX0_init 1 none ∈ tb := tbc_1 194 (by decide +kernel) rfl
theorem w_398 : Cond.methodLink RX0 1 objectInit ∈ tb := tbc_1 195 (by decide +kernel) rfl
theorem w_447 : Cond.classLink RX7 18 RX2 ∈ tb := tbc_2 4 (by decide +kernel) rfl
theorem w_448 : Cond.instantiable RX2 20 ∈ tb := tbc_2 5 (by decide +kernel) rfl
theorem w_449 : Cond.methodLinkNest RX7 20 yX2_init "OptimumHouse" ∈ nst := nsc_2 6 (by decide +kernel) rfl
theorem w_450 : Cond.instanceMethod yX2_init ∈ tb := tbc_2 7 (by decide +kernel) rfl
theorem w_451 : Cond.code yX2_init cX2_init 1 none ∈ tb := tbc_2 8 (by decide +kernel) rfl
theorem w_452 : Cond.methodLink RX2 7 objectInit ∈ tb := tbc_2 9 (by decide +kernel) rfl
theorem w_453 : Cond.constant RX2 26 (iv 102220) ∈ tb := tbc_2 10 (by decide +kernel) rfl
theorem w_454 : Cond.classLink RX2 3 RX0 ∈ tb := tbc_2 11 (by decide +kernel) rfl
theorem w_455 : Cond.methodLinkNest RX2 30 yX0_init "OptimumHouse" ∈ nst := nsc_2 12 (by decide +kernel) rfl
theorem w_517 : Cond.classLink RX7 25 RX5 ∈ tb := tbc_2 74 (by decide +kernel) rfl
theorem w_518 : Cond.instantiable RX5 10 ∈ tb := tbc_2 75 (by decide +kernel) rfl
theorem w_519 : Cond.methodLinkNest RX7 27 yX5_init "OptimumHouse" ∈ nst := nsc_2 76 (by decide +kernel) rfl
theorem w_520 : Cond.instanceMethod yX5_init ∈ tb := tbc_2 77 (by decide +kernel) rfl
theorem w_521 : Cond.code yX5_init cX5_init 1 none ∈ tb := tbc_2 78 (by decide +kernel) rfl
theorem w_522 : Cond.methodLink RX5 3 objectInit ∈ tb := tbc_2 79 (by decide +kernel) rfl
theorem w_523 : Cond.classLink RX5 9 RX10 ∈ tb := tbc_2 80 (by decide +kernel) rfl
theorem w_524 : Cond.methodLink RX5 13 yX10_init ∈ tb := tbc_2 81 (by decide +kernel) rfl
theorem w_525 : Cond.classLink RX5 23 RX0 ∈ tb := tbc_2 82 (by decide +kernel) rfl
theorem w_526 : Cond.methodLinkNest RX5 29 yX0_init "OptimumHouse" ∈ nst := nsc_2 83 (by decide +kernel) rfl
theorem w_558 : Cond.classLink RX7 32 RX0 ∈ tb := tbc_2 115 (by decide +kernel) rfl
theorem w_559 : Cond.methodLinkNest RX7 34 yX0_init "OptimumHouse" ∈ nst := nsc_2 116 (by decide +kernel) rfl
theorem w_560 : Cond.classLink RX7 48 RX3 ∈ tb := tbc_2 117 (by decide +kernel) rfl
theorem w_561 : Cond.methodLinkNest RX7 50 yX3_init "OptimumHouse" ∈ nst := nsc_2 118 (by decide +kernel) rfl
theorem w_616 : Cond.classLink RX11 45 RX1 ∈ tb := tbc_2 173 (by decide +kernel) rfl
theorem w_617 : Cond.instantiable RX1 18 ∈ tb := tbc_2 174 (by decide +kernel) rfl
theorem w_618 : Cond.methodLinkNest RX11 47 yX1_init "OptimumHouse" ∈ nst := nsc_2 175 (by decide +kernel) rfl
theorem w_619 : Cond.instanceMethod yX1_init ∈ tb := tbc_2 176 (by decide +kernel) rfl
theorem w_620 : Cond.code yX1_init cX1_init 1 none ∈ tb := tbc_2 177 (by decide +kernel) rfl
theorem w_621 : Cond.methodLink RX1 3 objectInit ∈ tb := tbc_2 178 (by decide +kernel) rfl
theorem w_622 : Cond.classLink RX1 9 RX4 ∈ tb := tbc_2 179 (by decide +kernel) rfl
theorem w_623 : Cond.instantiable RX4 4 ∈ tb := tbc_2 180 (by decide +kernel) rfl
theorem w_624 : Cond.methodLinkNest RX1 11 yX4_init "OptimumHouse" ∈ nst := nsc_2 181 (by decide +kernel) rfl
theorem w_625 : Cond.instanceMethod yX4_init ∈ tb := tbc_2 182 (by decide +kernel) rfl
theorem w_626 : Cond.code yX4_init cX4_init 1 none ∈ tb := tbc_2 183 (by decide +kernel) rfl
theorem w_627 : Cond.methodLink RX4 3 objectInit ∈ tb := tbc_2 184 (by decide +kernel) rfl
theorem w_628 : Cond.classLink RX4 9 RX10 ∈ tb := tbc_2 185 (by decide +kernel) rfl
theorem w_629 : Cond.methodLink RX4 11 yX10_init ∈ tb := tbc_2 186 (by decide +kernel) rfl
theorem w_643 : Cond.classLink RX1 18 RX6 ∈ tb := tbc_2 200 (by decide +kernel) rfl
theorem w_644 : Cond.methodLinkNest RX1 20 yX6_init "OptimumHouse" ∈ nst := nsc_2 201 (by decide +kernel) rfl
theorem w_645 : Cond.classLink RX1 25 RX0 ∈ tb := tbc_2 202 (by decide +kernel) rfl
theorem w_646 : Cond.methodLinkNest RX1 31 yX0_init "OptimumHouse" ∈ nst := nsc_2 203 (by decide +kernel) rfl
theorem w_647 : Cond.classLink RX1 66 RX3 ∈ tb := tbc_2 204 (by decide +kernel) rfl
theorem w_648 : Cond.methodLinkNest RX1 68 yX3_init "OptimumHouse" ∈ nst := nsc_2 205 (by decide +kernel) rfl
theorem w_1957 : Cond.methodLink RX12 3 objectInit ∈ tb := tbc_8 74 (by decide +kernel) rfl
theorem w_1958 : Cond.constant RX12 118 (iv 216480) ∈ tb := tbc_8 75 (by decide +kernel) rfl
theorem w_1959 : Cond.constant RX12 143 (iv 34000) ∈ tb := tbc_8 76 (by decide +kernel) rfl
theorem w_1960 : Cond.constant RX12 147 (iv 36000) ∈ tb := tbc_8 77 (by decide +kernel) rfl
section RW87
variable {p : Program} {l : Launch} {e : Env} {R : Room} {s : State} {m : MethodId} {args : Array Value} {below : List Frame} {meth : Method} {c : Code} {H : Heap} {locs : List Loc} {cells slots : Nat} {Q : State → Prop}
variable {cc : ByteArray} {pc nL : Nat} {ls : Array Slot} {rest st0 : List Value} {G : sG} {n : Nat} {S : sS}
theorem n_X11_7 (Cx : sC G p m c cc nL s args RX11) (hW : sW G n S H) (ht : tau n = .inl 10) (hcells : cells + 1 ≤ R.cells) (hslots : slots + 3 ≤ R.slots) (hdg : decode cc pc = .ok (.new 7, 3)) (kk : ∀ H1 : Heap, sW G (n + 1) S H1 → W p l e R s m args below meth c H1 locs (cells + 1) (slots + 3) Q (F0 m (pc + 3) ls (.ref (G.2.2.1 + n) :: rest))) : W p l e R s m args below meth c H locs cells slots Q (F0 m pc ls rest) :=
  sNew (ci := 10) Cx inX10 tyX10_ok rfl w_235 w_236 w_205 hW ht (by decide) hcells hslots hdg kk
theorem c_X11_11 (Cx : sC G p m c cc nL s args RX11) {rm : Room} {mc ms : Nat} (h1 : rm.cells = mc) (h2 : rm.slots = ms) (h3 : rm.frames + 1 ≤ R.frames ∧ 8 + (2 + 11) + rm.locals ≤ R.locals) : CallB R s args RX11 11 yX10_init cX10_init 2 none (.code yX10_init cX10_init 2 none :: tb) rm mc ms 1 ∧ yX10_init.name = "<init>" ∧ (Cond.instanceMethod yX10_init).before args s = true :=
  sCI Cx 1 w_237 w_238 w_205 w_239 rfl (by decide +kernel) h1 h2 h3
theorem p_X10_15 (Cx : sC G p m c cc nL s args RX10) (hin2 : meth.name = "<init>") (hW : sW G n S H) (hL : sL G locs) {k : Nat} (hk : k < n) (ht : tau k = .inl 10) {v : Nat} (hdg : decode cc pc = .ok (.putfield 15, 3)) (kk : ∀ (H1 : Heap) (locs1 : List Loc), sW G n (uR S k 0 (.ref v)) H1 → sL G locs1 → W p l e R s m args below meth c H1 locs1 cells slots Q (F0 m (pc + 3) ls rest)) : W p l e R s m args below meth c H locs cells slots Q (F0 m pc ls (.ref v :: .ref (G.2.2.1 + k) :: rest)) :=
  sPutF Cx inX10 tyX10 tyX10_ok nmX10 rfl 0 (by decide) w_244 rfl rfl hin2 hW hL hk ht rfl rfl (fun _ h => uR_same h) (fun _ h => uR_off h) uR_on hdg kk
theorem p_X11_14 (Cx : sC G p m c cc nL s args RX11) (hin2 : meth.name = "<init>") (hW : sW G n S H) (hL : sL G locs) {k : Nat} (hk : k < n) (ht : tau k = .inl 11) {v : Nat} (hdg : decode cc pc = .ok (.putfield 14, 3)) (kk : ∀ (H1 : Heap) (locs1 : List Loc), sW G n (uR S k 0 (.ref v)) H1 → sL G locs1 → W p l e R s m args below meth c H1 locs1 cells slots Q (F0 m (pc + 3) ls rest)) : W p l e R s m args below meth c H locs cells slots Q (F0 m pc ls (.ref v :: .ref (G.2.2.1 + k) :: rest)) :=
  sPutF Cx inX11 tyX11 tyX11_ok nmX11 rfl 0 (by decide) w_704 rfl rfl hin2 hW hL hk ht rfl rfl (fun _ h => uR_same h) (fun _ h => uR_off h) uR_on hdg kk
theorem p_X11_18 (Cx : sC G p m c cc nL s args RX11) (hin2 : meth.name = "<init>") (hW : sW G n S H) (hL : sL G locs) {k : Nat} (hk : k < n) (ht : tau k = .inl 11) {v : Nat} (hdg : decode cc pc = .ok (.putfield 18, 3)) (kk : ∀ (H1 : Heap) (locs1 : List Loc), sW G n (uR S k 1 (.ref v)) H1 → sL G locs1 → W p l e R s m args below meth c H1 locs1 cells slots Q (F0 m (pc + 3) ls rest)) : W p l e R s m args below meth c H locs cells slots Q (F0 m pc ls (.ref v :: .ref (G.2.2.1 + k) :: rest)) :=
  sPutF Cx inX11 tyX11 tyX11_ok nmX11 rfl 1 (by decide) w_705 rfl rfl hin2 hW hL hk ht rfl rfl (fun _ h => uR_same h) (fun _ h => uR_off h) uR_on hdg kk
theorem n_X11_21 (Cx : sC G p m c cc nL s args RX11) (hW : sW G n S H) (ht : tau n = .inl 3) (hcells : cells + 1 ≤ R.cells) (hslots : slots + 5 ≤ R.slots) (hdg : decode cc pc = .ok (.new 21, 3)) (kk : ∀ H1 : Heap, sW G (n + 1) S H1 → W p l e R s m args below meth c H1 locs (cells + 1) (slots + 5) Q (F0 m (pc + 3) ls (.ref (G.2.2.1 + n) :: rest))) : W p l e R s m args below meth c H locs cells slots Q (F0 m pc ls rest) :=
  sNew (ci := 3) Cx inX3 tyX3_ok rfl w_255 w_256 w_207 hW ht (by decide) hcells hslots hdg kk
theorem c_X11_23 (Cx : sC G p m c cc nL s args RX11) {rm : Room} {mc ms : Nat} (h1 : rm.cells = mc) (h2 : rm.slots = ms) (h3 : rm.frames + 1 ≤ R.frames ∧ 8 + (1 + 11) + rm.locals ≤ R.locals) : va_CN R s args RX11 23 yX3_init "OptimumHouse" cX3_init 1 none (.code yX3_init cX3_init 1 none :: tb) rm mc ms 0 ∧ yX3_init.name = "<init>" ∧ (Cond.instanceMethod yX3_init).before args s = true :=
  ⟨sCN Cx 0 w_257 w_207 w_259 (by decide +kernel) h1 h2 h3, rfl, Cx.1.2.2.2.2 _ w_258⟩
theorem p_X3_11 (Cx : sC G p m c cc nL s args RX3) (hin2 : meth.name = "<init>") (hW : sW G n S H) (hL : sL G locs) {k : Nat} (hk : k < n) (ht : tau k = .inl 3) {v : Nat} (hdg : decode cc pc = .ok (.putfield 11, 3)) (kk : ∀ (H1 : Heap) (locs1 : List Loc), sW G n (uR S k 0 (.ref v)) H1 → sL G locs1 → W p l e R s m args below meth c H1 locs1 cells slots Q (F0 m (pc + 3) ls rest)) : W p l e R s m args below meth c H locs cells slots Q (F0 m pc ls (.ref v :: .ref (G.2.2.1 + k) :: rest)) :=
  sPutF Cx inX3 tyX3 tyX3_ok nmX3 rfl 0 (by decide) w_261 rfl rfl hin2 hW hL hk ht rfl rfl (fun _ h => uR_same h) (fun _ h => uR_off h) uR_on hdg kk
theorem p_X3_15 (Cx : sC G p m c cc nL s args RX3) (hin2 : meth.name = "<init>") (hW : sW G n S H) (hL : sL G locs) {k : Nat} (hk : k < n) (ht : tau k = .inl 3) {v : Nat} (hdg : decode cc pc = .ok (.putfield 15, 3)) (kk : ∀ (H1 : Heap) (locs1 : List Loc), sW G n (uR S k 1 (.ref v)) H1 → sL G locs1 → W p l e R s m args below meth c H1 locs1 cells slots Q (F0 m (pc + 3) ls rest)) : W p l e R s m args below meth c H locs cells slots Q (F0 m pc ls (.ref v :: .ref (G.2.2.1 + k) :: rest)) :=
  sPutF Cx inX3 tyX3 tyX3_ok nmX3 rfl 1 (by decide) w_262 rfl rfl hin2 hW hL hk ht rfl rfl (fun _ h => uR_same h) (fun _ h => uR_off h) uR_on hdg kk
theorem n_X11_31 (Cx : sC G p m c cc nL s args RX11) (hW : sW G n S H) (ht : tau n = .inl 9) (hcells : cells + 1 ≤ R.cells) (hslots : slots + 17 ≤ R.slots) (hdg : decode cc pc = .ok (.new 31, 3)) (kk : ∀ H1 : Heap, sW G (n + 1) S H1 → W p l e R s m args below meth c H1 locs (cells + 1) (slots + 17) Q (F0 m (pc + 3) ls (.ref (G.2.2.1 + n) :: rest))) : W p l e R s m args below meth c H locs cells slots Q (F0 m pc ls rest) :=
  sNew (ci := 9) Cx inX9 tyX9_ok rfl w_296 w_297 w_208 hW ht (by decide) hcells hslots hdg kk
theorem c_X11_33 (Cx : sC G p m c cc nL s args RX11) {rm : Room} {mc ms : Nat} (h1 : rm.cells = mc) (h2 : rm.slots = ms) (h3 : rm.frames + 1 ≤ R.frames ∧ 8 + (1 + 11) + rm.locals ≤ R.locals) : va_CN R s args RX11 33 yX9_init "OptimumHouse" cX9_init 1 none (.code yX9_init cX9_init 1 none :: tb) rm mc ms 0 ∧ yX9_init.name = "<init>" ∧ (Cond.instanceMethod yX9_init).before args s = true :=
  ⟨sCN Cx 0 w_298 w_208 w_300 (by decide +kernel) h1 h2 h3, rfl, Cx.1.2.2.2.2 _ w_299⟩
theorem n_X9_11 (Cx : sC G p m c cc nL s args RX9) (hW : sW G n S H) (ht : tau n = .inl 8) (hcells : cells + 1 ≤ R.cells) (hslots : slots + 5 ≤ R.slots) (hdg : decode cc pc = .ok (.new 11, 3)) (kk : ∀ H1 : Heap, sW G (n + 1) S H1 → W p l e R s m args below meth c H1 locs (cells + 1) (slots + 5) Q (F0 m (pc + 3) ls (.ref (G.2.2.1 + n) :: rest))) : W p l e R s m args below meth c H locs cells slots Q (F0 m pc ls rest) :=
  sNew (ci := 8) Cx inX8 tyX8_ok rfl w_302 w_303 w_209 hW ht (by decide) hcells hslots hdg kk
theorem c_X9_13 (Cx : sC G p m c cc nL s args RX9) {rm : Room} {mc ms : Nat} (h1 : rm.cells = mc) (h2 : rm.slots = ms) (h3 : rm.frames + 1 ≤ R.frames ∧ 8 + (1 + 11) + rm.locals ≤ R.locals) : va_CN R s args RX9 13 yX8_init "OptimumHouse" cX8_init 1 none (.code yX8_init cX8_init 1 none :: tb) rm mc ms 0 ∧ yX8_init.name = "<init>" ∧ (Cond.instanceMethod yX8_init).before args s = true :=
  ⟨sCN Cx 0 w_304 w_209 w_306 (by decide +kernel) h1 h2 h3, rfl, Cx.1.2.2.2.2 _ w_305⟩
theorem p_X8_11 (Cx : sC G p m c cc nL s args RX8) (hin2 : meth.name = "<init>") (hW : sW G n S H) (hL : sL G locs) {k : Nat} (hk : k < n) (ht : tau k = .inl 8) {v : Nat} (hdg : decode cc pc = .ok (.putfield 11, 3)) (kk : ∀ (H1 : Heap) (locs1 : List Loc), sW G n (uR S k 0 (.ref v)) H1 → sL G locs1 → W p l e R s m args below meth c H1 locs1 cells slots Q (F0 m (pc + 3) ls rest)) : W p l e R s m args below meth c H locs cells slots Q (F0 m pc ls (.ref v :: .ref (G.2.2.1 + k) :: rest)) :=
  sPutF Cx inX8 tyX8 tyX8_ok nmX8 rfl 0 (by decide) w_308 rfl rfl hin2 hW hL hk ht rfl rfl (fun _ h => uR_same h) (fun _ h => uR_off h) uR_on hdg kk
theorem p_X8_15 (Cx : sC G p m c cc nL s args RX8) (hin2 : meth.name = "<init>") (hW : sW G n S H) (hL : sL G locs) {k : Nat} (hk : k < n) (ht : tau k = .inl 8) {v : Nat} (hdg : decode cc pc = .ok (.putfield 15, 3)) (kk : ∀ (H1 : Heap) (locs1 : List Loc), sW G n (uR S k 1 (.ref v)) H1 → sL G locs1 → W p l e R s m args below meth c H1 locs1 cells slots Q (F0 m (pc + 3) ls rest)) : W p l e R s m args below meth c H locs cells slots Q (F0 m pc ls (.ref v :: .ref (G.2.2.1 + k) :: rest)) :=
  sPutF Cx inX8 tyX8 tyX8_ok nmX8 rfl 1 (by decide) w_309 rfl rfl hin2 hW hL hk ht rfl rfl (fun _ h => uR_same h) (fun _ h => uR_off h) uR_on hdg kk
theorem p_X8_18 (Cx : sC G p m c cc nL s args RX8) (hin2 : meth.name = "<init>") (hW : sW G n S H) (hL : sL G locs) {k : Nat} (hk : k < n) (ht : tau k = .inl 8) {v : Nat} (hdg : decode cc pc = .ok (.putfield 18, 3)) (kk : ∀ (H1 : Heap) (locs1 : List Loc), sW G n (uR S k 2 (.ref v)) H1 → sL G locs1 → W p l e R s m args below meth c H1 locs1 cells slots Q (F0 m (pc + 3) ls rest)) : W p l e R s m args below meth c H locs cells slots Q (F0 m pc ls (.ref v :: .ref (G.2.2.1 + k) :: rest)) :=
  sPutF Cx inX8 tyX8 tyX8_ok nmX8 rfl 2 (by decide) w_310 rfl rfl hin2 hW hL hk ht rfl rfl (fun _ h => uR_same h) (fun _ h => uR_off h) uR_on hdg kk
theorem p_X9_14 (Cx : sC G p m c cc nL s args RX9) (hin2 : meth.name = "<init>") (hW : sW G n S H) (hL : sL G locs) {k : Nat} (hk : k < n) (ht : tau k = .inl 9) {v : Nat} (hdg : decode cc pc = .ok (.putfield 14, 3)) (kk : ∀ (H1 : Heap) (locs1 : List Loc), sW G n (uR S k 0 (.ref v)) H1 → sL G locs1 → W p l e R s m args below meth c H1 locs1 cells slots Q (F0 m (pc + 3) ls rest)) : W p l e R s m args below meth c H locs cells slots Q (F0 m pc ls (.ref v :: .ref (G.2.2.1 + k) :: rest)) :=
  sPutF Cx inX9 tyX9 tyX9_ok nmX9 rfl 0 (by decide) w_329 rfl rfl hin2 hW hL hk ht rfl rfl (fun _ h => uR_same h) (fun _ h => uR_off h) uR_on hdg kk
theorem p_X9_18 (Cx : sC G p m c cc nL s args RX9) (hin2 : meth.name = "<init>") (hW : sW G n S H) (hL : sL G locs) {k : Nat} (hk : k < n) (ht : tau k = .inl 9) {v : Nat} (hdg : decode cc pc = .ok (.putfield 18, 3)) (kk : ∀ (H1 : Heap) (locs1 : List Loc), sW G n (uR S k 1 (.ref v)) H1 → sL G locs1 → W p l e R s m args below meth c H1 locs1 cells slots Q (F0 m (pc + 3) ls rest)) : W p l e R s m args below meth c H locs cells slots Q (F0 m pc ls (.ref v :: .ref (G.2.2.1 + k) :: rest)) :=
  sPutF Cx inX9 tyX9 tyX9_ok nmX9 rfl 1 (by decide) w_330 rfl rfl hin2 hW hL hk ht rfl rfl (fun _ h => uR_same h) (fun _ h => uR_off h) uR_on hdg kk
theorem p_X9_22 (Cx : sC G p m c cc nL s args RX9) (hin2 : meth.name = "<init>") (hW : sW G n S H) (hL : sL G locs) {k : Nat} (hk : k < n) (ht : tau k = .inl 9) {v : Nat} (hdg : decode cc pc = .ok (.putfield 22, 3)) (kk : ∀ (H1 : Heap) (locs1 : List Loc), sW G n (uR S k 2 (.ref v)) H1 → sL G locs1 → W p l e R s m args below meth c H1 locs1 cells slots Q (F0 m (pc + 3) ls rest)) : W p l e R s m args below meth c H locs cells slots Q (F0 m pc ls (.ref v :: .ref (G.2.2.1 + k) :: rest)) :=
  sPutF Cx inX9 tyX9 tyX9_ok nmX9 rfl 2 (by decide) w_331 rfl rfl hin2 hW hL hk ht rfl rfl (fun _ h => uR_same h) (fun _ h => uR_off h) uR_on hdg kk
theorem p_X9_26 (Cx : sC G p m c cc nL s args RX9) (hin2 : meth.name = "<init>") (hW : sW G n S H) (hL : sL G locs) {k : Nat} (hk : k < n) (ht : tau k = .inl 9) {v : Nat} (hdg : decode cc pc = .ok (.putfield 26, 3)) (kk : ∀ (H1 : Heap) (locs1 : List Loc), sW G n (uR S k 3 (.ref v)) H1 → sL G locs1 → W p l e R s m args below meth c H1 locs1 cells slots Q (F0 m (pc + 3) ls rest)) : W p l e R s m args below meth c H locs cells slots Q (F0 m pc ls (.ref v :: .ref (G.2.2.1 + k) :: rest)) :=
  sPutF Cx inX9 tyX9 tyX9_ok nmX9 rfl 3 (by decide) w_332 rfl rfl hin2 hW hL hk ht rfl rfl (fun _ h => uR_same h) (fun _ h => uR_off h) uR_on hdg kk
theorem p_X9_31 (Cx : sC G p m c cc nL s args RX9) (hin2 : meth.name = "<init>") (hW : sW G n S H) (hL : sL G locs) {k : Nat} (hk : k < n) (ht : tau k = .inl 9) {v : Nat} (hdg : decode cc pc = .ok (.putfield 31, 3)) (kk : ∀ (H1 : Heap) (locs1 : List Loc), sW G n (uR S k 4 (.ref v)) H1 → sL G locs1 → W p l e R s m args below meth c H1 locs1 cells slots Q (F0 m (pc + 3) ls rest)) : W p l e R s m args below meth c H locs cells slots Q (F0 m pc ls (.ref v :: .ref (G.2.2.1 + k) :: rest)) :=
  sPutF Cx inX9 tyX9 tyX9_ok nmX9 rfl 4 (by decide) w_333 rfl rfl hin2 hW hL hk ht rfl rfl (fun _ h => uR_same h) (fun _ h => uR_off h) uR_on hdg kk
theorem p_X9_34 (Cx : sC G p m c cc nL s args RX9) (hin2 : meth.name = "<init>") (hW : sW G n S H) (hL : sL G locs) {k : Nat} (hk : k < n) (ht : tau k = .inl 9) {v : Nat} (hdg : decode cc pc = .ok (.putfield 34, 3)) (kk : ∀ (H1 : Heap) (locs1 : List Loc), sW G n (uR S k 5 (.ref v)) H1 → sL G locs1 → W p l e R s m args below meth c H1 locs1 cells slots Q (F0 m (pc + 3) ls rest)) : W p l e R s m args below meth c H locs cells slots Q (F0 m pc ls (.ref v :: .ref (G.2.2.1 + k) :: rest)) :=
  sPutF Cx inX9 tyX9 tyX9_ok nmX9 rfl 5 (by decide) w_334 rfl rfl hin2 hW hL hk ht rfl rfl (fun _ h => uR_same h) (fun _ h => uR_off h) uR_on hdg kk
theorem p_X9_37 (Cx : sC G p m c cc nL s args RX9) (hin2 : meth.name = "<init>") (hW : sW G n S H) (hL : sL G locs) {k : Nat} (hk : k < n) (ht : tau k = .inl 9) {v : Nat} (hdg : decode cc pc = .ok (.putfield 37, 3)) (kk : ∀ (H1 : Heap) (locs1 : List Loc), sW G n (uR S k 6 (.ref v)) H1 → sL G locs1 → W p l e R s m args below meth c H1 locs1 cells slots Q (F0 m (pc + 3) ls rest)) : W p l e R s m args below meth c H locs cells slots Q (F0 m pc ls (.ref v :: .ref (G.2.2.1 + k) :: rest)) :=
  sPutF Cx inX9 tyX9 tyX9_ok nmX9 rfl 6 (by decide) w_335 rfl rfl hin2 hW hL hk ht rfl rfl (fun _ h => uR_same h) (fun _ h => uR_off h) uR_on hdg kk
theorem p_X9_40 (Cx : sC G p m c cc nL s args RX9) (hin2 : meth.name = "<init>") (hW : sW G n S H) (hL : sL G locs) {k : Nat} (hk : k < n) (ht : tau k = .inl 9) {v : Nat} (hdg : decode cc pc = .ok (.putfield 40, 3)) (kk : ∀ (H1 : Heap) (locs1 : List Loc), sW G n (uR S k 7 (.ref v)) H1 → sL G locs1 → W p l e R s m args below meth c H1 locs1 cells slots Q (F0 m (pc + 3) ls rest)) : W p l e R s m args below meth c H locs cells slots Q (F0 m pc ls (.ref v :: .ref (G.2.2.1 + k) :: rest)) :=
  sPutF Cx inX9 tyX9 tyX9_ok nmX9 rfl 7 (by decide) w_336 rfl rfl hin2 hW hL hk ht rfl rfl (fun _ h => uR_same h) (fun _ h => uR_off h) uR_on hdg kk
theorem n_X9_43 (Cx : sC G p m c cc nL s args RX9) (hW : sW G n S H) (ht : tau n = .inl 3) (hcells : cells + 1 ≤ R.cells) (hslots : slots + 5 ≤ R.slots) (hdg : decode cc pc = .ok (.new 43, 3)) (kk : ∀ H1 : Heap, sW G (n + 1) S H1 → W p l e R s m args below meth c H1 locs (cells + 1) (slots + 5) Q (F0 m (pc + 3) ls (.ref (G.2.2.1 + n) :: rest))) : W p l e R s m args below meth c H locs cells slots Q (F0 m pc ls rest) :=
  sNew (ci := 3) Cx inX3 tyX3_ok rfl w_327 w_256 w_207 hW ht (by decide) hcells hslots hdg kk
theorem c_X9_45 (Cx : sC G p m c cc nL s args RX9) {rm : Room} {mc ms : Nat} (h1 : rm.cells = mc) (h2 : rm.slots = ms) (h3 : rm.frames + 1 ≤ R.frames ∧ 8 + (1 + 11) + rm.locals ≤ R.locals) : va_CN R s args RX9 45 yX3_init "OptimumHouse" cX3_init 1 none (.code yX3_init cX3_init 1 none :: tb) rm mc ms 0 ∧ yX3_init.name = "<init>" ∧ (Cond.instanceMethod yX3_init).before args s = true :=
  ⟨sCN Cx 0 w_328 w_207 w_259 (by decide +kernel) h1 h2 h3, rfl, Cx.1.2.2.2.2 _ w_258⟩
theorem p_X11_34 (Cx : sC G p m c cc nL s args RX11) (hin2 : meth.name = "<init>") (hW : sW G n S H) (hL : sL G locs) {k : Nat} (hk : k < n) (ht : tau k = .inl 11) {v : Nat} (hdg : decode cc pc = .ok (.putfield 34, 3)) (kk : ∀ (H1 : Heap) (locs1 : List Loc), sW G n (uR S k 2 (.ref v)) H1 → sL G locs1 → W p l e R s m args below meth c H1 locs1 cells slots Q (F0 m (pc + 3) ls rest)) : W p l e R s m args below meth c H locs cells slots Q (F0 m pc ls (.ref v :: .ref (G.2.2.1 + k) :: rest)) :=
  sPutF Cx inX11 tyX11 tyX11_ok nmX11 rfl 2 (by decide) w_706 rfl rfl hin2 hW hL hk ht rfl rfl (fun _ h => uR_same h) (fun _ h => uR_off h) uR_on hdg kk
theorem n_X11_38 (Cx : sC G p m c cc nL s args RX11) (hW : sW G n S H) (ht : tau n = .inl 7) (hcells : cells + 1 ≤ R.cells) (hslots : slots + 17 ≤ R.slots) (hdg : decode cc pc = .ok (.new 38, 3)) (kk : ∀ H1 : Heap, sW G (n + 1) S H1 → W p l e R s m args below meth c H1 locs (cells + 1) (slots + 17) Q (F0 m (pc + 3) ls (.ref (G.2.2.1 + n) :: rest))) : W p l e R s m args below meth c H locs cells slots Q (F0 m pc ls rest) :=
  sNew (ci := 7) Cx inX7 tyX7_ok rfl w_381 w_382 w_210 hW ht (by decide) hcells hslots hdg kk
theorem c_X11_40 (Cx : sC G p m c cc nL s args RX11) {rm : Room} {mc ms : Nat} (h1 : rm.cells = mc) (h2 : rm.slots = ms) (h3 : rm.frames + 1 ≤ R.frames ∧ 8 + (1 + 11) + rm.locals ≤ R.locals) : va_CN R s args RX11 40 yX7_init "OptimumHouse" cX7_init 1 none (.code yX7_init cX7_init 1 none :: tb) rm mc ms 0 ∧ yX7_init.name = "<init>" ∧ (Cond.instanceMethod yX7_init).before args s = true :=
  ⟨sCN Cx 0 w_383 w_210 w_385 (by decide +kernel) h1 h2 h3, rfl, Cx.1.2.2.2.2 _ w_384⟩
theorem n_X7_9 (Cx : sC G p m c cc nL s args RX7) (hW : sW G n S H) (ht : tau n = .inl 6) (hcells : cells + 1 ≤ R.cells) (hslots : slots + 10 ≤ R.slots) (hdg : decode cc pc = .ok (.new 9, 3)) (kk : ∀ H1 : Heap, sW G (n + 1) S H1 → W p l e R s m args below meth c H1 locs (cells + 1) (slots + 10) Q (F0 m (pc + 3) ls (.ref (G.2.2.1 + n) :: rest))) : W p l e R s m args below meth c H locs cells slots Q (F0 m pc ls rest) :=
  sNew (ci := 6) Cx inX6 tyX6_ok rfl w_387 w_388 w_211 hW ht (by decide) hcells hslots hdg kk
theorem c_X7_11 (Cx : sC G p m c cc nL s args RX7) {rm : Room} {mc ms : Nat} (h1 : rm.cells = mc) (h2 : rm.slots = ms) (h3 : rm.frames + 1 ≤ R.frames ∧ 8 + (1 + 11) + rm.locals ≤ R.locals) : va_CN R s args RX7 11 yX6_init "OptimumHouse" cX6_init 1 none (.code yX6_init cX6_init 1 none :: tb) rm mc ms 0 ∧ yX6_init.name = "<init>" ∧ (Cond.instanceMethod yX6_init).before args s = true :=
  ⟨sCN Cx 0 w_389 w_211 w_391 (by decide +kernel) h1 h2 h3, rfl, Cx.1.2.2.2.2 _ w_390⟩
theorem p_X6_13 (Cx : sC G p m c cc nL s args RX6) (hin2 : meth.name = "<init>") (hW : sW G n S H) (hL : sL G locs) {k : Nat} (hk : k < n) (ht : tau k = .inl 6) {v : Nat} (hdg : decode cc pc = .ok (.putfield 13, 3)) (kk : ∀ (H1 : Heap) (locs1 : List Loc), sW G n (uR S k 0 (.ref v)) H1 → sL G locs1 → W p l e R s m args below meth c H1 locs1 cells slots Q (F0 m (pc + 3) ls rest)) : W p l e R s m args below meth c H locs cells slots Q (F0 m pc ls (.ref v :: .ref (G.2.2.1 + k) :: rest)) :=
  sPutF Cx inX6 tyX6 tyX6_ok nmX6 rfl 0 (by decide) w_416 rfl rfl hin2 hW hL hk ht rfl rfl (fun _ h => uR_same h) (fun _ h => uR_off h) uR_on hdg kk
theorem p_X6_17 (Cx : sC G p m c cc nL s args RX6) (hin2 : meth.name = "<init>") (hW : sW G n S H) (hL : sL G locs) {k : Nat} (hk : k < n) (ht : tau k = .inl 6) {v : Nat} (hdg : decode cc pc = .ok (.putfield 17, 3)) (kk : ∀ (H1 : Heap) (locs1 : List Loc), sW G n (uR S k 1 (.ref v)) H1 → sL G locs1 → W p l e R s m args below meth c H1 locs1 cells slots Q (F0 m (pc + 3) ls rest)) : W p l e R s m args below meth c H locs cells slots Q (F0 m pc ls (.ref v :: .ref (G.2.2.1 + k) :: rest)) :=
  sPutF Cx inX6 tyX6 tyX6_ok nmX6 rfl 1 (by decide) w_417 rfl rfl hin2 hW hL hk ht rfl rfl (fun _ h => uR_same h) (fun _ h => uR_off h) uR_on hdg kk
theorem n_X6_11 (Cx : sC G p m c cc nL s args RX6) (hW : sW G n S H) (ht : tau n = .inl 0) (hcells : cells + 1 ≤ R.cells) (hslots : slots + 3 ≤ R.slots) (hdg : decode cc pc = .ok (.new 11, 3)) (kk : ∀ H1 : Heap, sW G (n + 1) S H1 → W p l e R s m args below meth c H1 locs (cells + 1) (slots + 3) Q (F0 m (pc + 3) ls (.ref (G.2.2.1 + n) :: rest))) : W p l e R s m args below meth c H locs cells slots Q (F0 m pc ls rest) :=
  sNew (ci := 0) Cx inX0 tyX0_ok rfl w_393 w_394 w_212 hW ht (by decide) hcells hslots hdg kk
theorem c_X6_20 (Cx : sC G p m c cc nL s args RX6) {rm : Room} {mc ms : Nat} (h1 : rm.cells = mc) (h2 : rm.slots = ms) (h3 : rm.frames + 1 ≤ R.frames ∧ 8 + (1 + 11) + rm.locals ≤ R.locals) : va_CN R s args RX6 20 yX0_init "OptimumHouse" cX0_init 1 none (.code yX0_init cX0_init 1 none :: tb) rm mc ms 0 ∧ yX0_init.name = "<init>" ∧ (Cond.instanceMethod yX0_init).before args s = true :=
  ⟨sCN Cx 0 w_395 w_212 w_397 (by decide +kernel) h1 h2 h3, rfl, Cx.1.2.2.2.2 _ w_396⟩
theorem p_X0_9 (Cx : sC G p m c cc nL s args RX0) (hin2 : meth.name = "<init>") (hW : sW G n S H) (hL : sL G locs) {k : Nat} (hk : k < n) (ht : tau k = .inl 0) {v : Nat} (hdg : decode cc pc = .ok (.putfield 9, 3)) (kk : ∀ (H1 : Heap) (locs1 : List Loc), sW G n (uR S k 0 (.ref v)) H1 → sL G locs1 → W p l e R s m args below meth c H1 locs1 cells slots Q (F0 m (pc + 3) ls rest)) : W p l e R s m args below meth c H locs cells slots Q (F0 m pc ls (.ref v :: .ref (G.2.2.1 + k) :: rest)) :=
  sPutF Cx inX0 tyX0 tyX0_ok nmX0 rfl 0 (by decide) w_399 rfl rfl hin2 hW hL hk ht rfl rfl (fun _ h => uR_same h) (fun _ h => uR_off h) uR_on hdg kk
theorem p_X6_21 (Cx : sC G p m c cc nL s args RX6) (hin2 : meth.name = "<init>") (hW : sW G n S H) (hL : sL G locs) {k : Nat} (hk : k < n) (ht : tau k = .inl 6) {v : Nat} (hdg : decode cc pc = .ok (.putfield 21, 3)) (kk : ∀ (H1 : Heap) (locs1 : List Loc), sW G n (uR S k 2 (.ref v)) H1 → sL G locs1 → W p l e R s m args below meth c H1 locs1 cells slots Q (F0 m (pc + 3) ls rest)) : W p l e R s m args below meth c H locs cells slots Q (F0 m pc ls (.ref v :: .ref (G.2.2.1 + k) :: rest)) :=
  sPutF Cx inX6 tyX6 tyX6_ok nmX6 rfl 2 (by decide) w_418 rfl rfl hin2 hW hL hk ht rfl rfl (fun _ h => uR_same h) (fun _ h => uR_off h) uR_on hdg kk
theorem p_X6_25 (Cx : sC G p m c cc nL s args RX6) (hin2 : meth.name = "<init>") (hW : sW G n S H) (hL : sL G locs) {k : Nat} (hk : k < n) (ht : tau k = .inl 6) {v : Nat} (hdg : decode cc pc = .ok (.putfield 25, 3)) (kk : ∀ (H1 : Heap) (locs1 : List Loc), sW G n (uR S k 3 (.ref v)) H1 → sL G locs1 → W p l e R s m args below meth c H1 locs1 cells slots Q (F0 m (pc + 3) ls rest)) : W p l e R s m args below meth c H locs cells slots Q (F0 m pc ls (.ref v :: .ref (G.2.2.1 + k) :: rest)) :=
  sPutF Cx inX6 tyX6 tyX6_ok nmX6 rfl 3 (by decide) w_419 rfl rfl hin2 hW hL hk ht rfl rfl (fun _ h => uR_same h) (fun _ h => uR_off h) uR_on hdg kk
theorem p_X6_28 (Cx : sC G p m c cc nL s args RX6) (hin2 : meth.name = "<init>") (hW : sW G n S H) (hL : sL G locs) {k : Nat} (hk : k < n) (ht : tau k = .inl 6) {v : Nat} (hdg : decode cc pc = .ok (.putfield 28, 3)) (kk : ∀ (H1 : Heap) (locs1 : List Loc), sW G n (uR S k 4 (.ref v)) H1 → sL G locs1 → W p l e R s m args below meth c H1 locs1 cells slots Q (F0 m (pc + 3) ls rest)) : W p l e R s m args below meth c H locs cells slots Q (F0 m pc ls (.ref v :: .ref (G.2.2.1 + k) :: rest)) :=
  sPutF Cx inX6 tyX6 tyX6_ok nmX6 rfl 4 (by decide) w_420 rfl rfl hin2 hW hL hk ht rfl rfl (fun _ h => uR_same h) (fun _ h => uR_off h) uR_on hdg kk
theorem p_X6_31 (Cx : sC G p m c cc nL s args RX6) (hin2 : meth.name = "<init>") (hW : sW G n S H) (hL : sL G locs) {k : Nat} (hk : k < n) (ht : tau k = .inl 6) {v : Nat} (hdg : decode cc pc = .ok (.putfield 31, 3)) (kk : ∀ (H1 : Heap) (locs1 : List Loc), sW G n (uR S k 5 (.ref v)) H1 → sL G locs1 → W p l e R s m args below meth c H1 locs1 cells slots Q (F0 m (pc + 3) ls rest)) : W p l e R s m args below meth c H locs cells slots Q (F0 m pc ls (.ref v :: .ref (G.2.2.1 + k) :: rest)) :=
  sPutF Cx inX6 tyX6 tyX6_ok nmX6 rfl 5 (by decide) w_421 rfl rfl hin2 hW hL hk ht rfl rfl (fun _ h => uR_same h) (fun _ h => uR_off h) uR_on hdg kk
theorem p_X6_34 (Cx : sC G p m c cc nL s args RX6) (hin2 : meth.name = "<init>") (hW : sW G n S H) (hL : sL G locs) {k : Nat} (hk : k < n) (ht : tau k = .inl 6) {v : Nat} (hdg : decode cc pc = .ok (.putfield 34, 3)) (kk : ∀ (H1 : Heap) (locs1 : List Loc), sW G n (uR S k 6 (.ref v)) H1 → sL G locs1 → W p l e R s m args below meth c H1 locs1 cells slots Q (F0 m (pc + 3) ls rest)) : W p l e R s m args below meth c H locs cells slots Q (F0 m pc ls (.ref v :: .ref (G.2.2.1 + k) :: rest)) :=
  sPutF Cx inX6 tyX6 tyX6_ok nmX6 rfl 6 (by decide) w_422 rfl rfl hin2 hW hL hk ht rfl rfl (fun _ h => uR_same h) (fun _ h => uR_off h) uR_on hdg kk
theorem p_X6_37 (Cx : sC G p m c cc nL s args RX6) (hin2 : meth.name = "<init>") (hW : sW G n S H) (hL : sL G locs) {k : Nat} (hk : k < n) (ht : tau k = .inl 6) {v : Nat} (hdg : decode cc pc = .ok (.putfield 37, 3)) (kk : ∀ (H1 : Heap) (locs1 : List Loc), sW G n (uR S k 7 (.ref v)) H1 → sL G locs1 → W p l e R s m args below meth c H1 locs1 cells slots Q (F0 m (pc + 3) ls rest)) : W p l e R s m args below meth c H locs cells slots Q (F0 m pc ls (.ref v :: .ref (G.2.2.1 + k) :: rest)) :=
  sPutF Cx inX6 tyX6 tyX6_ok nmX6 rfl 7 (by decide) w_423 rfl rfl hin2 hW hL hk ht rfl rfl (fun _ h => uR_same h) (fun _ h => uR_off h) uR_on hdg kk
theorem p_X7_12 (Cx : sC G p m c cc nL s args RX7) (hin2 : meth.name = "<init>") (hW : sW G n S H) (hL : sL G locs) {k : Nat} (hk : k < n) (ht : tau k = .inl 7) {v : Nat} (hdg : decode cc pc = .ok (.putfield 12, 3)) (kk : ∀ (H1 : Heap) (locs1 : List Loc), sW G n (uR S k 0 (.ref v)) H1 → sL G locs1 → W p l e R s m args below meth c H1 locs1 cells slots Q (F0 m (pc + 3) ls rest)) : W p l e R s m args below meth c H locs cells slots Q (F0 m pc ls (.ref v :: .ref (G.2.2.1 + k) :: rest)) :=
  sPutF Cx inX7 tyX7 tyX7_ok nmX7 rfl 0 (by decide) w_562 rfl rfl hin2 hW hL hk ht rfl rfl (fun _ h => uR_same h) (fun _ h => uR_off h) uR_on hdg kk
theorem n_X7_18 (Cx : sC G p m c cc nL s args RX7) (hW : sW G n S H) (ht : tau n = .inl 2) (hcells : cells + 1 ≤ R.cells) (hslots : slots + 20 ≤ R.slots) (hdg : decode cc pc = .ok (.new 18, 3)) (kk : ∀ H1 : Heap, sW G (n + 1) S H1 → W p l e R s m args below meth c H1 locs (cells + 1) (slots + 20) Q (F0 m (pc + 3) ls (.ref (G.2.2.1 + n) :: rest))) : W p l e R s m args below meth c H locs cells slots Q (F0 m pc ls rest) :=
  sNew (ci := 2) Cx inX2 tyX2_ok rfl w_447 w_448 w_213 hW ht (by decide) hcells hslots hdg kk
theorem c_X7_20 (Cx : sC G p m c cc nL s args RX7) {rm : Room} {mc ms : Nat} (h1 : rm.cells = mc) (h2 : rm.slots = ms) (h3 : rm.frames + 1 ≤ R.frames ∧ 8 + (1 + 11) + rm.locals ≤ R.locals) : va_CN R s args RX7 20 yX2_init "OptimumHouse" cX2_init 1 none (.code yX2_init cX2_init 1 none :: tb) rm mc ms 0 ∧ yX2_init.name = "<init>" ∧ (Cond.instanceMethod yX2_init).before args s = true :=
  ⟨sCN Cx 0 w_449 w_213 w_451 (by decide +kernel) h1 h2 h3, rfl, Cx.1.2.2.2.2 _ w_450⟩
theorem p_X2_20 (Cx : sC G p m c cc nL s args RX2) (hin2 : meth.name = "<init>") (hW : sW G n S H) (hL : sL G locs) {k : Nat} (hk : k < n) (ht : tau k = .inl 2) {v : Nat} (hdg : decode cc pc = .ok (.putfield 20, 3)) (kk : ∀ (H1 : Heap) (locs1 : List Loc), sW G n (uR S k 2 (.ref v)) H1 → sL G locs1 → W p l e R s m args below meth c H1 locs1 cells slots Q (F0 m (pc + 3) ls rest)) : W p l e R s m args below meth c H locs cells slots Q (F0 m pc ls (.ref v :: .ref (G.2.2.1 + k) :: rest)) :=
  sPutF Cx inX2 tyX2 tyX2_ok nmX2 rfl 2 (by decide) w_458 rfl rfl hin2 hW hL hk ht rfl rfl (fun _ h => uR_same h) (fun _ h => uR_off h) uR_on hdg kk
theorem p_X2_23 (Cx : sC G p m c cc nL s args RX2) (hin2 : meth.name = "<init>") (hW : sW G n S H) (hL : sL G locs) {k : Nat} (hk : k < n) (ht : tau k = .inl 2) {v : Nat} (hdg : decode cc pc = .ok (.putfield 23, 3)) (kk : ∀ (H1 : Heap) (locs1 : List Loc), sW G n (uR S k 3 (.ref v)) H1 → sL G locs1 → W p l e R s m args below meth c H1 locs1 cells slots Q (F0 m (pc + 3) ls rest)) : W p l e R s m args below meth c H locs cells slots Q (F0 m pc ls (.ref v :: .ref (G.2.2.1 + k) :: rest)) :=
  sPutF Cx inX2 tyX2 tyX2_ok nmX2 rfl 3 (by decide) w_459 rfl rfl hin2 hW hL hk ht rfl rfl (fun _ h => uR_same h) (fun _ h => uR_off h) uR_on hdg kk
theorem p_X2_27 (Cx : sC G p m c cc nL s args RX2) (hin2 : meth.name = "<init>") (hW : sW G n S H) (hL : sL G locs) {k : Nat} (hk : k < n) (ht : tau k = .inl 2) {v : Nat} (hdg : decode cc pc = .ok (.putfield 27, 3)) (kk : ∀ (H1 : Heap) (locs1 : List Loc), sW G n (uR S k 4 (.ref v)) H1 → sL G locs1 → W p l e R s m args below meth c H1 locs1 cells slots Q (F0 m (pc + 3) ls rest)) : W p l e R s m args below meth c H locs cells slots Q (F0 m pc ls (.ref v :: .ref (G.2.2.1 + k) :: rest)) :=
  sPutF Cx inX2 tyX2 tyX2_ok nmX2 rfl 4 (by decide) w_460 rfl rfl hin2 hW hL hk ht rfl rfl (fun _ h => uR_same h) (fun _ h => uR_off h) uR_on hdg kk
theorem n_X2_3 (Cx : sC G p m c cc nL s args RX2) (hW : sW G n S H) (ht : tau n = .inl 0) (hcells : cells + 1 ≤ R.cells) (hslots : slots + 3 ≤ R.slots) (hdg : decode cc pc = .ok (.new 3, 3)) (kk : ∀ H1 : Heap, sW G (n + 1) S H1 → W p l e R s m args below meth c H1 locs (cells + 1) (slots + 3) Q (F0 m (pc + 3) ls (.ref (G.2.2.1 + n) :: rest))) : W p l e R s m args below meth c H locs cells slots Q (F0 m pc ls rest) :=
  sNew (ci := 0) Cx inX0 tyX0_ok rfl w_454 w_394 w_212 hW ht (by decide) hcells hslots hdg kk
theorem c_X2_30 (Cx : sC G p m c cc nL s args RX2) {rm : Room} {mc ms : Nat} (h1 : rm.cells = mc) (h2 : rm.slots = ms) (h3 : rm.frames + 1 ≤ R.frames ∧ 8 + (1 + 11) + rm.locals ≤ R.locals) : va_CN R s args RX2 30 yX0_init "OptimumHouse" cX0_init 1 none (.code yX0_init cX0_init 1 none :: tb) rm mc ms 0 ∧ yX0_init.name = "<init>" ∧ (Cond.instanceMethod yX0_init).before args s = true :=
  ⟨sCN Cx 0 w_455 w_212 w_397 (by decide +kernel) h1 h2 h3, rfl, Cx.1.2.2.2.2 _ w_396⟩
theorem p_X2_31 (Cx : sC G p m c cc nL s args RX2) (hin2 : meth.name = "<init>") (hW : sW G n S H) (hL : sL G locs) {k : Nat} (hk : k < n) (ht : tau k = .inl 2) {v : Nat} (hdg : decode cc pc = .ok (.putfield 31, 3)) (kk : ∀ (H1 : Heap) (locs1 : List Loc), sW G n (uR S k 5 (.ref v)) H1 → sL G locs1 → W p l e R s m args below meth c H1 locs1 cells slots Q (F0 m (pc + 3) ls rest)) : W p l e R s m args below meth c H locs cells slots Q (F0 m pc ls (.ref v :: .ref (G.2.2.1 + k) :: rest)) :=
  sPutF Cx inX2 tyX2 tyX2_ok nmX2 rfl 5 (by decide) w_461 rfl rfl hin2 hW hL hk ht rfl rfl (fun _ h => uR_same h) (fun _ h => uR_off h) uR_on hdg kk
theorem p_X2_35 (Cx : sC G p m c cc nL s args RX2) (hin2 : meth.name = "<init>") (hW : sW G n S H) (hL : sL G locs) {k : Nat} (hk : k < n) (ht : tau k = .inl 2) {v : Nat} (hdg : decode cc pc = .ok (.putfield 35, 3)) (kk : ∀ (H1 : Heap) (locs1 : List Loc), sW G n (uR S k 6 (.ref v)) H1 → sL G locs1 → W p l e R s m args below meth c H1 locs1 cells slots Q (F0 m (pc + 3) ls rest)) : W p l e R s m args below meth c H locs cells slots Q (F0 m pc ls (.ref v :: .ref (G.2.2.1 + k) :: rest)) :=
  sPutF Cx inX2 tyX2 tyX2_ok nmX2 rfl 6 (by decide) w_462 rfl rfl hin2 hW hL hk ht rfl rfl (fun _ h => uR_same h) (fun _ h => uR_off h) uR_on hdg kk
theorem p_X2_38 (Cx : sC G p m c cc nL s args RX2) (hin2 : meth.name = "<init>") (hW : sW G n S H) (hL : sL G locs) {k : Nat} (hk : k < n) (ht : tau k = .inl 2) {v : Nat} (hdg : decode cc pc = .ok (.putfield 38, 3)) (kk : ∀ (H1 : Heap) (locs1 : List Loc), sW G n (uR S k 7 (.ref v)) H1 → sL G locs1 → W p l e R s m args below meth c H1 locs1 cells slots Q (F0 m (pc + 3) ls rest)) : W p l e R s m args below meth c H locs cells slots Q (F0 m pc ls (.ref v :: .ref (G.2.2.1 + k) :: rest)) :=
  sPutF Cx inX2 tyX2 tyX2_ok nmX2 rfl 7 (by decide) w_463 rfl rfl hin2 hW hL hk ht rfl rfl (fun _ h => uR_same h) (fun _ h => uR_off h) uR_on hdg kk
theorem p_X2_41 (Cx : sC G p m c cc nL s args RX2) (hin2 : meth.name = "<init>") (hW : sW G n S H) (hL : sL G locs) {k : Nat} (hk : k < n) (ht : tau k = .inl 2) {v : Nat} (hdg : decode cc pc = .ok (.putfield 41, 3)) (kk : ∀ (H1 : Heap) (locs1 : List Loc), sW G n (uR S k 8 (.ref v)) H1 → sL G locs1 → W p l e R s m args below meth c H1 locs1 cells slots Q (F0 m (pc + 3) ls rest)) : W p l e R s m args below meth c H locs cells slots Q (F0 m pc ls (.ref v :: .ref (G.2.2.1 + k) :: rest)) :=
  sPutF Cx inX2 tyX2 tyX2_ok nmX2 rfl 8 (by decide) w_464 rfl rfl hin2 hW hL hk ht rfl rfl (fun _ h => uR_same h) (fun _ h => uR_off h) uR_on hdg kk
theorem p_X2_44 (Cx : sC G p m c cc nL s args RX2) (hin2 : meth.name = "<init>") (hW : sW G n S H) (hL : sL G locs) {k : Nat} (hk : k < n) (ht : tau k = .inl 2) {v : Nat} (hdg : decode cc pc = .ok (.putfield 44, 3)) (kk : ∀ (H1 : Heap) (locs1 : List Loc), sW G n (uR S k 9 (.ref v)) H1 → sL G locs1 → W p l e R s m args below meth c H1 locs1 cells slots Q (F0 m (pc + 3) ls rest)) : W p l e R s m args below meth c H locs cells slots Q (F0 m pc ls (.ref v :: .ref (G.2.2.1 + k) :: rest)) :=
  sPutF Cx inX2 tyX2 tyX2_ok nmX2 rfl 9 (by decide) w_465 rfl rfl hin2 hW hL hk ht rfl rfl (fun _ h => uR_same h) (fun _ h => uR_off h) uR_on hdg kk
theorem p_X2_47 (Cx : sC G p m c cc nL s args RX2) (hin2 : meth.name = "<init>") (hW : sW G n S H) (hL : sL G locs) {k : Nat} (hk : k < n) (ht : tau k = .inl 2) {v : Nat} (hdg : decode cc pc = .ok (.putfield 47, 3)) (kk : ∀ (H1 : Heap) (locs1 : List Loc), sW G n (uR S k 10 (.ref v)) H1 → sL G locs1 → W p l e R s m args below meth c H1 locs1 cells slots Q (F0 m (pc + 3) ls rest)) : W p l e R s m args below meth c H locs cells slots Q (F0 m pc ls (.ref v :: .ref (G.2.2.1 + k) :: rest)) :=
  sPutF Cx inX2 tyX2 tyX2_ok nmX2 rfl 10 (by decide) w_466 rfl rfl hin2 hW hL hk ht rfl rfl (fun _ h => uR_same h) (fun _ h => uR_off h) uR_on hdg kk
theorem p_X2_50 (Cx : sC G p m c cc nL s args RX2) (hin2 : meth.name = "<init>") (hW : sW G n S H) (hL : sL G locs) {k : Nat} (hk : k < n) (ht : tau k = .inl 2) {v : Nat} (hdg : decode cc pc = .ok (.putfield 50, 3)) (kk : ∀ (H1 : Heap) (locs1 : List Loc), sW G n (uR S k 11 (.ref v)) H1 → sL G locs1 → W p l e R s m args below meth c H1 locs1 cells slots Q (F0 m (pc + 3) ls rest)) : W p l e R s m args below meth c H locs cells slots Q (F0 m pc ls (.ref v :: .ref (G.2.2.1 + k) :: rest)) :=
  sPutF Cx inX2 tyX2 tyX2_ok nmX2 rfl 11 (by decide) w_467 rfl rfl hin2 hW hL hk ht rfl rfl (fun _ h => uR_same h) (fun _ h => uR_off h) uR_on hdg kk
theorem p_X2_53 (Cx : sC G p m c cc nL s args RX2) (hin2 : meth.name = "<init>") (hW : sW G n S H) (hL : sL G locs) {k : Nat} (hk : k < n) (ht : tau k = .inl 2) {v : Nat} (hdg : decode cc pc = .ok (.putfield 53, 3)) (kk : ∀ (H1 : Heap) (locs1 : List Loc), sW G n (uR S k 12 (.ref v)) H1 → sL G locs1 → W p l e R s m args below meth c H1 locs1 cells slots Q (F0 m (pc + 3) ls rest)) : W p l e R s m args below meth c H locs cells slots Q (F0 m pc ls (.ref v :: .ref (G.2.2.1 + k) :: rest)) :=
  sPutF Cx inX2 tyX2 tyX2_ok nmX2 rfl 12 (by decide) w_468 rfl rfl hin2 hW hL hk ht rfl rfl (fun _ h => uR_same h) (fun _ h => uR_off h) uR_on hdg kk
theorem p_X7_21 (Cx : sC G p m c cc nL s args RX7) (hin2 : meth.name = "<init>") (hW : sW G n S H) (hL : sL G locs) {k : Nat} (hk : k < n) (ht : tau k = .inl 7) {v : Nat} (hdg : decode cc pc = .ok (.putfield 21, 3)) (kk : ∀ (H1 : Heap) (locs1 : List Loc), sW G n (uR S k 1 (.ref v)) H1 → sL G locs1 → W p l e R s m args below meth c H1 locs1 cells slots Q (F0 m (pc + 3) ls rest)) : W p l e R s m args below meth c H locs cells slots Q (F0 m pc ls (.ref v :: .ref (G.2.2.1 + k) :: rest)) :=
  sPutF Cx inX7 tyX7 tyX7_ok nmX7 rfl 1 (by decide) w_563 rfl rfl hin2 hW hL hk ht rfl rfl (fun _ h => uR_same h) (fun _ h => uR_off h) uR_on hdg kk
theorem n_X7_25 (Cx : sC G p m c cc nL s args RX7) (hW : sW G n S H) (ht : tau n = .inl 5) (hcells : cells + 1 ≤ R.cells) (hslots : slots + 10 ≤ R.slots) (hdg : decode cc pc = .ok (.new 25, 3)) (kk : ∀ H1 : Heap, sW G (n + 1) S H1 → W p l e R s m args below meth c H1 locs (cells + 1) (slots + 10) Q (F0 m (pc + 3) ls (.ref (G.2.2.1 + n) :: rest))) : W p l e R s m args below meth c H locs cells slots Q (F0 m pc ls rest) :=
  sNew (ci := 5) Cx inX5 tyX5_ok rfl w_517 w_518 w_214 hW ht (by decide) hcells hslots hdg kk
theorem c_X7_27 (Cx : sC G p m c cc nL s args RX7) {rm : Room} {mc ms : Nat} (h1 : rm.cells = mc) (h2 : rm.slots = ms) (h3 : rm.frames + 1 ≤ R.frames ∧ 8 + (1 + 11) + rm.locals ≤ R.locals) : va_CN R s args RX7 27 yX5_init "OptimumHouse" cX5_init 1 none (.code yX5_init cX5_init 1 none :: tb) rm mc ms 0 ∧ yX5_init.name = "<init>" ∧ (Cond.instanceMethod yX5_init).before args s = true :=
  ⟨sCN Cx 0 w_519 w_214 w_521 (by decide +kernel) h1 h2 h3, rfl, Cx.1.2.2.2.2 _ w_520⟩
theorem n_X5_9 (Cx : sC G p m c cc nL s args RX5) (hW : sW G n S H) (ht : tau n = .inl 10) (hcells : cells + 1 ≤ R.cells) (hslots : slots + 3 ≤ R.slots) (hdg : decode cc pc = .ok (.new 9, 3)) (kk : ∀ H1 : Heap, sW G (n + 1) S H1 → W p l e R s m args below meth c H1 locs (cells + 1) (slots + 3) Q (F0 m (pc + 3) ls (.ref (G.2.2.1 + n) :: rest))) : W p l e R s m args below meth c H locs cells slots Q (F0 m pc ls rest) :=
  sNew (ci := 10) Cx inX10 tyX10_ok rfl w_523 w_236 w_205 hW ht (by decide) hcells hslots hdg kk
theorem c_X5_13 (Cx : sC G p m c cc nL s args RX5) {rm : Room} {mc ms : Nat} (h1 : rm.cells = mc) (h2 : rm.slots = ms) (h3 : rm.frames + 1 ≤ R.frames ∧ 8 + (2 + 11) + rm.locals ≤ R.locals) : CallB R s args RX5 13 yX10_init cX10_init 2 none (.code yX10_init cX10_init 2 none :: tb) rm mc ms 1 ∧ yX10_init.name = "<init>" ∧ (Cond.instanceMethod yX10_init).before args s = true :=
  sCI Cx 1 w_524 w_238 w_205 w_239 rfl (by decide +kernel) h1 h2 h3
theorem p_X5_16 (Cx : sC G p m c cc nL s args RX5) (hin2 : meth.name = "<init>") (hW : sW G n S H) (hL : sL G locs) {k : Nat} (hk : k < n) (ht : tau k = .inl 5) {v : Nat} (hdg : decode cc pc = .ok (.putfield 16, 3)) (kk : ∀ (H1 : Heap) (locs1 : List Loc), sW G n (uR S k 0 (.ref v)) H1 → sL G locs1 → W p l e R s m args below meth c H1 locs1 cells slots Q (F0 m (pc + 3) ls rest)) : W p l e R s m args below meth c H locs cells slots Q (F0 m pc ls (.ref v :: .ref (G.2.2.1 + k) :: rest)) :=
  sPutF Cx inX5 tyX5 tyX5_ok nmX5 rfl 0 (by decide) w_527 rfl rfl hin2 hW hL hk ht rfl rfl (fun _ h => uR_same h) (fun _ h => uR_off h) uR_on hdg kk
theorem p_X5_20 (Cx : sC G p m c cc nL s args RX5) (hin2 : meth.name = "<init>") (hW : sW G n S H) (hL : sL G locs) {k : Nat} (hk : k < n) (ht : tau k = .inl 5) {v : Nat} (hdg : decode cc pc = .ok (.putfield 20, 3)) (kk : ∀ (H1 : Heap) (locs1 : List Loc), sW G n (uR S k 1 (.ref v)) H1 → sL G locs1 → W p l e R s m args below meth c H1 locs1 cells slots Q (F0 m (pc + 3) ls rest)) : W p l e R s m args below meth c H locs cells slots Q (F0 m pc ls (.ref v :: .ref (G.2.2.1 + k) :: rest)) :=
  sPutF Cx inX5 tyX5 tyX5_ok nmX5 rfl 1 (by decide) w_528 rfl rfl hin2 hW hL hk ht rfl rfl (fun _ h => uR_same h) (fun _ h => uR_off h) uR_on hdg kk
theorem p_X5_25 (Cx : sC G p m c cc nL s args RX5) (hin2 : meth.name = "<init>") (hW : sW G n S H) (hL : sL G locs) {k : Nat} (hk : k < n) (ht : tau k = .inl 5) {v : Nat} (hdg : decode cc pc = .ok (.putfield 25, 3)) (kk : ∀ (H1 : Heap) (locs1 : List Loc), sW G n (uR S k 2 (.ref v)) H1 → sL G locs1 → W p l e R s m args below meth c H1 locs1 cells slots Q (F0 m (pc + 3) ls rest)) : W p l e R s m args below meth c H locs cells slots Q (F0 m pc ls (.ref v :: .ref (G.2.2.1 + k) :: rest)) :=
  sPutF Cx inX5 tyX5 tyX5_ok nmX5 rfl 2 (by decide) w_529 rfl rfl hin2 hW hL hk ht rfl rfl (fun _ h => uR_same h) (fun _ h => uR_off h) uR_on hdg kk
theorem n_X5_23 (Cx : sC G p m c cc nL s args RX5) (hW : sW G n S H) (ht : tau n = .inl 0) (hcells : cells + 1 ≤ R.cells) (hslots : slots + 3 ≤ R.slots) (hdg : decode cc pc = .ok (.new 23, 3)) (kk : ∀ H1 : Heap, sW G (n + 1) S H1 → W p l e R s m args below meth c H1 locs (cells + 1) (slots + 3) Q (F0 m (pc + 3) ls (.ref (G.2.2.1 + n) :: rest))) : W p l e R s m args below meth c H locs cells slots Q (F0 m pc ls rest) :=
  sNew (ci := 0) Cx inX0 tyX0_ok rfl w_525 w_394 w_212 hW ht (by decide) hcells hslots hdg kk
theorem c_X5_29 (Cx : sC G p m c cc nL s args RX5) {rm : Room} {mc ms : Nat} (h1 : rm.cells = mc) (h2 : rm.slots = ms) (h3 : rm.frames + 1 ≤ R.frames ∧ 8 + (1 + 11) + rm.locals ≤ R.locals) : va_CN R s args RX5 29 yX0_init "OptimumHouse" cX0_init 1 none (.code yX0_init cX0_init 1 none :: tb) rm mc ms 0 ∧ yX0_init.name = "<init>" ∧ (Cond.instanceMethod yX0_init).before args s = true :=
  ⟨sCN Cx 0 w_526 w_212 w_397 (by decide +kernel) h1 h2 h3, rfl, Cx.1.2.2.2.2 _ w_396⟩
theorem p_X5_30 (Cx : sC G p m c cc nL s args RX5) (hin2 : meth.name = "<init>") (hW : sW G n S H) (hL : sL G locs) {k : Nat} (hk : k < n) (ht : tau k = .inl 5) {v : Nat} (hdg : decode cc pc = .ok (.putfield 30, 3)) (kk : ∀ (H1 : Heap) (locs1 : List Loc), sW G n (uR S k 3 (.ref v)) H1 → sL G locs1 → W p l e R s m args below meth c H1 locs1 cells slots Q (F0 m (pc + 3) ls rest)) : W p l e R s m args below meth c H locs cells slots Q (F0 m pc ls (.ref v :: .ref (G.2.2.1 + k) :: rest)) :=
  sPutF Cx inX5 tyX5 tyX5_ok nmX5 rfl 3 (by decide) w_530 rfl rfl hin2 hW hL hk ht rfl rfl (fun _ h => uR_same h) (fun _ h => uR_off h) uR_on hdg kk
theorem p_X5_34 (Cx : sC G p m c cc nL s args RX5) (hin2 : meth.name = "<init>") (hW : sW G n S H) (hL : sL G locs) {k : Nat} (hk : k < n) (ht : tau k = .inl 5) {v : Nat} (hdg : decode cc pc = .ok (.putfield 34, 3)) (kk : ∀ (H1 : Heap) (locs1 : List Loc), sW G n (uR S k 4 (.ref v)) H1 → sL G locs1 → W p l e R s m args below meth c H1 locs1 cells slots Q (F0 m (pc + 3) ls rest)) : W p l e R s m args below meth c H locs cells slots Q (F0 m pc ls (.ref v :: .ref (G.2.2.1 + k) :: rest)) :=
  sPutF Cx inX5 tyX5 tyX5_ok nmX5 rfl 4 (by decide) w_531 rfl rfl hin2 hW hL hk ht rfl rfl (fun _ h => uR_same h) (fun _ h => uR_off h) uR_on hdg kk
theorem p_X5_37 (Cx : sC G p m c cc nL s args RX5) (hin2 : meth.name = "<init>") (hW : sW G n S H) (hL : sL G locs) {k : Nat} (hk : k < n) (ht : tau k = .inl 5) {v : Nat} (hdg : decode cc pc = .ok (.putfield 37, 3)) (kk : ∀ (H1 : Heap) (locs1 : List Loc), sW G n (uR S k 5 (.ref v)) H1 → sL G locs1 → W p l e R s m args below meth c H1 locs1 cells slots Q (F0 m (pc + 3) ls rest)) : W p l e R s m args below meth c H locs cells slots Q (F0 m pc ls (.ref v :: .ref (G.2.2.1 + k) :: rest)) :=
  sPutF Cx inX5 tyX5 tyX5_ok nmX5 rfl 5 (by decide) w_532 rfl rfl hin2 hW hL hk ht rfl rfl (fun _ h => uR_same h) (fun _ h => uR_off h) uR_on hdg kk
theorem p_X5_40 (Cx : sC G p m c cc nL s args RX5) (hin2 : meth.name = "<init>") (hW : sW G n S H) (hL : sL G locs) {k : Nat} (hk : k < n) (ht : tau k = .inl 5) {v : Nat} (hdg : decode cc pc = .ok (.putfield 40, 3)) (kk : ∀ (H1 : Heap) (locs1 : List Loc), sW G n (uR S k 6 (.ref v)) H1 → sL G locs1 → W p l e R s m args below meth c H1 locs1 cells slots Q (F0 m (pc + 3) ls rest)) : W p l e R s m args below meth c H locs cells slots Q (F0 m pc ls (.ref v :: .ref (G.2.2.1 + k) :: rest)) :=
  sPutF Cx inX5 tyX5 tyX5_ok nmX5 rfl 6 (by decide) w_533 rfl rfl hin2 hW hL hk ht rfl rfl (fun _ h => uR_same h) (fun _ h => uR_off h) uR_on hdg kk
theorem p_X5_43 (Cx : sC G p m c cc nL s args RX5) (hin2 : meth.name = "<init>") (hW : sW G n S H) (hL : sL G locs) {k : Nat} (hk : k < n) (ht : tau k = .inl 5) {v : Nat} (hdg : decode cc pc = .ok (.putfield 43, 3)) (kk : ∀ (H1 : Heap) (locs1 : List Loc), sW G n (uR S k 7 (.ref v)) H1 → sL G locs1 → W p l e R s m args below meth c H1 locs1 cells slots Q (F0 m (pc + 3) ls rest)) : W p l e R s m args below meth c H locs cells slots Q (F0 m pc ls (.ref v :: .ref (G.2.2.1 + k) :: rest)) :=
  sPutF Cx inX5 tyX5 tyX5_ok nmX5 rfl 7 (by decide) w_534 rfl rfl hin2 hW hL hk ht rfl rfl (fun _ h => uR_same h) (fun _ h => uR_off h) uR_on hdg kk
theorem p_X5_46 (Cx : sC G p m c cc nL s args RX5) (hin2 : meth.name = "<init>") (hW : sW G n S H) (hL : sL G locs) {k : Nat} (hk : k < n) (ht : tau k = .inl 5) {v : Nat} (hdg : decode cc pc = .ok (.putfield 46, 3)) (kk : ∀ (H1 : Heap) (locs1 : List Loc), sW G n (uR S k 8 (.ref v)) H1 → sL G locs1 → W p l e R s m args below meth c H1 locs1 cells slots Q (F0 m (pc + 3) ls rest)) : W p l e R s m args below meth c H locs cells slots Q (F0 m pc ls (.ref v :: .ref (G.2.2.1 + k) :: rest)) :=
  sPutF Cx inX5 tyX5 tyX5_ok nmX5 rfl 8 (by decide) w_535 rfl rfl hin2 hW hL hk ht rfl rfl (fun _ h => uR_same h) (fun _ h => uR_off h) uR_on hdg kk
theorem p_X5_49 (Cx : sC G p m c cc nL s args RX5) (hin2 : meth.name = "<init>") (hW : sW G n S H) (hL : sL G locs) {k : Nat} (hk : k < n) (ht : tau k = .inl 5) {v : Nat} (hdg : decode cc pc = .ok (.putfield 49, 3)) (kk : ∀ (H1 : Heap) (locs1 : List Loc), sW G n (uR S k 9 (.ref v)) H1 → sL G locs1 → W p l e R s m args below meth c H1 locs1 cells slots Q (F0 m (pc + 3) ls rest)) : W p l e R s m args below meth c H locs cells slots Q (F0 m pc ls (.ref v :: .ref (G.2.2.1 + k) :: rest)) :=
  sPutF Cx inX5 tyX5 tyX5_ok nmX5 rfl 9 (by decide) w_536 rfl rfl hin2 hW hL hk ht rfl rfl (fun _ h => uR_same h) (fun _ h => uR_off h) uR_on hdg kk
theorem p_X7_28 (Cx : sC G p m c cc nL s args RX7) (hin2 : meth.name = "<init>") (hW : sW G n S H) (hL : sL G locs) {k : Nat} (hk : k < n) (ht : tau k = .inl 7) {v : Nat} (hdg : decode cc pc = .ok (.putfield 28, 3)) (kk : ∀ (H1 : Heap) (locs1 : List Loc), sW G n (uR S k 2 (.ref v)) H1 → sL G locs1 → W p l e R s m args below meth c H1 locs1 cells slots Q (F0 m (pc + 3) ls rest)) : W p l e R s m args below meth c H locs cells slots Q (F0 m pc ls (.ref v :: .ref (G.2.2.1 + k) :: rest)) :=
  sPutF Cx inX7 tyX7 tyX7_ok nmX7 rfl 2 (by decide) w_565 rfl rfl hin2 hW hL hk ht rfl rfl (fun _ h => uR_same h) (fun _ h => uR_off h) uR_on hdg kk
theorem n_X7_32 (Cx : sC G p m c cc nL s args RX7) (hW : sW G n S H) (ht : tau n = .inl 0) (hcells : cells + 1 ≤ R.cells) (hslots : slots + 3 ≤ R.slots) (hdg : decode cc pc = .ok (.new 32, 3)) (kk : ∀ H1 : Heap, sW G (n + 1) S H1 → W p l e R s m args below meth c H1 locs (cells + 1) (slots + 3) Q (F0 m (pc + 3) ls (.ref (G.2.2.1 + n) :: rest))) : W p l e R s m args below meth c H locs cells slots Q (F0 m pc ls rest) :=
  sNew (ci := 0) Cx inX0 tyX0_ok rfl w_558 w_394 w_212 hW ht (by decide) hcells hslots hdg kk
theorem c_X7_34 (Cx : sC G p m c cc nL s args RX7) {rm : Room} {mc ms : Nat} (h1 : rm.cells = mc) (h2 : rm.slots = ms) (h3 : rm.frames + 1 ≤ R.frames ∧ 8 + (1 + 11) + rm.locals ≤ R.locals) : va_CN R s args RX7 34 yX0_init "OptimumHouse" cX0_init 1 none (.code yX0_init cX0_init 1 none :: tb) rm mc ms 0 ∧ yX0_init.name = "<init>" ∧ (Cond.instanceMethod yX0_init).before args s = true :=
  ⟨sCN Cx 0 w_559 w_212 w_397 (by decide +kernel) h1 h2 h3, rfl, Cx.1.2.2.2.2 _ w_396⟩
theorem p_X7_35 (Cx : sC G p m c cc nL s args RX7) (hin2 : meth.name = "<init>") (hW : sW G n S H) (hL : sL G locs) {k : Nat} (hk : k < n) (ht : tau k = .inl 7) {v : Nat} (hdg : decode cc pc = .ok (.putfield 35, 3)) (kk : ∀ (H1 : Heap) (locs1 : List Loc), sW G n (uR S k 3 (.ref v)) H1 → sL G locs1 → W p l e R s m args below meth c H1 locs1 cells slots Q (F0 m (pc + 3) ls rest)) : W p l e R s m args below meth c H locs cells slots Q (F0 m pc ls (.ref v :: .ref (G.2.2.1 + k) :: rest)) :=
  sPutF Cx inX7 tyX7 tyX7_ok nmX7 rfl 3 (by decide) w_567 rfl rfl hin2 hW hL hk ht rfl rfl (fun _ h => uR_same h) (fun _ h => uR_off h) uR_on hdg kk
theorem p_X7_39 (Cx : sC G p m c cc nL s args RX7) (hin2 : meth.name = "<init>") (hW : sW G n S H) (hL : sL G locs) {k : Nat} (hk : k < n) (ht : tau k = .inl 7) {v : Nat} (hdg : decode cc pc = .ok (.putfield 39, 3)) (kk : ∀ (H1 : Heap) (locs1 : List Loc), sW G n (uR S k 4 (.ref v)) H1 → sL G locs1 → W p l e R s m args below meth c H1 locs1 cells slots Q (F0 m (pc + 3) ls rest)) : W p l e R s m args below meth c H locs cells slots Q (F0 m pc ls (.ref v :: .ref (G.2.2.1 + k) :: rest)) :=
  sPutF Cx inX7 tyX7 tyX7_ok nmX7 rfl 4 (by decide) w_568 rfl rfl hin2 hW hL hk ht rfl rfl (fun _ h => uR_same h) (fun _ h => uR_off h) uR_on hdg kk
theorem p_X7_42 (Cx : sC G p m c cc nL s args RX7) (hin2 : meth.name = "<init>") (hW : sW G n S H) (hL : sL G locs) {k : Nat} (hk : k < n) (ht : tau k = .inl 7) {v : Nat} (hdg : decode cc pc = .ok (.putfield 42, 3)) (kk : ∀ (H1 : Heap) (locs1 : List Loc), sW G n (uR S k 5 (.ref v)) H1 → sL G locs1 → W p l e R s m args below meth c H1 locs1 cells slots Q (F0 m (pc + 3) ls rest)) : W p l e R s m args below meth c H locs cells slots Q (F0 m pc ls (.ref v :: .ref (G.2.2.1 + k) :: rest)) :=
  sPutF Cx inX7 tyX7 tyX7_ok nmX7 rfl 5 (by decide) w_569 rfl rfl hin2 hW hL hk ht rfl rfl (fun _ h => uR_same h) (fun _ h => uR_off h) uR_on hdg kk
theorem p_X7_45 (Cx : sC G p m c cc nL s args RX7) (hin2 : meth.name = "<init>") (hW : sW G n S H) (hL : sL G locs) {k : Nat} (hk : k < n) (ht : tau k = .inl 7) {v : Nat} (hdg : decode cc pc = .ok (.putfield 45, 3)) (kk : ∀ (H1 : Heap) (locs1 : List Loc), sW G n (uR S k 6 (.ref v)) H1 → sL G locs1 → W p l e R s m args below meth c H1 locs1 cells slots Q (F0 m (pc + 3) ls rest)) : W p l e R s m args below meth c H locs cells slots Q (F0 m pc ls (.ref v :: .ref (G.2.2.1 + k) :: rest)) :=
  sPutF Cx inX7 tyX7 tyX7_ok nmX7 rfl 6 (by decide) w_570 rfl rfl hin2 hW hL hk ht rfl rfl (fun _ h => uR_same h) (fun _ h => uR_off h) uR_on hdg kk
theorem n_X7_48 (Cx : sC G p m c cc nL s args RX7) (hW : sW G n S H) (ht : tau n = .inl 3) (hcells : cells + 1 ≤ R.cells) (hslots : slots + 5 ≤ R.slots) (hdg : decode cc pc = .ok (.new 48, 3)) (kk : ∀ H1 : Heap, sW G (n + 1) S H1 → W p l e R s m args below meth c H1 locs (cells + 1) (slots + 5) Q (F0 m (pc + 3) ls (.ref (G.2.2.1 + n) :: rest))) : W p l e R s m args below meth c H locs cells slots Q (F0 m pc ls rest) :=
  sNew (ci := 3) Cx inX3 tyX3_ok rfl w_560 w_256 w_207 hW ht (by decide) hcells hslots hdg kk
theorem c_X7_50 (Cx : sC G p m c cc nL s args RX7) {rm : Room} {mc ms : Nat} (h1 : rm.cells = mc) (h2 : rm.slots = ms) (h3 : rm.frames + 1 ≤ R.frames ∧ 8 + (1 + 11) + rm.locals ≤ R.locals) : va_CN R s args RX7 50 yX3_init "OptimumHouse" cX3_init 1 none (.code yX3_init cX3_init 1 none :: tb) rm mc ms 0 ∧ yX3_init.name = "<init>" ∧ (Cond.instanceMethod yX3_init).before args s = true :=
  ⟨sCN Cx 0 w_561 w_207 w_259 (by decide +kernel) h1 h2 h3, rfl, Cx.1.2.2.2.2 _ w_258⟩
theorem p_X11_41 (Cx : sC G p m c cc nL s args RX11) (hin2 : meth.name = "<init>") (hW : sW G n S H) (hL : sL G locs) {k : Nat} (hk : k < n) (ht : tau k = .inl 11) {v : Nat} (hdg : decode cc pc = .ok (.putfield 41, 3)) (kk : ∀ (H1 : Heap) (locs1 : List Loc), sW G n (uR S k 3 (.ref v)) H1 → sL G locs1 → W p l e R s m args below meth c H1 locs1 cells slots Q (F0 m (pc + 3) ls rest)) : W p l e R s m args below meth c H locs cells slots Q (F0 m pc ls (.ref v :: .ref (G.2.2.1 + k) :: rest)) :=
  sPutF Cx inX11 tyX11 tyX11_ok nmX11 rfl 3 (by decide) w_707 rfl rfl hin2 hW hL hk ht rfl rfl (fun _ h => uR_same h) (fun _ h => uR_off h) uR_on hdg kk
theorem n_X11_45 (Cx : sC G p m c cc nL s args RX11) (hW : sW G n S H) (ht : tau n = .inl 1) (hcells : cells + 1 ≤ R.cells) (hslots : slots + 18 ≤ R.slots) (hdg : decode cc pc = .ok (.new 45, 3)) (kk : ∀ H1 : Heap, sW G (n + 1) S H1 → W p l e R s m args below meth c H1 locs (cells + 1) (slots + 18) Q (F0 m (pc + 3) ls (.ref (G.2.2.1 + n) :: rest))) : W p l e R s m args below meth c H locs cells slots Q (F0 m pc ls rest) :=
  sNew (ci := 1) Cx inX1 tyX1_ok rfl w_616 w_617 w_215 hW ht (by decide) hcells hslots hdg kk
theorem c_X11_47 (Cx : sC G p m c cc nL s args RX11) {rm : Room} {mc ms : Nat} (h1 : rm.cells = mc) (h2 : rm.slots = ms) (h3 : rm.frames + 1 ≤ R.frames ∧ 8 + (1 + 11) + rm.locals ≤ R.locals) : va_CN R s args RX11 47 yX1_init "OptimumHouse" cX1_init 1 none (.code yX1_init cX1_init 1 none :: tb) rm mc ms 0 ∧ yX1_init.name = "<init>" ∧ (Cond.instanceMethod yX1_init).before args s = true :=
  ⟨sCN Cx 0 w_618 w_215 w_620 (by decide +kernel) h1 h2 h3, rfl, Cx.1.2.2.2.2 _ w_619⟩
theorem n_X1_9 (Cx : sC G p m c cc nL s args RX1) (hW : sW G n S H) (ht : tau n = .inl 4) (hcells : cells + 1 ≤ R.cells) (hslots : slots + 4 ≤ R.slots) (hdg : decode cc pc = .ok (.new 9, 3)) (kk : ∀ H1 : Heap, sW G (n + 1) S H1 → W p l e R s m args below meth c H1 locs (cells + 1) (slots + 4) Q (F0 m (pc + 3) ls (.ref (G.2.2.1 + n) :: rest))) : W p l e R s m args below meth c H locs cells slots Q (F0 m pc ls rest) :=
  sNew (ci := 4) Cx inX4 tyX4_ok rfl w_622 w_623 w_216 hW ht (by decide) hcells hslots hdg kk
theorem c_X1_11 (Cx : sC G p m c cc nL s args RX1) {rm : Room} {mc ms : Nat} (h1 : rm.cells = mc) (h2 : rm.slots = ms) (h3 : rm.frames + 1 ≤ R.frames ∧ 8 + (1 + 11) + rm.locals ≤ R.locals) : va_CN R s args RX1 11 yX4_init "OptimumHouse" cX4_init 1 none (.code yX4_init cX4_init 1 none :: tb) rm mc ms 0 ∧ yX4_init.name = "<init>" ∧ (Cond.instanceMethod yX4_init).before args s = true :=
  ⟨sCN Cx 0 w_624 w_216 w_626 (by decide +kernel) h1 h2 h3, rfl, Cx.1.2.2.2.2 _ w_625⟩
theorem n_X4_9 (Cx : sC G p m c cc nL s args RX4) (hW : sW G n S H) (ht : tau n = .inl 10) (hcells : cells + 1 ≤ R.cells) (hslots : slots + 3 ≤ R.slots) (hdg : decode cc pc = .ok (.new 9, 3)) (kk : ∀ H1 : Heap, sW G (n + 1) S H1 → W p l e R s m args below meth c H1 locs (cells + 1) (slots + 3) Q (F0 m (pc + 3) ls (.ref (G.2.2.1 + n) :: rest))) : W p l e R s m args below meth c H locs cells slots Q (F0 m pc ls rest) :=
  sNew (ci := 10) Cx inX10 tyX10_ok rfl w_628 w_236 w_205 hW ht (by decide) hcells hslots hdg kk
theorem c_X4_11 (Cx : sC G p m c cc nL s args RX4) {rm : Room} {mc ms : Nat} (h1 : rm.cells = mc) (h2 : rm.slots = ms) (h3 : rm.frames + 1 ≤ R.frames ∧ 8 + (2 + 11) + rm.locals ≤ R.locals) : CallB R s args RX4 11 yX10_init cX10_init 2 none (.code yX10_init cX10_init 2 none :: tb) rm mc ms 1 ∧ yX10_init.name = "<init>" ∧ (Cond.instanceMethod yX10_init).before args s = true :=
  sCI Cx 1 w_629 w_238 w_205 w_239 rfl (by decide +kernel) h1 h2 h3
theorem p_X4_20 (Cx : sC G p m c cc nL s args RX4) (hin2 : meth.name = "<init>") (hW : sW G n S H) (hL : sL G locs) {k : Nat} (hk : k < n) (ht : tau k = .inl 4) {v : Nat} (hdg : decode cc pc = .ok (.putfield 20, 3)) (kk : ∀ (H1 : Heap) (locs1 : List Loc), sW G n (uR S k 1 (.ref v)) H1 → sL G locs1 → W p l e R s m args below meth c H1 locs1 cells slots Q (F0 m (pc + 3) ls rest)) : W p l e R s m args below meth c H locs cells slots Q (F0 m pc ls (.ref v :: .ref (G.2.2.1 + k) :: rest)) :=
  sPutF Cx inX4 tyX4 tyX4_ok nmX4 rfl 1 (by decide) w_631 rfl rfl hin2 hW hL hk ht rfl rfl (fun _ h => uR_same h) (fun _ h => uR_off h) uR_on hdg kk
theorem p_X1_12 (Cx : sC G p m c cc nL s args RX1) (hin2 : meth.name = "<init>") (hW : sW G n S H) (hL : sL G locs) {k : Nat} (hk : k < n) (ht : tau k = .inl 1) {v : Nat} (hdg : decode cc pc = .ok (.putfield 12, 3)) (kk : ∀ (H1 : Heap) (locs1 : List Loc), sW G n (uR S k 0 (.ref v)) H1 → sL G locs1 → W p l e R s m args below meth c H1 locs1 cells slots Q (F0 m (pc + 3) ls rest)) : W p l e R s m args below meth c H locs cells slots Q (F0 m pc ls (.ref v :: .ref (G.2.2.1 + k) :: rest)) :=
  sPutF Cx inX1 tyX1 tyX1_ok nmX1 rfl 0 (by decide) w_649 rfl rfl hin2 hW hL hk ht rfl rfl (fun _ h => uR_same h) (fun _ h => uR_off h) uR_on hdg kk
theorem n_X1_18 (Cx : sC G p m c cc nL s args RX1) (hW : sW G n S H) (ht : tau n = .inl 6) (hcells : cells + 1 ≤ R.cells) (hslots : slots + 10 ≤ R.slots) (hdg : decode cc pc = .ok (.new 18, 3)) (kk : ∀ H1 : Heap, sW G (n + 1) S H1 → W p l e R s m args below meth c H1 locs (cells + 1) (slots + 10) Q (F0 m (pc + 3) ls (.ref (G.2.2.1 + n) :: rest))) : W p l e R s m args below meth c H locs cells slots Q (F0 m pc ls rest) :=
  sNew (ci := 6) Cx inX6 tyX6_ok rfl w_643 w_388 w_211 hW ht (by decide) hcells hslots hdg kk
theorem c_X1_20 (Cx : sC G p m c cc nL s args RX1) {rm : Room} {mc ms : Nat} (h1 : rm.cells = mc) (h2 : rm.slots = ms) (h3 : rm.frames + 1 ≤ R.frames ∧ 8 + (1 + 11) + rm.locals ≤ R.locals) : va_CN R s args RX1 20 yX6_init "OptimumHouse" cX6_init 1 none (.code yX6_init cX6_init 1 none :: tb) rm mc ms 0 ∧ yX6_init.name = "<init>" ∧ (Cond.instanceMethod yX6_init).before args s = true :=
  ⟨sCN Cx 0 w_644 w_211 w_391 (by decide +kernel) h1 h2 h3, rfl, Cx.1.2.2.2.2 _ w_390⟩
theorem p_X1_21 (Cx : sC G p m c cc nL s args RX1) (hin2 : meth.name = "<init>") (hW : sW G n S H) (hL : sL G locs) {k : Nat} (hk : k < n) (ht : tau k = .inl 1) {v : Nat} (hdg : decode cc pc = .ok (.putfield 21, 3)) (kk : ∀ (H1 : Heap) (locs1 : List Loc), sW G n (uR S k 1 (.ref v)) H1 → sL G locs1 → W p l e R s m args below meth c H1 locs1 cells slots Q (F0 m (pc + 3) ls rest)) : W p l e R s m args below meth c H locs cells slots Q (F0 m pc ls (.ref v :: .ref (G.2.2.1 + k) :: rest)) :=
  sPutF Cx inX1 tyX1 tyX1_ok nmX1 rfl 1 (by decide) w_650 rfl rfl hin2 hW hL hk ht rfl rfl (fun _ h => uR_same h) (fun _ h => uR_off h) uR_on hdg kk
theorem p_X1_27 (Cx : sC G p m c cc nL s args RX1) (hin2 : meth.name = "<init>") (hW : sW G n S H) (hL : sL G locs) {k : Nat} (hk : k < n) (ht : tau k = .inl 1) {v : Nat} (hdg : decode cc pc = .ok (.putfield 27, 3)) (kk : ∀ (H1 : Heap) (locs1 : List Loc), sW G n (uR S k 2 (.ref v)) H1 → sL G locs1 → W p l e R s m args below meth c H1 locs1 cells slots Q (F0 m (pc + 3) ls rest)) : W p l e R s m args below meth c H locs cells slots Q (F0 m pc ls (.ref v :: .ref (G.2.2.1 + k) :: rest)) :=
  sPutF Cx inX1 tyX1 tyX1_ok nmX1 rfl 2 (by decide) w_651 rfl rfl hin2 hW hL hk ht rfl rfl (fun _ h => uR_same h) (fun _ h => uR_off h) uR_on hdg kk
theorem n_X1_25 (Cx : sC G p m c cc nL s args RX1) (hW : sW G n S H) (ht : tau n = .inl 0) (hcells : cells + 1 ≤ R.cells) (hslots : slots + 3 ≤ R.slots) (hdg : decode cc pc = .ok (.new 25, 3)) (kk : ∀ H1 : Heap, sW G (n + 1) S H1 → W p l e R s m args below meth c H1 locs (cells + 1) (slots + 3) Q (F0 m (pc + 3) ls (.ref (G.2.2.1 + n) :: rest))) : W p l e R s m args below meth c H locs cells slots Q (F0 m pc ls rest) :=
  sNew (ci := 0) Cx inX0 tyX0_ok rfl w_645 w_394 w_212 hW ht (by decide) hcells hslots hdg kk
theorem c_X1_31 (Cx : sC G p m c cc nL s args RX1) {rm : Room} {mc ms : Nat} (h1 : rm.cells = mc) (h2 : rm.slots = ms) (h3 : rm.frames + 1 ≤ R.frames ∧ 8 + (1 + 11) + rm.locals ≤ R.locals) : va_CN R s args RX1 31 yX0_init "OptimumHouse" cX0_init 1 none (.code yX0_init cX0_init 1 none :: tb) rm mc ms 0 ∧ yX0_init.name = "<init>" ∧ (Cond.instanceMethod yX0_init).before args s = true :=
  ⟨sCN Cx 0 w_646 w_212 w_397 (by decide +kernel) h1 h2 h3, rfl, Cx.1.2.2.2.2 _ w_396⟩
theorem p_X1_32 (Cx : sC G p m c cc nL s args RX1) (hin2 : meth.name = "<init>") (hW : sW G n S H) (hL : sL G locs) {k : Nat} (hk : k < n) (ht : tau k = .inl 1) {v : Nat} (hdg : decode cc pc = .ok (.putfield 32, 3)) (kk : ∀ (H1 : Heap) (locs1 : List Loc), sW G n (uR S k 3 (.ref v)) H1 → sL G locs1 → W p l e R s m args below meth c H1 locs1 cells slots Q (F0 m (pc + 3) ls rest)) : W p l e R s m args below meth c H locs cells slots Q (F0 m pc ls (.ref v :: .ref (G.2.2.1 + k) :: rest)) :=
  sPutF Cx inX1 tyX1 tyX1_ok nmX1 rfl 3 (by decide) w_652 rfl rfl hin2 hW hL hk ht rfl rfl (fun _ h => uR_same h) (fun _ h => uR_off h) uR_on hdg kk
theorem p_X1_36 (Cx : sC G p m c cc nL s args RX1) (hin2 : meth.name = "<init>") (hW : sW G n S H) (hL : sL G locs) {k : Nat} (hk : k < n) (ht : tau k = .inl 1) {v : Nat} (hdg : decode cc pc = .ok (.putfield 36, 3)) (kk : ∀ (H1 : Heap) (locs1 : List Loc), sW G n (uR S k 4 (.ref v)) H1 → sL G locs1 → W p l e R s m args below meth c H1 locs1 cells slots Q (F0 m (pc + 3) ls rest)) : W p l e R s m args below meth c H locs cells slots Q (F0 m pc ls (.ref v :: .ref (G.2.2.1 + k) :: rest)) :=
  sPutF Cx inX1 tyX1 tyX1_ok nmX1 rfl 4 (by decide) w_653 rfl rfl hin2 hW hL hk ht rfl rfl (fun _ h => uR_same h) (fun _ h => uR_off h) uR_on hdg kk
theorem p_X1_39 (Cx : sC G p m c cc nL s args RX1) (hin2 : meth.name = "<init>") (hW : sW G n S H) (hL : sL G locs) {k : Nat} (hk : k < n) (ht : tau k = .inl 1) {v : Nat} (hdg : decode cc pc = .ok (.putfield 39, 3)) (kk : ∀ (H1 : Heap) (locs1 : List Loc), sW G n (uR S k 5 (.ref v)) H1 → sL G locs1 → W p l e R s m args below meth c H1 locs1 cells slots Q (F0 m (pc + 3) ls rest)) : W p l e R s m args below meth c H locs cells slots Q (F0 m pc ls (.ref v :: .ref (G.2.2.1 + k) :: rest)) :=
  sPutF Cx inX1 tyX1 tyX1_ok nmX1 rfl 5 (by decide) w_654 rfl rfl hin2 hW hL hk ht rfl rfl (fun _ h => uR_same h) (fun _ h => uR_off h) uR_on hdg kk
theorem p_X1_42 (Cx : sC G p m c cc nL s args RX1) (hin2 : meth.name = "<init>") (hW : sW G n S H) (hL : sL G locs) {k : Nat} (hk : k < n) (ht : tau k = .inl 1) {v : Nat} (hdg : decode cc pc = .ok (.putfield 42, 3)) (kk : ∀ (H1 : Heap) (locs1 : List Loc), sW G n (uR S k 6 (.ref v)) H1 → sL G locs1 → W p l e R s m args below meth c H1 locs1 cells slots Q (F0 m (pc + 3) ls rest)) : W p l e R s m args below meth c H locs cells slots Q (F0 m pc ls (.ref v :: .ref (G.2.2.1 + k) :: rest)) :=
  sPutF Cx inX1 tyX1 tyX1_ok nmX1 rfl 6 (by decide) w_655 rfl rfl hin2 hW hL hk ht rfl rfl (fun _ h => uR_same h) (fun _ h => uR_off h) uR_on hdg kk
theorem p_X1_45 (Cx : sC G p m c cc nL s args RX1) (hin2 : meth.name = "<init>") (hW : sW G n S H) (hL : sL G locs) {k : Nat} (hk : k < n) (ht : tau k = .inl 1) {v : Nat} (hdg : decode cc pc = .ok (.putfield 45, 3)) (kk : ∀ (H1 : Heap) (locs1 : List Loc), sW G n (uR S k 7 (.ref v)) H1 → sL G locs1 → W p l e R s m args below meth c H1 locs1 cells slots Q (F0 m (pc + 3) ls rest)) : W p l e R s m args below meth c H locs cells slots Q (F0 m pc ls (.ref v :: .ref (G.2.2.1 + k) :: rest)) :=
  sPutF Cx inX1 tyX1 tyX1_ok nmX1 rfl 7 (by decide) w_656 rfl rfl hin2 hW hL hk ht rfl rfl (fun _ h => uR_same h) (fun _ h => uR_off h) uR_on hdg kk
theorem p_X1_48 (Cx : sC G p m c cc nL s args RX1) (hin2 : meth.name = "<init>") (hW : sW G n S H) (hL : sL G locs) {k : Nat} (hk : k < n) (ht : tau k = .inl 1) {v : Nat} (hdg : decode cc pc = .ok (.putfield 48, 3)) (kk : ∀ (H1 : Heap) (locs1 : List Loc), sW G n (uR S k 8 (.ref v)) H1 → sL G locs1 → W p l e R s m args below meth c H1 locs1 cells slots Q (F0 m (pc + 3) ls rest)) : W p l e R s m args below meth c H locs cells slots Q (F0 m pc ls (.ref v :: .ref (G.2.2.1 + k) :: rest)) :=
  sPutF Cx inX1 tyX1 tyX1_ok nmX1 rfl 8 (by decide) w_657 rfl rfl hin2 hW hL hk ht rfl rfl (fun _ h => uR_same h) (fun _ h => uR_off h) uR_on hdg kk
theorem p_X1_51 (Cx : sC G p m c cc nL s args RX1) (hin2 : meth.name = "<init>") (hW : sW G n S H) (hL : sL G locs) {k : Nat} (hk : k < n) (ht : tau k = .inl 1) {v : Nat} (hdg : decode cc pc = .ok (.putfield 51, 3)) (kk : ∀ (H1 : Heap) (locs1 : List Loc), sW G n (uR S k 9 (.ref v)) H1 → sL G locs1 → W p l e R s m args below meth c H1 locs1 cells slots Q (F0 m (pc + 3) ls rest)) : W p l e R s m args below meth c H locs cells slots Q (F0 m pc ls (.ref v :: .ref (G.2.2.1 + k) :: rest)) :=
  sPutF Cx inX1 tyX1 tyX1_ok nmX1 rfl 9 (by decide) w_658 rfl rfl hin2 hW hL hk ht rfl rfl (fun _ h => uR_same h) (fun _ h => uR_off h) uR_on hdg kk
theorem p_X1_54 (Cx : sC G p m c cc nL s args RX1) (hin2 : meth.name = "<init>") (hW : sW G n S H) (hL : sL G locs) {k : Nat} (hk : k < n) (ht : tau k = .inl 1) {v : Nat} (hdg : decode cc pc = .ok (.putfield 54, 3)) (kk : ∀ (H1 : Heap) (locs1 : List Loc), sW G n (uR S k 10 (.ref v)) H1 → sL G locs1 → W p l e R s m args below meth c H1 locs1 cells slots Q (F0 m (pc + 3) ls rest)) : W p l e R s m args below meth c H locs cells slots Q (F0 m pc ls (.ref v :: .ref (G.2.2.1 + k) :: rest)) :=
  sPutF Cx inX1 tyX1 tyX1_ok nmX1 rfl 10 (by decide) w_659 rfl rfl hin2 hW hL hk ht rfl rfl (fun _ h => uR_same h) (fun _ h => uR_off h) uR_on hdg kk
theorem p_X1_57 (Cx : sC G p m c cc nL s args RX1) (hin2 : meth.name = "<init>") (hW : sW G n S H) (hL : sL G locs) {k : Nat} (hk : k < n) (ht : tau k = .inl 1) {v : Nat} (hdg : decode cc pc = .ok (.putfield 57, 3)) (kk : ∀ (H1 : Heap) (locs1 : List Loc), sW G n (uR S k 11 (.ref v)) H1 → sL G locs1 → W p l e R s m args below meth c H1 locs1 cells slots Q (F0 m (pc + 3) ls rest)) : W p l e R s m args below meth c H locs cells slots Q (F0 m pc ls (.ref v :: .ref (G.2.2.1 + k) :: rest)) :=
  sPutF Cx inX1 tyX1 tyX1_ok nmX1 rfl 11 (by decide) w_660 rfl rfl hin2 hW hL hk ht rfl rfl (fun _ h => uR_same h) (fun _ h => uR_off h) uR_on hdg kk
theorem p_X1_60 (Cx : sC G p m c cc nL s args RX1) (hin2 : meth.name = "<init>") (hW : sW G n S H) (hL : sL G locs) {k : Nat} (hk : k < n) (ht : tau k = .inl 1) {v : Nat} (hdg : decode cc pc = .ok (.putfield 60, 3)) (kk : ∀ (H1 : Heap) (locs1 : List Loc), sW G n (uR S k 12 (.ref v)) H1 → sL G locs1 → W p l e R s m args below meth c H1 locs1 cells slots Q (F0 m (pc + 3) ls rest)) : W p l e R s m args below meth c H locs cells slots Q (F0 m pc ls (.ref v :: .ref (G.2.2.1 + k) :: rest)) :=
  sPutF Cx inX1 tyX1 tyX1_ok nmX1 rfl 12 (by decide) w_661 rfl rfl hin2 hW hL hk ht rfl rfl (fun _ h => uR_same h) (fun _ h => uR_off h) uR_on hdg kk
theorem p_X1_63 (Cx : sC G p m c cc nL s args RX1) (hin2 : meth.name = "<init>") (hW : sW G n S H) (hL : sL G locs) {k : Nat} (hk : k < n) (ht : tau k = .inl 1) {v : Nat} (hdg : decode cc pc = .ok (.putfield 63, 3)) (kk : ∀ (H1 : Heap) (locs1 : List Loc), sW G n (uR S k 13 (.ref v)) H1 → sL G locs1 → W p l e R s m args below meth c H1 locs1 cells slots Q (F0 m (pc + 3) ls rest)) : W p l e R s m args below meth c H locs cells slots Q (F0 m pc ls (.ref v :: .ref (G.2.2.1 + k) :: rest)) :=
  sPutF Cx inX1 tyX1 tyX1_ok nmX1 rfl 13 (by decide) w_662 rfl rfl hin2 hW hL hk ht rfl rfl (fun _ h => uR_same h) (fun _ h => uR_off h) uR_on hdg kk
theorem n_X1_66 (Cx : sC G p m c cc nL s args RX1) (hW : sW G n S H) (ht : tau n = .inl 3) (hcells : cells + 1 ≤ R.cells) (hslots : slots + 5 ≤ R.slots) (hdg : decode cc pc = .ok (.new 66, 3)) (kk : ∀ H1 : Heap, sW G (n + 1) S H1 → W p l e R s m args below meth c H1 locs (cells + 1) (slots + 5) Q (F0 m (pc + 3) ls (.ref (G.2.2.1 + n) :: rest))) : W p l e R s m args below meth c H locs cells slots Q (F0 m pc ls rest) :=
  sNew (ci := 3) Cx inX3 tyX3_ok rfl w_647 w_256 w_207 hW ht (by decide) hcells hslots hdg kk
theorem c_X1_68 (Cx : sC G p m c cc nL s args RX1) {rm : Room} {mc ms : Nat} (h1 : rm.cells = mc) (h2 : rm.slots = ms) (h3 : rm.frames + 1 ≤ R.frames ∧ 8 + (1 + 11) + rm.locals ≤ R.locals) : va_CN R s args RX1 68 yX3_init "OptimumHouse" cX3_init 1 none (.code yX3_init cX3_init 1 none :: tb) rm mc ms 0 ∧ yX3_init.name = "<init>" ∧ (Cond.instanceMethod yX3_init).before args s = true :=
  ⟨sCN Cx 0 w_648 w_207 w_259 (by decide +kernel) h1 h2 h3, rfl, Cx.1.2.2.2.2 _ w_258⟩
theorem p_X11_48 (Cx : sC G p m c cc nL s args RX11) (hin2 : meth.name = "<init>") (hW : sW G n S H) (hL : sL G locs) {k : Nat} (hk : k < n) (ht : tau k = .inl 11) {v : Nat} (hdg : decode cc pc = .ok (.putfield 48, 3)) (kk : ∀ (H1 : Heap) (locs1 : List Loc), sW G n (uR S k 4 (.ref v)) H1 → sL G locs1 → W p l e R s m args below meth c H1 locs1 cells slots Q (F0 m (pc + 3) ls rest)) : W p l e R s m args below meth c H locs cells slots Q (F0 m pc ls (.ref v :: .ref (G.2.2.1 + k) :: rest)) :=
  sPutF Cx inX11 tyX11 tyX11_ok nmX11 rfl 4 (by decide) w_708 rfl rfl hin2 hW hL hk ht rfl rfl (fun _ h => uR_same h) (fun _ h => uR_off h) uR_on hdg kk
theorem p_X12_9 (Cx : sC G p m c cc nL s args RX12) (hin2 : meth.name = "<init>") (hW : sW G n S H) (hL : sL G locs) {k : Nat} (hk : k < n) (ht : tau k = .inl 12) {v : Nat} (hdg : decode cc pc = .ok (.putfield 9, 3)) (kk : ∀ (H1 : Heap) (locs1 : List Loc), sW G n (uR S k 0 (.ref v)) H1 → sL G locs1 → W p l e R s m args below meth c H1 locs1 cells slots Q (F0 m (pc + 3) ls rest)) : W p l e R s m args below meth c H locs cells slots Q (F0 m pc ls (.ref v :: .ref (G.2.2.1 + k) :: rest)) :=
  sPutF Cx inX12 tyX12 tyX12_ok nmX12 rfl 0 (by decide) w_1961 rfl rfl hin2 hW hL hk ht rfl rfl (fun _ h => uR_same h) (fun _ h => uR_off h) uR_on hdg kk
theorem p_X12_13 (Cx : sC G p m c cc nL s args RX12) (hin2 : meth.name = "<init>") (hW : sW G n S H) (hL : sL G locs) {k : Nat} (hk : k < n) (ht : tau k = .inl 12) {v : Nat} (hdg : decode cc pc = .ok (.putfield 13, 3)) (kk : ∀ (H1 : Heap) (locs1 : List Loc), sW G n (uR S k 2 (.ref v)) H1 → sL G locs1 → W p l e R s m args below meth c H1 locs1 cells slots Q (F0 m (pc + 3) ls rest)) : W p l e R s m args below meth c H locs cells slots Q (F0 m pc ls (.ref v :: .ref (G.2.2.1 + k) :: rest)) :=
  sPutF Cx inX12 tyX12 tyX12_ok nmX12 rfl 2 (by decide) w_1963 rfl rfl hin2 hW hL hk ht rfl rfl (fun _ h => uR_same h) (fun _ h => uR_off h) uR_on hdg kk
theorem p_X12_17 (Cx : sC G p m c cc nL s args RX12) (hin2 : meth.name = "<init>") (hW : sW G n S H) (hL : sL G locs) {k : Nat} (hk : k < n) (ht : tau k = .inl 12) {v : Nat} (hdg : decode cc pc = .ok (.putfield 17, 3)) (kk : ∀ (H1 : Heap) (locs1 : List Loc), sW G n (uR S k 3 (.ref v)) H1 → sL G locs1 → W p l e R s m args below meth c H1 locs1 cells slots Q (F0 m (pc + 3) ls rest)) : W p l e R s m args below meth c H locs cells slots Q (F0 m pc ls (.ref v :: .ref (G.2.2.1 + k) :: rest)) :=
  sPutF Cx inX12 tyX12 tyX12_ok nmX12 rfl 3 (by decide) w_1964 rfl rfl hin2 hW hL hk ht rfl rfl (fun _ h => uR_same h) (fun _ h => uR_off h) uR_on hdg kk
theorem p_X12_20 (Cx : sC G p m c cc nL s args RX12) (hin2 : meth.name = "<init>") (hW : sW G n S H) (hL : sL G locs) {k : Nat} (hk : k < n) (ht : tau k = .inl 12) {v : Nat} (hdg : decode cc pc = .ok (.putfield 20, 3)) (kk : ∀ (H1 : Heap) (locs1 : List Loc), sW G n (uR S k 4 (.ref v)) H1 → sL G locs1 → W p l e R s m args below meth c H1 locs1 cells slots Q (F0 m (pc + 3) ls rest)) : W p l e R s m args below meth c H locs cells slots Q (F0 m pc ls (.ref v :: .ref (G.2.2.1 + k) :: rest)) :=
  sPutF Cx inX12 tyX12 tyX12_ok nmX12 rfl 4 (by decide) w_1965 rfl rfl hin2 hW hL hk ht rfl rfl (fun _ h => uR_same h) (fun _ h => uR_off h) uR_on hdg kk
theorem p_X12_23 (Cx : sC G p m c cc nL s args RX12) (hin2 : meth.name = "<init>") (hW : sW G n S H) (hL : sL G locs) {k : Nat} (hk : k < n) (ht : tau k = .inl 12) {v : Nat} (hdg : decode cc pc = .ok (.putfield 23, 3)) (kk : ∀ (H1 : Heap) (locs1 : List Loc), sW G n (uR S k 5 (.ref v)) H1 → sL G locs1 → W p l e R s m args below meth c H1 locs1 cells slots Q (F0 m (pc + 3) ls rest)) : W p l e R s m args below meth c H locs cells slots Q (F0 m pc ls (.ref v :: .ref (G.2.2.1 + k) :: rest)) :=
  sPutF Cx inX12 tyX12 tyX12_ok nmX12 rfl 5 (by decide) w_1966 rfl rfl hin2 hW hL hk ht rfl rfl (fun _ h => uR_same h) (fun _ h => uR_off h) uR_on hdg kk
theorem p_X12_26 (Cx : sC G p m c cc nL s args RX12) (hin2 : meth.name = "<init>") (hW : sW G n S H) (hL : sL G locs) {k : Nat} (hk : k < n) (ht : tau k = .inl 12) {v : Nat} (hdg : decode cc pc = .ok (.putfield 26, 3)) (kk : ∀ (H1 : Heap) (locs1 : List Loc), sW G n (uR S k 7 (.ref v)) H1 → sL G locs1 → W p l e R s m args below meth c H1 locs1 cells slots Q (F0 m (pc + 3) ls rest)) : W p l e R s m args below meth c H locs cells slots Q (F0 m pc ls (.ref v :: .ref (G.2.2.1 + k) :: rest)) :=
  sPutF Cx inX12 tyX12 tyX12_ok nmX12 rfl 7 (by decide) w_1968 rfl rfl hin2 hW hL hk ht rfl rfl (fun _ h => uR_same h) (fun _ h => uR_off h) uR_on hdg kk
theorem p_X12_29 (Cx : sC G p m c cc nL s args RX12) (hin2 : meth.name = "<init>") (hW : sW G n S H) (hL : sL G locs) {k : Nat} (hk : k < n) (ht : tau k = .inl 12) {v : Nat} (hdg : decode cc pc = .ok (.putfield 29, 3)) (kk : ∀ (H1 : Heap) (locs1 : List Loc), sW G n (uR S k 8 (.ref v)) H1 → sL G locs1 → W p l e R s m args below meth c H1 locs1 cells slots Q (F0 m (pc + 3) ls rest)) : W p l e R s m args below meth c H locs cells slots Q (F0 m pc ls (.ref v :: .ref (G.2.2.1 + k) :: rest)) :=
  sPutF Cx inX12 tyX12 tyX12_ok nmX12 rfl 8 (by decide) w_1969 rfl rfl hin2 hW hL hk ht rfl rfl (fun _ h => uR_same h) (fun _ h => uR_off h) uR_on hdg kk
theorem p_X12_32 (Cx : sC G p m c cc nL s args RX12) (hin2 : meth.name = "<init>") (hW : sW G n S H) (hL : sL G locs) {k : Nat} (hk : k < n) (ht : tau k = .inl 12) {v : Nat} (hdg : decode cc pc = .ok (.putfield 32, 3)) (kk : ∀ (H1 : Heap) (locs1 : List Loc), sW G n (uR S k 9 (.ref v)) H1 → sL G locs1 → W p l e R s m args below meth c H1 locs1 cells slots Q (F0 m (pc + 3) ls rest)) : W p l e R s m args below meth c H locs cells slots Q (F0 m pc ls (.ref v :: .ref (G.2.2.1 + k) :: rest)) :=
  sPutF Cx inX12 tyX12 tyX12_ok nmX12 rfl 9 (by decide) w_1970 rfl rfl hin2 hW hL hk ht rfl rfl (fun _ h => uR_same h) (fun _ h => uR_off h) uR_on hdg kk
theorem p_X12_35 (Cx : sC G p m c cc nL s args RX12) (hin2 : meth.name = "<init>") (hW : sW G n S H) (hL : sL G locs) {k : Nat} (hk : k < n) (ht : tau k = .inl 12) {v : Nat} (hdg : decode cc pc = .ok (.putfield 35, 3)) (kk : ∀ (H1 : Heap) (locs1 : List Loc), sW G n (uR S k 10 (.ref v)) H1 → sL G locs1 → W p l e R s m args below meth c H1 locs1 cells slots Q (F0 m (pc + 3) ls rest)) : W p l e R s m args below meth c H locs cells slots Q (F0 m pc ls (.ref v :: .ref (G.2.2.1 + k) :: rest)) :=
  sPutF Cx inX12 tyX12 tyX12_ok nmX12 rfl 10 (by decide) w_1971 rfl rfl hin2 hW hL hk ht rfl rfl (fun _ h => uR_same h) (fun _ h => uR_off h) uR_on hdg kk
theorem p_X12_38 (Cx : sC G p m c cc nL s args RX12) (hin2 : meth.name = "<init>") (hW : sW G n S H) (hL : sL G locs) {k : Nat} (hk : k < n) (ht : tau k = .inl 12) {v : Nat} (hdg : decode cc pc = .ok (.putfield 38, 3)) (kk : ∀ (H1 : Heap) (locs1 : List Loc), sW G n (uR S k 11 (.ref v)) H1 → sL G locs1 → W p l e R s m args below meth c H1 locs1 cells slots Q (F0 m (pc + 3) ls rest)) : W p l e R s m args below meth c H locs cells slots Q (F0 m pc ls (.ref v :: .ref (G.2.2.1 + k) :: rest)) :=
  sPutF Cx inX12 tyX12 tyX12_ok nmX12 rfl 11 (by decide) w_1972 rfl rfl hin2 hW hL hk ht rfl rfl (fun _ h => uR_same h) (fun _ h => uR_off h) uR_on hdg kk
theorem p_X12_41 (Cx : sC G p m c cc nL s args RX12) (hin2 : meth.name = "<init>") (hW : sW G n S H) (hL : sL G locs) {k : Nat} (hk : k < n) (ht : tau k = .inl 12) {v : Nat} (hdg : decode cc pc = .ok (.putfield 41, 3)) (kk : ∀ (H1 : Heap) (locs1 : List Loc), sW G n (uR S k 12 (.ref v)) H1 → sL G locs1 → W p l e R s m args below meth c H1 locs1 cells slots Q (F0 m (pc + 3) ls rest)) : W p l e R s m args below meth c H locs cells slots Q (F0 m pc ls (.ref v :: .ref (G.2.2.1 + k) :: rest)) :=
  sPutF Cx inX12 tyX12 tyX12_ok nmX12 rfl 12 (by decide) w_1973 rfl rfl hin2 hW hL hk ht rfl rfl (fun _ h => uR_same h) (fun _ h => uR_off h) uR_on hdg kk
theorem p_X12_44 (Cx : sC G p m c cc nL s args RX12) (hin2 : meth.name = "<init>") (hW : sW G n S H) (hL : sL G locs) {k : Nat} (hk : k < n) (ht : tau k = .inl 12) {v : Nat} (hdg : decode cc pc = .ok (.putfield 44, 3)) (kk : ∀ (H1 : Heap) (locs1 : List Loc), sW G n (uR S k 13 (.ref v)) H1 → sL G locs1 → W p l e R s m args below meth c H1 locs1 cells slots Q (F0 m (pc + 3) ls rest)) : W p l e R s m args below meth c H locs cells slots Q (F0 m pc ls (.ref v :: .ref (G.2.2.1 + k) :: rest)) :=
  sPutF Cx inX12 tyX12 tyX12_ok nmX12 rfl 13 (by decide) w_1974 rfl rfl hin2 hW hL hk ht rfl rfl (fun _ h => uR_same h) (fun _ h => uR_off h) uR_on hdg kk
theorem p_X12_47 (Cx : sC G p m c cc nL s args RX12) (hin2 : meth.name = "<init>") (hW : sW G n S H) (hL : sL G locs) {k : Nat} (hk : k < n) (ht : tau k = .inl 12) {v : Nat} (hdg : decode cc pc = .ok (.putfield 47, 3)) (kk : ∀ (H1 : Heap) (locs1 : List Loc), sW G n (uR S k 15 (.ref v)) H1 → sL G locs1 → W p l e R s m args below meth c H1 locs1 cells slots Q (F0 m (pc + 3) ls rest)) : W p l e R s m args below meth c H locs cells slots Q (F0 m pc ls (.ref v :: .ref (G.2.2.1 + k) :: rest)) :=
  sPutF Cx inX12 tyX12 tyX12_ok nmX12 rfl 15 (by decide) w_1976 rfl rfl hin2 hW hL hk ht rfl rfl (fun _ h => uR_same h) (fun _ h => uR_off h) uR_on hdg kk
theorem p_X12_50 (Cx : sC G p m c cc nL s args RX12) (hin2 : meth.name = "<init>") (hW : sW G n S H) (hL : sL G locs) {k : Nat} (hk : k < n) (ht : tau k = .inl 12) {v : Nat} (hdg : decode cc pc = .ok (.putfield 50, 3)) (kk : ∀ (H1 : Heap) (locs1 : List Loc), sW G n (uR S k 16 (.ref v)) H1 → sL G locs1 → W p l e R s m args below meth c H1 locs1 cells slots Q (F0 m (pc + 3) ls rest)) : W p l e R s m args below meth c H locs cells slots Q (F0 m pc ls (.ref v :: .ref (G.2.2.1 + k) :: rest)) :=
  sPutF Cx inX12 tyX12 tyX12_ok nmX12 rfl 16 (by decide) w_1977 rfl rfl hin2 hW hL hk ht rfl rfl (fun _ h => uR_same h) (fun _ h => uR_off h) uR_on hdg kk
theorem p_X12_53 (Cx : sC G p m c cc nL s args RX12) (hin2 : meth.name = "<init>") (hW : sW G n S H) (hL : sL G locs) {k : Nat} (hk : k < n) (ht : tau k = .inl 12) {v : Nat} (hdg : decode cc pc = .ok (.putfield 53, 3)) (kk : ∀ (H1 : Heap) (locs1 : List Loc), sW G n (uR S k 17 (.ref v)) H1 → sL G locs1 → W p l e R s m args below meth c H1 locs1 cells slots Q (F0 m (pc + 3) ls rest)) : W p l e R s m args below meth c H locs cells slots Q (F0 m pc ls (.ref v :: .ref (G.2.2.1 + k) :: rest)) :=
  sPutF Cx inX12 tyX12 tyX12_ok nmX12 rfl 17 (by decide) w_1978 rfl rfl hin2 hW hL hk ht rfl rfl (fun _ h => uR_same h) (fun _ h => uR_off h) uR_on hdg kk
theorem p_X12_56 (Cx : sC G p m c cc nL s args RX12) (hin2 : meth.name = "<init>") (hW : sW G n S H) (hL : sL G locs) {k : Nat} (hk : k < n) (ht : tau k = .inl 12) {v : Nat} (hdg : decode cc pc = .ok (.putfield 56, 3)) (kk : ∀ (H1 : Heap) (locs1 : List Loc), sW G n (uR S k 18 (.ref v)) H1 → sL G locs1 → W p l e R s m args below meth c H1 locs1 cells slots Q (F0 m (pc + 3) ls rest)) : W p l e R s m args below meth c H locs cells slots Q (F0 m pc ls (.ref v :: .ref (G.2.2.1 + k) :: rest)) :=
  sPutF Cx inX12 tyX12 tyX12_ok nmX12 rfl 18 (by decide) w_1979 rfl rfl hin2 hW hL hk ht rfl rfl (fun _ h => uR_same h) (fun _ h => uR_off h) uR_on hdg kk
theorem p_X12_59 (Cx : sC G p m c cc nL s args RX12) (hin2 : meth.name = "<init>") (hW : sW G n S H) (hL : sL G locs) {k : Nat} (hk : k < n) (ht : tau k = .inl 12) {v : Nat} (hdg : decode cc pc = .ok (.putfield 59, 3)) (kk : ∀ (H1 : Heap) (locs1 : List Loc), sW G n (uR S k 26 (.ref v)) H1 → sL G locs1 → W p l e R s m args below meth c H1 locs1 cells slots Q (F0 m (pc + 3) ls rest)) : W p l e R s m args below meth c H locs cells slots Q (F0 m pc ls (.ref v :: .ref (G.2.2.1 + k) :: rest)) :=
  sPutF Cx inX12 tyX12 tyX12_ok nmX12 rfl 26 (by decide) w_1987 rfl rfl hin2 hW hL hk ht rfl rfl (fun _ h => uR_same h) (fun _ h => uR_off h) uR_on hdg kk
theorem p_X12_62 (Cx : sC G p m c cc nL s args RX12) (hin2 : meth.name = "<init>") (hW : sW G n S H) (hL : sL G locs) {k : Nat} (hk : k < n) (ht : tau k = .inl 12) {v : Nat} (hdg : decode cc pc = .ok (.putfield 62, 3)) (kk : ∀ (H1 : Heap) (locs1 : List Loc), sW G n (uR S k 27 (.ref v)) H1 → sL G locs1 → W p l e R s m args below meth c H1 locs1 cells slots Q (F0 m (pc + 3) ls rest)) : W p l e R s m args below meth c H locs cells slots Q (F0 m pc ls (.ref v :: .ref (G.2.2.1 + k) :: rest)) :=
  sPutF Cx inX12 tyX12 tyX12_ok nmX12 rfl 27 (by decide) w_1988 rfl rfl hin2 hW hL hk ht rfl rfl (fun _ h => uR_same h) (fun _ h => uR_off h) uR_on hdg kk
theorem p_X12_65 (Cx : sC G p m c cc nL s args RX12) (hin2 : meth.name = "<init>") (hW : sW G n S H) (hL : sL G locs) {k : Nat} (hk : k < n) (ht : tau k = .inl 12) {v : Nat} (hdg : decode cc pc = .ok (.putfield 65, 3)) (kk : ∀ (H1 : Heap) (locs1 : List Loc), sW G n (uR S k 28 (.ref v)) H1 → sL G locs1 → W p l e R s m args below meth c H1 locs1 cells slots Q (F0 m (pc + 3) ls rest)) : W p l e R s m args below meth c H locs cells slots Q (F0 m pc ls (.ref v :: .ref (G.2.2.1 + k) :: rest)) :=
  sPutF Cx inX12 tyX12 tyX12_ok nmX12 rfl 28 (by decide) w_1989 rfl rfl hin2 hW hL hk ht rfl rfl (fun _ h => uR_same h) (fun _ h => uR_off h) uR_on hdg kk
theorem p_X12_68 (Cx : sC G p m c cc nL s args RX12) (hin2 : meth.name = "<init>") (hW : sW G n S H) (hL : sL G locs) {k : Nat} (hk : k < n) (ht : tau k = .inl 12) {v : Nat} (hdg : decode cc pc = .ok (.putfield 68, 3)) (kk : ∀ (H1 : Heap) (locs1 : List Loc), sW G n (uR S k 29 (.ref v)) H1 → sL G locs1 → W p l e R s m args below meth c H1 locs1 cells slots Q (F0 m (pc + 3) ls rest)) : W p l e R s m args below meth c H locs cells slots Q (F0 m pc ls (.ref v :: .ref (G.2.2.1 + k) :: rest)) :=
  sPutF Cx inX12 tyX12 tyX12_ok nmX12 rfl 29 (by decide) w_1990 rfl rfl hin2 hW hL hk ht rfl rfl (fun _ h => uR_same h) (fun _ h => uR_off h) uR_on hdg kk
theorem p_X12_71 (Cx : sC G p m c cc nL s args RX12) (hin2 : meth.name = "<init>") (hW : sW G n S H) (hL : sL G locs) {k : Nat} (hk : k < n) (ht : tau k = .inl 12) {v : Nat} (hdg : decode cc pc = .ok (.putfield 71, 3)) (kk : ∀ (H1 : Heap) (locs1 : List Loc), sW G n (uR S k 30 (.ref v)) H1 → sL G locs1 → W p l e R s m args below meth c H1 locs1 cells slots Q (F0 m (pc + 3) ls rest)) : W p l e R s m args below meth c H locs cells slots Q (F0 m pc ls (.ref v :: .ref (G.2.2.1 + k) :: rest)) :=
  sPutF Cx inX12 tyX12 tyX12_ok nmX12 rfl 30 (by decide) w_1991 rfl rfl hin2 hW hL hk ht rfl rfl (fun _ h => uR_same h) (fun _ h => uR_off h) uR_on hdg kk
theorem p_X12_74 (Cx : sC G p m c cc nL s args RX12) (hin2 : meth.name = "<init>") (hW : sW G n S H) (hL : sL G locs) {k : Nat} (hk : k < n) (ht : tau k = .inl 12) {v : Nat} (hdg : decode cc pc = .ok (.putfield 74, 3)) (kk : ∀ (H1 : Heap) (locs1 : List Loc), sW G n (uR S k 31 (.ref v)) H1 → sL G locs1 → W p l e R s m args below meth c H1 locs1 cells slots Q (F0 m (pc + 3) ls rest)) : W p l e R s m args below meth c H locs cells slots Q (F0 m pc ls (.ref v :: .ref (G.2.2.1 + k) :: rest)) :=
  sPutF Cx inX12 tyX12 tyX12_ok nmX12 rfl 31 (by decide) w_1992 rfl rfl hin2 hW hL hk ht rfl rfl (fun _ h => uR_same h) (fun _ h => uR_off h) uR_on hdg kk
theorem p_X12_77 (Cx : sC G p m c cc nL s args RX12) (hin2 : meth.name = "<init>") (hW : sW G n S H) (hL : sL G locs) {k : Nat} (hk : k < n) (ht : tau k = .inl 12) {v : Nat} (hdg : decode cc pc = .ok (.putfield 77, 3)) (kk : ∀ (H1 : Heap) (locs1 : List Loc), sW G n (uR S k 37 (.ref v)) H1 → sL G locs1 → W p l e R s m args below meth c H1 locs1 cells slots Q (F0 m (pc + 3) ls rest)) : W p l e R s m args below meth c H locs cells slots Q (F0 m pc ls (.ref v :: .ref (G.2.2.1 + k) :: rest)) :=
  sPutF Cx inX12 tyX12 tyX12_ok nmX12 rfl 37 (by decide) w_1998 rfl rfl hin2 hW hL hk ht rfl rfl (fun _ h => uR_same h) (fun _ h => uR_off h) uR_on hdg kk
theorem p_X12_81 (Cx : sC G p m c cc nL s args RX12) (hin2 : meth.name = "<init>") (hW : sW G n S H) (hL : sL G locs) {k : Nat} (hk : k < n) (ht : tau k = .inl 12) {v : Nat} (hdg : decode cc pc = .ok (.putfield 81, 3)) (kk : ∀ (H1 : Heap) (locs1 : List Loc), sW G n (uR S k 38 (.ref v)) H1 → sL G locs1 → W p l e R s m args below meth c H1 locs1 cells slots Q (F0 m (pc + 3) ls rest)) : W p l e R s m args below meth c H locs cells slots Q (F0 m pc ls (.ref v :: .ref (G.2.2.1 + k) :: rest)) :=
  sPutF Cx inX12 tyX12 tyX12_ok nmX12 rfl 38 (by decide) w_1999 rfl rfl hin2 hW hL hk ht rfl rfl (fun _ h => uR_same h) (fun _ h => uR_off h) uR_on hdg kk
theorem p_X12_85 (Cx : sC G p m c cc nL s args RX12) (hin2 : meth.name = "<init>") (hW : sW G n S H) (hL : sL G locs) {k : Nat} (hk : k < n) (ht : tau k = .inl 12) {v : Nat} (hdg : decode cc pc = .ok (.putfield 85, 3)) (kk : ∀ (H1 : Heap) (locs1 : List Loc), sW G n (uR S k 39 (.ref v)) H1 → sL G locs1 → W p l e R s m args below meth c H1 locs1 cells slots Q (F0 m (pc + 3) ls rest)) : W p l e R s m args below meth c H locs cells slots Q (F0 m pc ls (.ref v :: .ref (G.2.2.1 + k) :: rest)) :=
  sPutF Cx inX12 tyX12 tyX12_ok nmX12 rfl 39 (by decide) w_2000 rfl rfl hin2 hW hL hk ht rfl rfl (fun _ h => uR_same h) (fun _ h => uR_off h) uR_on hdg kk
theorem p_X12_88 (Cx : sC G p m c cc nL s args RX12) (hin2 : meth.name = "<init>") (hW : sW G n S H) (hL : sL G locs) {k : Nat} (hk : k < n) (ht : tau k = .inl 12) {v : Nat} (hdg : decode cc pc = .ok (.putfield 88, 3)) (kk : ∀ (H1 : Heap) (locs1 : List Loc), sW G n (uR S k 41 (.ref v)) H1 → sL G locs1 → W p l e R s m args below meth c H1 locs1 cells slots Q (F0 m (pc + 3) ls rest)) : W p l e R s m args below meth c H locs cells slots Q (F0 m pc ls (.ref v :: .ref (G.2.2.1 + k) :: rest)) :=
  sPutF Cx inX12 tyX12 tyX12_ok nmX12 rfl 41 (by decide) w_2002 rfl rfl hin2 hW hL hk ht rfl rfl (fun _ h => uR_same h) (fun _ h => uR_off h) uR_on hdg kk
theorem p_X12_91 (Cx : sC G p m c cc nL s args RX12) (hin2 : meth.name = "<init>") (hW : sW G n S H) (hL : sL G locs) {k : Nat} (hk : k < n) (ht : tau k = .inl 12) {v : Nat} (hdg : decode cc pc = .ok (.putfield 91, 3)) (kk : ∀ (H1 : Heap) (locs1 : List Loc), sW G n (uR S k 44 (.ref v)) H1 → sL G locs1 → W p l e R s m args below meth c H1 locs1 cells slots Q (F0 m (pc + 3) ls rest)) : W p l e R s m args below meth c H locs cells slots Q (F0 m pc ls (.ref v :: .ref (G.2.2.1 + k) :: rest)) :=
  sPutF Cx inX12 tyX12 tyX12_ok nmX12 rfl 44 (by decide) w_2005 rfl rfl hin2 hW hL hk ht rfl rfl (fun _ h => uR_same h) (fun _ h => uR_off h) uR_on hdg kk
theorem p_X12_94 (Cx : sC G p m c cc nL s args RX12) (hin2 : meth.name = "<init>") (hW : sW G n S H) (hL : sL G locs) {k : Nat} (hk : k < n) (ht : tau k = .inl 12) {v : Nat} (hdg : decode cc pc = .ok (.putfield 94, 3)) (kk : ∀ (H1 : Heap) (locs1 : List Loc), sW G n (uR S k 50 (.ref v)) H1 → sL G locs1 → W p l e R s m args below meth c H1 locs1 cells slots Q (F0 m (pc + 3) ls rest)) : W p l e R s m args below meth c H locs cells slots Q (F0 m pc ls (.ref v :: .ref (G.2.2.1 + k) :: rest)) :=
  sPutF Cx inX12 tyX12 tyX12_ok nmX12 rfl 50 (by decide) w_2011 rfl rfl hin2 hW hL hk ht rfl rfl (fun _ h => uR_same h) (fun _ h => uR_off h) uR_on hdg kk
theorem p_X12_97 (Cx : sC G p m c cc nL s args RX12) (hin2 : meth.name = "<init>") (hW : sW G n S H) (hL : sL G locs) {k : Nat} (hk : k < n) (ht : tau k = .inl 12) {v : Nat} (hdg : decode cc pc = .ok (.putfield 97, 3)) (kk : ∀ (H1 : Heap) (locs1 : List Loc), sW G n (uR S k 51 (.ref v)) H1 → sL G locs1 → W p l e R s m args below meth c H1 locs1 cells slots Q (F0 m (pc + 3) ls rest)) : W p l e R s m args below meth c H locs cells slots Q (F0 m pc ls (.ref v :: .ref (G.2.2.1 + k) :: rest)) :=
  sPutF Cx inX12 tyX12 tyX12_ok nmX12 rfl 51 (by decide) w_2012 rfl rfl hin2 hW hL hk ht rfl rfl (fun _ h => uR_same h) (fun _ h => uR_off h) uR_on hdg kk
theorem p_X12_100 (Cx : sC G p m c cc nL s args RX12) (hin2 : meth.name = "<init>") (hW : sW G n S H) (hL : sL G locs) {k : Nat} (hk : k < n) (ht : tau k = .inl 12) {v : Nat} (hdg : decode cc pc = .ok (.putfield 100, 3)) (kk : ∀ (H1 : Heap) (locs1 : List Loc), sW G n (uR S k 52 (.ref v)) H1 → sL G locs1 → W p l e R s m args below meth c H1 locs1 cells slots Q (F0 m (pc + 3) ls rest)) : W p l e R s m args below meth c H locs cells slots Q (F0 m pc ls (.ref v :: .ref (G.2.2.1 + k) :: rest)) :=
  sPutF Cx inX12 tyX12 tyX12_ok nmX12 rfl 52 (by decide) w_2013 rfl rfl hin2 hW hL hk ht rfl rfl (fun _ h => uR_same h) (fun _ h => uR_off h) uR_on hdg kk
theorem p_X12_103 (Cx : sC G p m c cc nL s args RX12) (hin2 : meth.name = "<init>") (hW : sW G n S H) (hL : sL G locs) {k : Nat} (hk : k < n) (ht : tau k = .inl 12) {v : Nat} (hdg : decode cc pc = .ok (.putfield 103, 3)) (kk : ∀ (H1 : Heap) (locs1 : List Loc), sW G n (uR S k 53 (.ref v)) H1 → sL G locs1 → W p l e R s m args below meth c H1 locs1 cells slots Q (F0 m (pc + 3) ls rest)) : W p l e R s m args below meth c H locs cells slots Q (F0 m pc ls (.ref v :: .ref (G.2.2.1 + k) :: rest)) :=
  sPutF Cx inX12 tyX12 tyX12_ok nmX12 rfl 53 (by decide) w_2014 rfl rfl hin2 hW hL hk ht rfl rfl (fun _ h => uR_same h) (fun _ h => uR_off h) uR_on hdg kk
theorem p_X12_106 (Cx : sC G p m c cc nL s args RX12) (hin2 : meth.name = "<init>") (hW : sW G n S H) (hL : sL G locs) {k : Nat} (hk : k < n) (ht : tau k = .inl 12) {v : Nat} (hdg : decode cc pc = .ok (.putfield 106, 3)) (kk : ∀ (H1 : Heap) (locs1 : List Loc), sW G n (uR S k 54 (.ref v)) H1 → sL G locs1 → W p l e R s m args below meth c H1 locs1 cells slots Q (F0 m (pc + 3) ls rest)) : W p l e R s m args below meth c H locs cells slots Q (F0 m pc ls (.ref v :: .ref (G.2.2.1 + k) :: rest)) :=
  sPutF Cx inX12 tyX12 tyX12_ok nmX12 rfl 54 (by decide) w_2015 rfl rfl hin2 hW hL hk ht rfl rfl (fun _ h => uR_same h) (fun _ h => uR_off h) uR_on hdg kk
theorem p_X12_109 (Cx : sC G p m c cc nL s args RX12) (hin2 : meth.name = "<init>") (hW : sW G n S H) (hL : sL G locs) {k : Nat} (hk : k < n) (ht : tau k = .inl 12) {v : Nat} (hdg : decode cc pc = .ok (.putfield 109, 3)) (kk : ∀ (H1 : Heap) (locs1 : List Loc), sW G n (uR S k 55 (.ref v)) H1 → sL G locs1 → W p l e R s m args below meth c H1 locs1 cells slots Q (F0 m (pc + 3) ls rest)) : W p l e R s m args below meth c H locs cells slots Q (F0 m pc ls (.ref v :: .ref (G.2.2.1 + k) :: rest)) :=
  sPutF Cx inX12 tyX12 tyX12_ok nmX12 rfl 55 (by decide) w_2016 rfl rfl hin2 hW hL hk ht rfl rfl (fun _ h => uR_same h) (fun _ h => uR_off h) uR_on hdg kk
theorem p_X12_112 (Cx : sC G p m c cc nL s args RX12) (hin2 : meth.name = "<init>") (hW : sW G n S H) (hL : sL G locs) {k : Nat} (hk : k < n) (ht : tau k = .inl 12) {v : Nat} (hdg : decode cc pc = .ok (.putfield 112, 3)) (kk : ∀ (H1 : Heap) (locs1 : List Loc), sW G n (uR S k 56 (.ref v)) H1 → sL G locs1 → W p l e R s m args below meth c H1 locs1 cells slots Q (F0 m (pc + 3) ls rest)) : W p l e R s m args below meth c H locs cells slots Q (F0 m pc ls (.ref v :: .ref (G.2.2.1 + k) :: rest)) :=
  sPutF Cx inX12 tyX12 tyX12_ok nmX12 rfl 56 (by decide) w_2017 rfl rfl hin2 hW hL hk ht rfl rfl (fun _ h => uR_same h) (fun _ h => uR_off h) uR_on hdg kk
theorem p_X12_115 (Cx : sC G p m c cc nL s args RX12) (hin2 : meth.name = "<init>") (hW : sW G n S H) (hL : sL G locs) {k : Nat} (hk : k < n) (ht : tau k = .inl 12) {v : Nat} (hdg : decode cc pc = .ok (.putfield 115, 3)) (kk : ∀ (H1 : Heap) (locs1 : List Loc), sW G n (uR S k 57 (.ref v)) H1 → sL G locs1 → W p l e R s m args below meth c H1 locs1 cells slots Q (F0 m (pc + 3) ls rest)) : W p l e R s m args below meth c H locs cells slots Q (F0 m pc ls (.ref v :: .ref (G.2.2.1 + k) :: rest)) :=
  sPutF Cx inX12 tyX12 tyX12_ok nmX12 rfl 57 (by decide) w_2018 rfl rfl hin2 hW hL hk ht rfl rfl (fun _ h => uR_same h) (fun _ h => uR_off h) uR_on hdg kk
theorem p_X12_119 (Cx : sC G p m c cc nL s args RX12) (hin2 : meth.name = "<init>") (hW : sW G n S H) (hL : sL G locs) {k : Nat} (hk : k < n) (ht : tau k = .inl 12) {v : Nat} (hdg : decode cc pc = .ok (.putfield 119, 3)) (kk : ∀ (H1 : Heap) (locs1 : List Loc), sW G n (uR S k 73 (.ref v)) H1 → sL G locs1 → W p l e R s m args below meth c H1 locs1 cells slots Q (F0 m (pc + 3) ls rest)) : W p l e R s m args below meth c H locs cells slots Q (F0 m pc ls (.ref v :: .ref (G.2.2.1 + k) :: rest)) :=
  sPutF Cx inX12 tyX12 tyX12_ok nmX12 rfl 73 (by decide) w_2034 rfl rfl hin2 hW hL hk ht rfl rfl (fun _ h => uR_same h) (fun _ h => uR_off h) uR_on hdg kk
theorem p_X12_122 (Cx : sC G p m c cc nL s args RX12) (hin2 : meth.name = "<init>") (hW : sW G n S H) (hL : sL G locs) {k : Nat} (hk : k < n) (ht : tau k = .inl 12) {v : Nat} (hdg : decode cc pc = .ok (.putfield 122, 3)) (kk : ∀ (H1 : Heap) (locs1 : List Loc), sW G n (uR S k 74 (.ref v)) H1 → sL G locs1 → W p l e R s m args below meth c H1 locs1 cells slots Q (F0 m (pc + 3) ls rest)) : W p l e R s m args below meth c H locs cells slots Q (F0 m pc ls (.ref v :: .ref (G.2.2.1 + k) :: rest)) :=
  sPutF Cx inX12 tyX12 tyX12_ok nmX12 rfl 74 (by decide) w_2035 rfl rfl hin2 hW hL hk ht rfl rfl (fun _ h => uR_same h) (fun _ h => uR_off h) uR_on hdg kk
theorem p_X12_125 (Cx : sC G p m c cc nL s args RX12) (hin2 : meth.name = "<init>") (hW : sW G n S H) (hL : sL G locs) {k : Nat} (hk : k < n) (ht : tau k = .inl 12) {v : Nat} (hdg : decode cc pc = .ok (.putfield 125, 3)) (kk : ∀ (H1 : Heap) (locs1 : List Loc), sW G n (uR S k 75 (.ref v)) H1 → sL G locs1 → W p l e R s m args below meth c H1 locs1 cells slots Q (F0 m (pc + 3) ls rest)) : W p l e R s m args below meth c H locs cells slots Q (F0 m pc ls (.ref v :: .ref (G.2.2.1 + k) :: rest)) :=
  sPutF Cx inX12 tyX12 tyX12_ok nmX12 rfl 75 (by decide) w_2036 rfl rfl hin2 hW hL hk ht rfl rfl (fun _ h => uR_same h) (fun _ h => uR_off h) uR_on hdg kk
theorem p_X12_128 (Cx : sC G p m c cc nL s args RX12) (hin2 : meth.name = "<init>") (hW : sW G n S H) (hL : sL G locs) {k : Nat} (hk : k < n) (ht : tau k = .inl 12) {v : Nat} (hdg : decode cc pc = .ok (.putfield 128, 3)) (kk : ∀ (H1 : Heap) (locs1 : List Loc), sW G n (uR S k 76 (.ref v)) H1 → sL G locs1 → W p l e R s m args below meth c H1 locs1 cells slots Q (F0 m (pc + 3) ls rest)) : W p l e R s m args below meth c H locs cells slots Q (F0 m pc ls (.ref v :: .ref (G.2.2.1 + k) :: rest)) :=
  sPutF Cx inX12 tyX12 tyX12_ok nmX12 rfl 76 (by decide) w_2037 rfl rfl hin2 hW hL hk ht rfl rfl (fun _ h => uR_same h) (fun _ h => uR_off h) uR_on hdg kk
theorem p_X12_131 (Cx : sC G p m c cc nL s args RX12) (hin2 : meth.name = "<init>") (hW : sW G n S H) (hL : sL G locs) {k : Nat} (hk : k < n) (ht : tau k = .inl 12) {v : Nat} (hdg : decode cc pc = .ok (.putfield 131, 3)) (kk : ∀ (H1 : Heap) (locs1 : List Loc), sW G n (uR S k 77 (.ref v)) H1 → sL G locs1 → W p l e R s m args below meth c H1 locs1 cells slots Q (F0 m (pc + 3) ls rest)) : W p l e R s m args below meth c H locs cells slots Q (F0 m pc ls (.ref v :: .ref (G.2.2.1 + k) :: rest)) :=
  sPutF Cx inX12 tyX12 tyX12_ok nmX12 rfl 77 (by decide) w_2038 rfl rfl hin2 hW hL hk ht rfl rfl (fun _ h => uR_same h) (fun _ h => uR_off h) uR_on hdg kk
theorem p_X12_134 (Cx : sC G p m c cc nL s args RX12) (hin2 : meth.name = "<init>") (hW : sW G n S H) (hL : sL G locs) {k : Nat} (hk : k < n) (ht : tau k = .inl 12) {v : Nat} (hdg : decode cc pc = .ok (.putfield 134, 3)) (kk : ∀ (H1 : Heap) (locs1 : List Loc), sW G n (uR S k 80 (.ref v)) H1 → sL G locs1 → W p l e R s m args below meth c H1 locs1 cells slots Q (F0 m (pc + 3) ls rest)) : W p l e R s m args below meth c H locs cells slots Q (F0 m pc ls (.ref v :: .ref (G.2.2.1 + k) :: rest)) :=
  sPutF Cx inX12 tyX12 tyX12_ok nmX12 rfl 80 (by decide) w_2041 rfl rfl hin2 hW hL hk ht rfl rfl (fun _ h => uR_same h) (fun _ h => uR_off h) uR_on hdg kk
theorem p_X12_137 (Cx : sC G p m c cc nL s args RX12) (hin2 : meth.name = "<init>") (hW : sW G n S H) (hL : sL G locs) {k : Nat} (hk : k < n) (ht : tau k = .inl 12) {v : Nat} (hdg : decode cc pc = .ok (.putfield 137, 3)) (kk : ∀ (H1 : Heap) (locs1 : List Loc), sW G n (uR S k 81 (.ref v)) H1 → sL G locs1 → W p l e R s m args below meth c H1 locs1 cells slots Q (F0 m (pc + 3) ls rest)) : W p l e R s m args below meth c H locs cells slots Q (F0 m pc ls (.ref v :: .ref (G.2.2.1 + k) :: rest)) :=
  sPutF Cx inX12 tyX12 tyX12_ok nmX12 rfl 81 (by decide) w_2042 rfl rfl hin2 hW hL hk ht rfl rfl (fun _ h => uR_same h) (fun _ h => uR_off h) uR_on hdg kk
theorem p_X12_140 (Cx : sC G p m c cc nL s args RX12) (hin2 : meth.name = "<init>") (hW : sW G n S H) (hL : sL G locs) {k : Nat} (hk : k < n) (ht : tau k = .inl 12) {v : Nat} (hdg : decode cc pc = .ok (.putfield 140, 3)) (kk : ∀ (H1 : Heap) (locs1 : List Loc), sW G n (uR S k 82 (.ref v)) H1 → sL G locs1 → W p l e R s m args below meth c H1 locs1 cells slots Q (F0 m (pc + 3) ls rest)) : W p l e R s m args below meth c H locs cells slots Q (F0 m pc ls (.ref v :: .ref (G.2.2.1 + k) :: rest)) :=
  sPutF Cx inX12 tyX12 tyX12_ok nmX12 rfl 82 (by decide) w_2043 rfl rfl hin2 hW hL hk ht rfl rfl (fun _ h => uR_same h) (fun _ h => uR_off h) uR_on hdg kk
theorem p_X12_144 (Cx : sC G p m c cc nL s args RX12) (hin2 : meth.name = "<init>") (hW : sW G n S H) (hL : sL G locs) {k : Nat} (hk : k < n) (ht : tau k = .inl 12) {v : Nat} (hdg : decode cc pc = .ok (.putfield 144, 3)) (kk : ∀ (H1 : Heap) (locs1 : List Loc), sW G n (uR S k 83 (.ref v)) H1 → sL G locs1 → W p l e R s m args below meth c H1 locs1 cells slots Q (F0 m (pc + 3) ls rest)) : W p l e R s m args below meth c H locs cells slots Q (F0 m pc ls (.ref v :: .ref (G.2.2.1 + k) :: rest)) :=
  sPutF Cx inX12 tyX12 tyX12_ok nmX12 rfl 83 (by decide) w_2044 rfl rfl hin2 hW hL hk ht rfl rfl (fun _ h => uR_same h) (fun _ h => uR_off h) uR_on hdg kk
theorem p_X12_148 (Cx : sC G p m c cc nL s args RX12) (hin2 : meth.name = "<init>") (hW : sW G n S H) (hL : sL G locs) {k : Nat} (hk : k < n) (ht : tau k = .inl 12) {v : Nat} (hdg : decode cc pc = .ok (.putfield 148, 3)) (kk : ∀ (H1 : Heap) (locs1 : List Loc), sW G n (uR S k 85 (.ref v)) H1 → sL G locs1 → W p l e R s m args below meth c H1 locs1 cells slots Q (F0 m (pc + 3) ls rest)) : W p l e R s m args below meth c H locs cells slots Q (F0 m pc ls (.ref v :: .ref (G.2.2.1 + k) :: rest)) :=
  sPutF Cx inX12 tyX12 tyX12_ok nmX12 rfl 85 (by decide) w_2046 rfl rfl hin2 hW hL hk ht rfl rfl (fun _ h => uR_same h) (fun _ h => uR_off h) uR_on hdg kk
theorem p_X12_151 (Cx : sC G p m c cc nL s args RX12) (hin2 : meth.name = "<init>") (hW : sW G n S H) (hL : sL G locs) {k : Nat} (hk : k < n) (ht : tau k = .inl 12) {v : Nat} (hdg : decode cc pc = .ok (.putfield 151, 3)) (kk : ∀ (H1 : Heap) (locs1 : List Loc), sW G n (uR S k 87 (.ref v)) H1 → sL G locs1 → W p l e R s m args below meth c H1 locs1 cells slots Q (F0 m (pc + 3) ls rest)) : W p l e R s m args below meth c H locs cells slots Q (F0 m pc ls (.ref v :: .ref (G.2.2.1 + k) :: rest)) :=
  sPutF Cx inX12 tyX12 tyX12_ok nmX12 rfl 87 (by decide) w_2048 rfl rfl hin2 hW hL hk ht rfl rfl (fun _ h => uR_same h) (fun _ h => uR_off h) uR_on hdg kk
theorem p_X12_154 (Cx : sC G p m c cc nL s args RX12) (hin2 : meth.name = "<init>") (hW : sW G n S H) (hL : sL G locs) {k : Nat} (hk : k < n) (ht : tau k = .inl 12) {v : Nat} (hdg : decode cc pc = .ok (.putfield 154, 3)) (kk : ∀ (H1 : Heap) (locs1 : List Loc), sW G n (uR S k 88 (.ref v)) H1 → sL G locs1 → W p l e R s m args below meth c H1 locs1 cells slots Q (F0 m (pc + 3) ls rest)) : W p l e R s m args below meth c H locs cells slots Q (F0 m pc ls (.ref v :: .ref (G.2.2.1 + k) :: rest)) :=
  sPutF Cx inX12 tyX12 tyX12_ok nmX12 rfl 88 (by decide) w_2049 rfl rfl hin2 hW hL hk ht rfl rfl (fun _ h => uR_same h) (fun _ h => uR_off h) uR_on hdg kk
theorem p_X12_157 (Cx : sC G p m c cc nL s args RX12) (hin2 : meth.name = "<init>") (hW : sW G n S H) (hL : sL G locs) {k : Nat} (hk : k < n) (ht : tau k = .inl 12) {v : Nat} (hdg : decode cc pc = .ok (.putfield 157, 3)) (kk : ∀ (H1 : Heap) (locs1 : List Loc), sW G n (uR S k 89 (.ref v)) H1 → sL G locs1 → W p l e R s m args below meth c H1 locs1 cells slots Q (F0 m (pc + 3) ls rest)) : W p l e R s m args below meth c H locs cells slots Q (F0 m pc ls (.ref v :: .ref (G.2.2.1 + k) :: rest)) :=
  sPutF Cx inX12 tyX12 tyX12_ok nmX12 rfl 89 (by decide) w_2050 rfl rfl hin2 hW hL hk ht rfl rfl (fun _ h => uR_same h) (fun _ h => uR_off h) uR_on hdg kk
theorem p_X12_160 (Cx : sC G p m c cc nL s args RX12) (hin2 : meth.name = "<init>") (hW : sW G n S H) (hL : sL G locs) {k : Nat} (hk : k < n) (ht : tau k = .inl 12) {v : Nat} (hdg : decode cc pc = .ok (.putfield 160, 3)) (kk : ∀ (H1 : Heap) (locs1 : List Loc), sW G n (uR S k 90 (.ref v)) H1 → sL G locs1 → W p l e R s m args below meth c H1 locs1 cells slots Q (F0 m (pc + 3) ls rest)) : W p l e R s m args below meth c H locs cells slots Q (F0 m pc ls (.ref v :: .ref (G.2.2.1 + k) :: rest)) :=
  sPutF Cx inX12 tyX12 tyX12_ok nmX12 rfl 90 (by decide) w_2051 rfl rfl hin2 hW hL hk ht rfl rfl (fun _ h => uR_same h) (fun _ h => uR_off h) uR_on hdg kk
theorem p_X12_163 (Cx : sC G p m c cc nL s args RX12) (hin2 : meth.name = "<init>") (hW : sW G n S H) (hL : sL G locs) {k : Nat} (hk : k < n) (ht : tau k = .inl 12) {v : Nat} (hdg : decode cc pc = .ok (.putfield 163, 3)) (kk : ∀ (H1 : Heap) (locs1 : List Loc), sW G n (uR S k 91 (.ref v)) H1 → sL G locs1 → W p l e R s m args below meth c H1 locs1 cells slots Q (F0 m (pc + 3) ls rest)) : W p l e R s m args below meth c H locs cells slots Q (F0 m pc ls (.ref v :: .ref (G.2.2.1 + k) :: rest)) :=
  sPutF Cx inX12 tyX12 tyX12_ok nmX12 rfl 91 (by decide) w_2052 rfl rfl hin2 hW hL hk ht rfl rfl (fun _ h => uR_same h) (fun _ h => uR_off h) uR_on hdg kk
theorem p_X12_166 (Cx : sC G p m c cc nL s args RX12) (hin2 : meth.name = "<init>") (hW : sW G n S H) (hL : sL G locs) {k : Nat} (hk : k < n) (ht : tau k = .inl 12) {v : Nat} (hdg : decode cc pc = .ok (.putfield 166, 3)) (kk : ∀ (H1 : Heap) (locs1 : List Loc), sW G n (uR S k 92 (.ref v)) H1 → sL G locs1 → W p l e R s m args below meth c H1 locs1 cells slots Q (F0 m (pc + 3) ls rest)) : W p l e R s m args below meth c H locs cells slots Q (F0 m pc ls (.ref v :: .ref (G.2.2.1 + k) :: rest)) :=
  sPutF Cx inX12 tyX12 tyX12_ok nmX12 rfl 92 (by decide) w_2053 rfl rfl hin2 hW hL hk ht rfl rfl (fun _ h => uR_same h) (fun _ h => uR_off h) uR_on hdg kk
theorem p_X12_169 (Cx : sC G p m c cc nL s args RX12) (hin2 : meth.name = "<init>") (hW : sW G n S H) (hL : sL G locs) {k : Nat} (hk : k < n) (ht : tau k = .inl 12) {v : Nat} (hdg : decode cc pc = .ok (.putfield 169, 3)) (kk : ∀ (H1 : Heap) (locs1 : List Loc), sW G n (uR S k 93 (.ref v)) H1 → sL G locs1 → W p l e R s m args below meth c H1 locs1 cells slots Q (F0 m (pc + 3) ls rest)) : W p l e R s m args below meth c H locs cells slots Q (F0 m pc ls (.ref v :: .ref (G.2.2.1 + k) :: rest)) :=
  sPutF Cx inX12 tyX12 tyX12_ok nmX12 rfl 93 (by decide) w_2054 rfl rfl hin2 hW hL hk ht rfl rfl (fun _ h => uR_same h) (fun _ h => uR_off h) uR_on hdg kk
theorem p_X12_172 (Cx : sC G p m c cc nL s args RX12) (hin2 : meth.name = "<init>") (hW : sW G n S H) (hL : sL G locs) {k : Nat} (hk : k < n) (ht : tau k = .inl 12) {v : Nat} (hdg : decode cc pc = .ok (.putfield 172, 3)) (kk : ∀ (H1 : Heap) (locs1 : List Loc), sW G n (uR S k 94 (.ref v)) H1 → sL G locs1 → W p l e R s m args below meth c H1 locs1 cells slots Q (F0 m (pc + 3) ls rest)) : W p l e R s m args below meth c H locs cells slots Q (F0 m pc ls (.ref v :: .ref (G.2.2.1 + k) :: rest)) :=
  sPutF Cx inX12 tyX12 tyX12_ok nmX12 rfl 94 (by decide) w_2055 rfl rfl hin2 hW hL hk ht rfl rfl (fun _ h => uR_same h) (fun _ h => uR_off h) uR_on hdg kk
theorem p_X12_175 (Cx : sC G p m c cc nL s args RX12) (hin2 : meth.name = "<init>") (hW : sW G n S H) (hL : sL G locs) {k : Nat} (hk : k < n) (ht : tau k = .inl 12) {v : Nat} (hdg : decode cc pc = .ok (.putfield 175, 3)) (kk : ∀ (H1 : Heap) (locs1 : List Loc), sW G n (uR S k 95 (.ref v)) H1 → sL G locs1 → W p l e R s m args below meth c H1 locs1 cells slots Q (F0 m (pc + 3) ls rest)) : W p l e R s m args below meth c H locs cells slots Q (F0 m pc ls (.ref v :: .ref (G.2.2.1 + k) :: rest)) :=
  sPutF Cx inX12 tyX12 tyX12_ok nmX12 rfl 95 (by decide) w_2056 rfl rfl hin2 hW hL hk ht rfl rfl (fun _ h => uR_same h) (fun _ h => uR_off h) uR_on hdg kk
theorem p_X12_178 (Cx : sC G p m c cc nL s args RX12) (hin2 : meth.name = "<init>") (hW : sW G n S H) (hL : sL G locs) {k : Nat} (hk : k < n) (ht : tau k = .inl 12) {v : Nat} (hdg : decode cc pc = .ok (.putfield 178, 3)) (kk : ∀ (H1 : Heap) (locs1 : List Loc), sW G n (uR S k 96 (.ref v)) H1 → sL G locs1 → W p l e R s m args below meth c H1 locs1 cells slots Q (F0 m (pc + 3) ls rest)) : W p l e R s m args below meth c H locs cells slots Q (F0 m pc ls (.ref v :: .ref (G.2.2.1 + k) :: rest)) :=
  sPutF Cx inX12 tyX12 tyX12_ok nmX12 rfl 96 (by decide) w_2057 rfl rfl hin2 hW hL hk ht rfl rfl (fun _ h => uR_same h) (fun _ h => uR_off h) uR_on hdg kk
theorem p_X12_181 (Cx : sC G p m c cc nL s args RX12) (hin2 : meth.name = "<init>") (hW : sW G n S H) (hL : sL G locs) {k : Nat} (hk : k < n) (ht : tau k = .inl 12) {v : Nat} (hdg : decode cc pc = .ok (.putfield 181, 3)) (kk : ∀ (H1 : Heap) (locs1 : List Loc), sW G n (uR S k 97 (.ref v)) H1 → sL G locs1 → W p l e R s m args below meth c H1 locs1 cells slots Q (F0 m (pc + 3) ls rest)) : W p l e R s m args below meth c H locs cells slots Q (F0 m pc ls (.ref v :: .ref (G.2.2.1 + k) :: rest)) :=
  sPutF Cx inX12 tyX12 tyX12_ok nmX12 rfl 97 (by decide) w_2058 rfl rfl hin2 hW hL hk ht rfl rfl (fun _ h => uR_same h) (fun _ h => uR_off h) uR_on hdg kk
theorem p_X12_184 (Cx : sC G p m c cc nL s args RX12) (hin2 : meth.name = "<init>") (hW : sW G n S H) (hL : sL G locs) {k : Nat} (hk : k < n) (ht : tau k = .inl 12) {v : Nat} (hdg : decode cc pc = .ok (.putfield 184, 3)) (kk : ∀ (H1 : Heap) (locs1 : List Loc), sW G n (uR S k 98 (.ref v)) H1 → sL G locs1 → W p l e R s m args below meth c H1 locs1 cells slots Q (F0 m (pc + 3) ls rest)) : W p l e R s m args below meth c H locs cells slots Q (F0 m pc ls (.ref v :: .ref (G.2.2.1 + k) :: rest)) :=
  sPutF Cx inX12 tyX12 tyX12_ok nmX12 rfl 98 (by decide) w_2059 rfl rfl hin2 hW hL hk ht rfl rfl (fun _ h => uR_same h) (fun _ h => uR_off h) uR_on hdg kk
theorem p_X12_187 (Cx : sC G p m c cc nL s args RX12) (hin2 : meth.name = "<init>") (hW : sW G n S H) (hL : sL G locs) {k : Nat} (hk : k < n) (ht : tau k = .inl 12) {v : Nat} (hdg : decode cc pc = .ok (.putfield 187, 3)) (kk : ∀ (H1 : Heap) (locs1 : List Loc), sW G n (uR S k 99 (.ref v)) H1 → sL G locs1 → W p l e R s m args below meth c H1 locs1 cells slots Q (F0 m (pc + 3) ls rest)) : W p l e R s m args below meth c H locs cells slots Q (F0 m pc ls (.ref v :: .ref (G.2.2.1 + k) :: rest)) :=
  sPutF Cx inX12 tyX12 tyX12_ok nmX12 rfl 99 (by decide) w_2060 rfl rfl hin2 hW hL hk ht rfl rfl (fun _ h => uR_same h) (fun _ h => uR_off h) uR_on hdg kk
theorem p_X12_190 (Cx : sC G p m c cc nL s args RX12) (hin2 : meth.name = "<init>") (hW : sW G n S H) (hL : sL G locs) {k : Nat} (hk : k < n) (ht : tau k = .inl 12) {v : Nat} (hdg : decode cc pc = .ok (.putfield 190, 3)) (kk : ∀ (H1 : Heap) (locs1 : List Loc), sW G n (uR S k 101 (.ref v)) H1 → sL G locs1 → W p l e R s m args below meth c H1 locs1 cells slots Q (F0 m (pc + 3) ls rest)) : W p l e R s m args below meth c H locs cells slots Q (F0 m pc ls (.ref v :: .ref (G.2.2.1 + k) :: rest)) :=
  sPutF Cx inX12 tyX12 tyX12_ok nmX12 rfl 101 (by decide) w_2062 rfl rfl hin2 hW hL hk ht rfl rfl (fun _ h => uR_same h) (fun _ h => uR_off h) uR_on hdg kk
theorem p_X12_193 (Cx : sC G p m c cc nL s args RX12) (hin2 : meth.name = "<init>") (hW : sW G n S H) (hL : sL G locs) {k : Nat} (hk : k < n) (ht : tau k = .inl 12) {v : Nat} (hdg : decode cc pc = .ok (.putfield 193, 3)) (kk : ∀ (H1 : Heap) (locs1 : List Loc), sW G n (uR S k 102 (.ref v)) H1 → sL G locs1 → W p l e R s m args below meth c H1 locs1 cells slots Q (F0 m (pc + 3) ls rest)) : W p l e R s m args below meth c H locs cells slots Q (F0 m pc ls (.ref v :: .ref (G.2.2.1 + k) :: rest)) :=
  sPutF Cx inX12 tyX12 tyX12_ok nmX12 rfl 102 (by decide) w_2063 rfl rfl hin2 hW hL hk ht rfl rfl (fun _ h => uR_same h) (fun _ h => uR_off h) uR_on hdg kk
theorem p_X12_196 (Cx : sC G p m c cc nL s args RX12) (hin2 : meth.name = "<init>") (hW : sW G n S H) (hL : sL G locs) {k : Nat} (hk : k < n) (ht : tau k = .inl 12) {v : Nat} (hdg : decode cc pc = .ok (.putfield 196, 3)) (kk : ∀ (H1 : Heap) (locs1 : List Loc), sW G n (uR S k 103 (.ref v)) H1 → sL G locs1 → W p l e R s m args below meth c H1 locs1 cells slots Q (F0 m (pc + 3) ls rest)) : W p l e R s m args below meth c H locs cells slots Q (F0 m pc ls (.ref v :: .ref (G.2.2.1 + k) :: rest)) :=
  sPutF Cx inX12 tyX12 tyX12_ok nmX12 rfl 103 (by decide) w_2064 rfl rfl hin2 hW hL hk ht rfl rfl (fun _ h => uR_same h) (fun _ h => uR_off h) uR_on hdg kk
theorem p_X12_199 (Cx : sC G p m c cc nL s args RX12) (hin2 : meth.name = "<init>") (hW : sW G n S H) (hL : sL G locs) {k : Nat} (hk : k < n) (ht : tau k = .inl 12) {v : Nat} (hdg : decode cc pc = .ok (.putfield 199, 3)) (kk : ∀ (H1 : Heap) (locs1 : List Loc), sW G n (uR S k 104 (.ref v)) H1 → sL G locs1 → W p l e R s m args below meth c H1 locs1 cells slots Q (F0 m (pc + 3) ls rest)) : W p l e R s m args below meth c H locs cells slots Q (F0 m pc ls (.ref v :: .ref (G.2.2.1 + k) :: rest)) :=
  sPutF Cx inX12 tyX12 tyX12_ok nmX12 rfl 104 (by decide) w_2065 rfl rfl hin2 hW hL hk ht rfl rfl (fun _ h => uR_same h) (fun _ h => uR_off h) uR_on hdg kk
end RW87
