theorem dL_law_18 : decode cL_law 18 = .ok (.iload_n 3, 1) := by decide +kernel
theorem dL_law_19 : decode cL_law 19 = .ok (.aload_n 0, 1) := by decide +kernel
theorem dL_law_20 : decode cL_law 20 = .ok (.arraylength, 1) := by decide +kernel
theorem dL_law_21 : decode cL_law 21 = .ok (.bipush 6, 2) := by decide +kernel
theorem dL_law_23 : decode cL_law 23 = .ok (.isub, 1) := by decide +kernel
theorem dL_law_24 : decode cL_law 24 = .ok (.if_icmp .gt 468, 3) := by decide +kernel
theorem dL_law_27 : decode cL_law 27 = .ok (.aload_n 0, 1) := by decide +kernel
theorem dL_law_28 : decode cL_law 28 = .ok (.iload_n 3, 1) := by decide +kernel
theorem dL_law_29 : decode cL_law 29 = .ok (.iaload, 1) := by decide +kernel
theorem dL_law_30 : decode cL_law 30 = .ok (.bipush 15, 2) := by decide +kernel
theorem dL_law_32 : decode cL_law 32 = .ok (.iand, 1) := by decide +kernel
theorem dL_law_33 : decode cL_law 33 = .ok (.tableswitch 453 0 13 #[71, 134, 157, 170, 193, 216, 249, 272, 295, 318, 341, 384, 417, 440], 71) := by decide +kernel
theorem dL_law_104 : decode cL_law 104 = .ok (.aload_n 1, 1) := by decide +kernel
theorem dL_law_105 : decode cL_law 105 = .ok (.aload_n 0, 1) := by decide +kernel
theorem dL_law_106 : decode cL_law 106 = .ok (.iload_n 3, 1) := by decide +kernel
theorem dL_law_107 : decode cL_law 107 = .ok (.iconst 1, 1) := by decide +kernel
theorem dL_law_108 : decode cL_law 108 = .ok (.iadd, 1) := by decide +kernel
theorem dL_law_109 : decode cL_law 109 = .ok (.iaload, 1) := by decide +kernel
theorem dL_law_110 : decode cL_law 110 = .ok (.aload_n 0, 1) := by decide +kernel
theorem dL_law_111 : decode cL_law 111 = .ok (.iload_n 3, 1) := by decide +kernel
theorem dL_law_112 : decode cL_law 112 = .ok (.iconst 2, 1) := by decide +kernel
theorem dL_law_113 : decode cL_law 113 = .ok (.iadd, 1) := by decide +kernel
theorem dL_law_114 : decode cL_law 114 = .ok (.iaload, 1) := by decide +kernel
theorem dL_law_115 : decode cL_law 115 = .ok (.aload_n 0, 1) := by decide +kernel
theorem dL_law_116 : decode cL_law 116 = .ok (.iload_n 3, 1) := by decide +kernel
theorem dL_law_117 : decode cL_law 117 = .ok (.iconst 3, 1) := by decide +kernel
theorem dL_law_118 : decode cL_law 118 = .ok (.iadd, 1) := by decide +kernel
theorem dL_law_119 : decode cL_law 119 = .ok (.iaload, 1) := by decide +kernel
theorem dL_law_120 : decode cL_law 120 = .ok (.aload_n 0, 1) := by decide +kernel
theorem dL_law_121 : decode cL_law 121 = .ok (.iload_n 3, 1) := by decide +kernel
theorem dL_law_122 : decode cL_law 122 = .ok (.iconst 4, 1) := by decide +kernel
theorem dL_law_123 : decode cL_law 123 = .ok (.iadd, 1) := by decide +kernel
theorem dL_law_124 : decode cL_law 124 = .ok (.iaload, 1) := by decide +kernel
theorem dL_law_125 : decode cL_law 125 = .ok (.aload_n 0, 1) := by decide +kernel
theorem dL_law_126 : decode cL_law 126 = .ok (.iload_n 3, 1) := by decide +kernel
theorem dL_law_127 : decode cL_law 127 = .ok (.iconst 5, 1) := by decide +kernel
theorem dL_law_128 : decode cL_law 128 = .ok (.iadd, 1) := by decide +kernel
theorem dL_law_129 : decode cL_law 129 = .ok (.iaload, 1) := by decide +kernel
theorem dL_law_130 : decode cL_law 130 = .ok (.invokevirtual 13, 3) := by decide +kernel
theorem dL_law_133 : decode cL_law 133 = .ok (.pop, 1) := by decide +kernel
theorem dL_law_134 : decode cL_law 134 = .ok (.aload_n 2, 1) := by decide +kernel
theorem dL_law_135 : decode cL_law 135 = .ok (.aload_n 0, 1) := by decide +kernel
theorem dL_law_136 : decode cL_law 136 = .ok (.iload_n 3, 1) := by decide +kernel
theorem dL_law_137 : decode cL_law 137 = .ok (.iconst 1, 1) := by decide +kernel
theorem dL_law_138 : decode cL_law 138 = .ok (.iadd, 1) := by decide +kernel
theorem dL_law_139 : decode cL_law 139 = .ok (.iaload, 1) := by decide +kernel
theorem dL_law_140 : decode cL_law 140 = .ok (.aload_n 0, 1) := by decide +kernel
theorem dL_law_141 : decode cL_law 141 = .ok (.iload_n 3, 1) := by decide +kernel
theorem dL_law_142 : decode cL_law 142 = .ok (.iconst 2, 1) := by decide +kernel
theorem dL_law_143 : decode cL_law 143 = .ok (.iadd, 1) := by decide +kernel
theorem dL_law_144 : decode cL_law 144 = .ok (.iaload, 1) := by decide +kernel
theorem dL_law_145 : decode cL_law 145 = .ok (.aload_n 0, 1) := by decide +kernel
theorem dL_law_146 : decode cL_law 146 = .ok (.iload_n 3, 1) := by decide +kernel
theorem dL_law_147 : decode cL_law 147 = .ok (.iconst 3, 1) := by decide +kernel
theorem dL_law_148 : decode cL_law 148 = .ok (.iadd, 1) := by decide +kernel
theorem dL_law_149 : decode cL_law 149 = .ok (.iaload, 1) := by decide +kernel
theorem dL_law_150 : decode cL_law 150 = .ok (.aload_n 0, 1) := by decide +kernel
theorem dL_law_151 : decode cL_law 151 = .ok (.iload_n 3, 1) := by decide +kernel
theorem dL_law_152 : decode cL_law 152 = .ok (.iconst 4, 1) := by decide +kernel
theorem dL_law_153 : decode cL_law 153 = .ok (.iadd, 1) := by decide +kernel
theorem dL_law_154 : decode cL_law 154 = .ok (.iaload, 1) := by decide +kernel
theorem dL_law_155 : decode cL_law 155 = .ok (.aload_n 0, 1) := by decide +kernel
theorem dL_law_156 : decode cL_law 156 = .ok (.iload_n 3, 1) := by decide +kernel
theorem dL_law_157 : decode cL_law 157 = .ok (.iconst 5, 1) := by decide +kernel
theorem dL_law_158 : decode cL_law 158 = .ok (.iadd, 1) := by decide +kernel
theorem dL_law_159 : decode cL_law 159 = .ok (.iaload, 1) := by decide +kernel
theorem dL_law_160 : decode cL_law 160 = .ok (.invokevirtual 17, 3) := by decide +kernel
theorem dL_law_163 : decode cL_law 163 = .ok (.pop, 1) := by decide +kernel
theorem dL_law_164 : decode cL_law 164 = .ok (.goto 322, 3) := by decide +kernel
theorem dL_law_167 : decode cL_law 167 = .ok (.aload_n 1, 1) := by decide +kernel
theorem dL_law_168 : decode cL_law 168 = .ok (.aload_n 0, 1) := by decide +kernel
theorem dL_law_169 : decode cL_law 169 = .ok (.iload_n 3, 1) := by decide +kernel
theorem dL_law_170 : decode cL_law 170 = .ok (.iconst 1, 1) := by decide +kernel
theorem dL_law_171 : decode cL_law 171 = .ok (.iadd, 1) := by decide +kernel
theorem dL_law_172 : decode cL_law 172 = .ok (.iaload, 1) := by decide +kernel
theorem dL_law_173 : decode cL_law 173 = .ok (.invokevirtual 18, 3) := by decide +kernel
theorem dL_law_176 : decode cL_law 176 = .ok (.pop, 1) := by decide +kernel
theorem dL_law_177 : decode cL_law 177 = .ok (.aload_n 2, 1) := by decide +kernel
theorem dL_law_178 : decode cL_law 178 = .ok (.aload_n 0, 1) := by decide +kernel
theorem dL_law_179 : decode cL_law 179 = .ok (.iload_n 3, 1) := by decide +kernel
theorem dL_law_180 : decode cL_law 180 = .ok (.iconst 1, 1) := by decide +kernel
theorem dL_law_181 : decode cL_law 181 = .ok (.iadd, 1) := by decide +kernel
theorem dL_law_182 : decode cL_law 182 = .ok (.iaload, 1) := by decide +kernel
theorem dL_law_183 : decode cL_law 183 = .ok (.invokevirtual 22, 3) := by decide +kernel
theorem dL_law_186 : decode cL_law 186 = .ok (.pop, 1) := by decide +kernel
theorem dL_law_187 : decode cL_law 187 = .ok (.goto 299, 3) := by decide +kernel
theorem dL_law_190 : decode cL_law 190 = .ok (.aload_n 1, 1) := by decide +kernel
theorem dL_law_191 : decode cL_law 191 = .ok (.invokevirtual 23, 3) := by decide +kernel
theorem dL_law_194 : decode cL_law 194 = .ok (.pop, 1) := by decide +kernel
theorem dL_law_195 : decode cL_law 195 = .ok (.aload_n 2, 1) := by decide +kernel
theorem dL_law_196 : decode cL_law 196 = .ok (.invokevirtual 27, 3) := by decide +kernel
theorem dL_law_199 : decode cL_law 199 = .ok (.pop, 1) := by decide +kernel
theorem dL_law_200 : decode cL_law 200 = .ok (.goto 286, 3) := by decide +kernel
theorem dL_law_203 : decode cL_law 203 = .ok (.aload_n 1, 1) := by decide +kernel
theorem dL_law_204 : decode cL_law 204 = .ok (.aload_n 0, 1) := by decide +kernel
theorem dL_law_205 : decode cL_law 205 = .ok (.iload_n 3, 1) := by decide +kernel
theorem dL_law_206 : decode cL_law 206 = .ok (.iconst 1, 1) := by decide +kernel
theorem dL_law_207 : decode cL_law 207 = .ok (.iadd, 1) := by decide +kernel
theorem dL_law_208 : decode cL_law 208 = .ok (.iaload, 1) := by decide +kernel
theorem dL_law_209 : decode cL_law 209 = .ok (.invokevirtual 28, 3) := by decide +kernel
theorem dL_law_212 : decode cL_law 212 = .ok (.pop, 1) := by decide +kernel
theorem dL_law_213 : decode cL_law 213 = .ok (.aload_n 2, 1) := by decide +kernel
theorem dL_law_214 : decode cL_law 214 = .ok (.aload_n 0, 1) := by decide +kernel
theorem dL_law_215 : decode cL_law 215 = .ok (.iload_n 3, 1) := by decide +kernel
theorem dL_law_216 : decode cL_law 216 = .ok (.iconst 1, 1) := by decide +kernel
theorem dL_law_217 : decode cL_law 217 = .ok (.iadd, 1) := by decide +kernel
theorem dL_law_218 : decode cL_law 218 = .ok (.iaload, 1) := by decide +kernel
theorem dL_law_219 : decode cL_law 219 = .ok (.invokevirtual 32, 3) := by decide +kernel
theorem dL_law_222 : decode cL_law 222 = .ok (.pop, 1) := by decide +kernel
theorem dL_law_223 : decode cL_law 223 = .ok (.goto 263, 3) := by decide +kernel
theorem dL_law_226 : decode cL_law 226 = .ok (.aload_n 1, 1) := by decide +kernel
theorem dL_law_227 : decode cL_law 227 = .ok (.aload_n 0, 1) := by decide +kernel
theorem dL_law_228 : decode cL_law 228 = .ok (.iload_n 3, 1) := by decide +kernel
theorem dL_law_229 : decode cL_law 229 = .ok (.iconst 1, 1) := by decide +kernel
theorem dL_law_230 : decode cL_law 230 = .ok (.iadd, 1) := by decide +kernel
theorem dL_law_231 : decode cL_law 231 = .ok (.iaload, 1) := by decide +kernel
theorem dL_law_232 : decode cL_law 232 = .ok (.invokevirtual 33, 3) := by decide +kernel
theorem dL_law_235 : decode cL_law 235 = .ok (.pop, 1) := by decide +kernel
theorem dL_law_236 : decode cL_law 236 = .ok (.aload_n 2, 1) := by decide +kernel
theorem dL_law_237 : decode cL_law 237 = .ok (.aload_n 0, 1) := by decide +kernel
theorem dL_law_238 : decode cL_law 238 = .ok (.iload_n 3, 1) := by decide +kernel
theorem dL_law_239 : decode cL_law 239 = .ok (.iconst 1, 1) := by decide +kernel
theorem dL_law_240 : decode cL_law 240 = .ok (.iadd, 1) := by decide +kernel
theorem dL_law_241 : decode cL_law 241 = .ok (.iaload, 1) := by decide +kernel
theorem dL_law_242 : decode cL_law 242 = .ok (.invokevirtual 36, 3) := by decide +kernel
theorem dL_law_245 : decode cL_law 245 = .ok (.pop, 1) := by decide +kernel
theorem dL_law_246 : decode cL_law 246 = .ok (.goto 240, 3) := by decide +kernel
theorem dL_law_249 : decode cL_law 249 = .ok (.aload_n 1, 1) := by decide +kernel
theorem dL_law_250 : decode cL_law 250 = .ok (.aload_n 0, 1) := by decide +kernel
theorem dL_law_251 : decode cL_law 251 = .ok (.iload_n 3, 1) := by decide +kernel
theorem dL_law_252 : decode cL_law 252 = .ok (.iconst 1, 1) := by decide +kernel
theorem dL_law_253 : decode cL_law 253 = .ok (.iadd, 1) := by decide +kernel
theorem dL_law_254 : decode cL_law 254 = .ok (.iaload, 1) := by decide +kernel
theorem dL_law_255 : decode cL_law 255 = .ok (.aload_n 0, 1) := by decide +kernel
theorem dL_law_256 : decode cL_law 256 = .ok (.iload_n 3, 1) := by decide +kernel
theorem dL_law_257 : decode cL_law 257 = .ok (.iconst 2, 1) := by decide +kernel
theorem dL_law_258 : decode cL_law 258 = .ok (.iadd, 1) := by decide +kernel
theorem dL_law_259 : decode cL_law 259 = .ok (.iaload, 1) := by decide +kernel
theorem dL_law_260 : decode cL_law 260 = .ok (.invokevirtual 37, 3) := by decide +kernel
theorem dL_law_263 : decode cL_law 263 = .ok (.pop2, 1) := by decide +kernel
theorem dL_law_264 : decode cL_law 264 = .ok (.aload_n 2, 1) := by decide +kernel
theorem dL_law_265 : decode cL_law 265 = .ok (.aload_n 0, 1) := by decide +kernel
theorem dL_law_266 : decode cL_law 266 = .ok (.iload_n 3, 1) := by decide +kernel
theorem dL_law_267 : decode cL_law 267 = .ok (.iconst 1, 1) := by decide +kernel
theorem dL_law_268 : decode cL_law 268 = .ok (.iadd, 1) := by decide +kernel
theorem dL_law_269 : decode cL_law 269 = .ok (.iaload, 1) := by decide +kernel
theorem dL_law_270 : decode cL_law 270 = .ok (.aload_n 0, 1) := by decide +kernel
theorem dL_law_271 : decode cL_law 271 = .ok (.iload_n 3, 1) := by decide +kernel
theorem dL_law_272 : decode cL_law 272 = .ok (.iconst 2, 1) := by decide +kernel
theorem dL_law_273 : decode cL_law 273 = .ok (.iadd, 1) := by decide +kernel
theorem dL_law_274 : decode cL_law 274 = .ok (.iaload, 1) := by decide +kernel
theorem dL_law_275 : decode cL_law 275 = .ok (.invokevirtual 41, 3) := by decide +kernel
theorem dL_law_278 : decode cL_law 278 = .ok (.pop2, 1) := by decide +kernel
theorem dL_law_279 : decode cL_law 279 = .ok (.goto 207, 3) := by decide +kernel
theorem dL_law_282 : decode cL_law 282 = .ok (.aload_n 1, 1) := by decide +kernel
theorem dL_law_283 : decode cL_law 283 = .ok (.aload_n 0, 1) := by decide +kernel
theorem dL_law_284 : decode cL_law 284 = .ok (.iload_n 3, 1) := by decide +kernel
theorem dL_law_285 : decode cL_law 285 = .ok (.iconst 1, 1) := by decide +kernel
theorem dL_law_286 : decode cL_law 286 = .ok (.iadd, 1) := by decide +kernel
theorem dL_law_287 : decode cL_law 287 = .ok (.iaload, 1) := by decide +kernel
theorem dL_law_288 : decode cL_law 288 = .ok (.invokevirtual 42, 3) := by decide +kernel
theorem dL_law_291 : decode cL_law 291 = .ok (.pop, 1) := by decide +kernel
theorem dL_law_292 : decode cL_law 292 = .ok (.aload_n 2, 1) := by decide +kernel
theorem dL_law_293 : decode cL_law 293 = .ok (.aload_n 0, 1) := by decide +kernel
theorem dL_law_294 : decode cL_law 294 = .ok (.iload_n 3, 1) := by decide +kernel
theorem dL_law_295 : decode cL_law 295 = .ok (.iconst 1, 1) := by decide +kernel
theorem dL_law_296 : decode cL_law 296 = .ok (.iadd, 1) := by decide +kernel
theorem dL_law_297 : decode cL_law 297 = .ok (.iaload, 1) := by decide +kernel
theorem dL_law_298 : decode cL_law 298 = .ok (.invokevirtual 45, 3) := by decide +kernel
theorem dL_law_301 : decode cL_law 301 = .ok (.pop, 1) := by decide +kernel
theorem dL_law_302 : decode cL_law 302 = .ok (.goto 184, 3) := by decide +kernel
theorem dL_law_305 : decode cL_law 305 = .ok (.aload_n 1, 1) := by decide +kernel
theorem dL_law_306 : decode cL_law 306 = .ok (.aload_n 0, 1) := by decide +kernel
theorem dL_law_307 : decode cL_law 307 = .ok (.iload_n 3, 1) := by decide +kernel
theorem dL_law_308 : decode cL_law 308 = .ok (.iconst 1, 1) := by decide +kernel
theorem dL_law_309 : decode cL_law 309 = .ok (.iadd, 1) := by decide +kernel
theorem dL_law_310 : decode cL_law 310 = .ok (.iaload, 1) := by decide +kernel
theorem dL_law_311 : decode cL_law 311 = .ok (.invokevirtual 46, 3) := by decide +kernel
theorem dL_law_314 : decode cL_law 314 = .ok (.pop, 1) := by decide +kernel
theorem dL_law_315 : decode cL_law 315 = .ok (.aload_n 2, 1) := by decide +kernel
theorem dL_law_316 : decode cL_law 316 = .ok (.aload_n 0, 1) := by decide +kernel
theorem dL_law_317 : decode cL_law 317 = .ok (.iload_n 3, 1) := by decide +kernel
theorem dL_law_318 : decode cL_law 318 = .ok (.iconst 1, 1) := by decide +kernel
theorem dL_law_319 : decode cL_law 319 = .ok (.iadd, 1) := by decide +kernel
theorem dL_law_320 : decode cL_law 320 = .ok (.iaload, 1) := by decide +kernel
theorem dL_law_321 : decode cL_law 321 = .ok (.invokevirtual 49, 3) := by decide +kernel
theorem dL_law_324 : decode cL_law 324 = .ok (.pop, 1) := by decide +kernel
theorem dL_law_325 : decode cL_law 325 = .ok (.goto 161, 3) := by decide +kernel
theorem dL_law_328 : decode cL_law 328 = .ok (.aload_n 1, 1) := by decide +kernel
theorem dL_law_329 : decode cL_law 329 = .ok (.aload_n 0, 1) := by decide +kernel
theorem dL_law_330 : decode cL_law 330 = .ok (.iload_n 3, 1) := by decide +kernel
theorem dL_law_331 : decode cL_law 331 = .ok (.iconst 1, 1) := by decide +kernel
theorem dL_law_332 : decode cL_law 332 = .ok (.iadd, 1) := by decide +kernel
theorem dL_law_333 : decode cL_law 333 = .ok (.iaload, 1) := by decide +kernel
theorem dL_law_334 : decode cL_law 334 = .ok (.invokevirtual 50, 3) := by decide +kernel
theorem dL_law_337 : decode cL_law 337 = .ok (.pop, 1) := by decide +kernel
theorem dL_law_338 : decode cL_law 338 = .ok (.aload_n 2, 1) := by decide +kernel
theorem dL_law_339 : decode cL_law 339 = .ok (.aload_n 0, 1) := by decide +kernel
theorem dL_law_340 : decode cL_law 340 = .ok (.iload_n 3, 1) := by decide +kernel
theorem dL_law_341 : decode cL_law 341 = .ok (.iconst 1, 1) := by decide +kernel
theorem dL_law_342 : decode cL_law 342 = .ok (.iadd, 1) := by decide +kernel
theorem dL_law_343 : decode cL_law 343 = .ok (.iaload, 1) := by decide +kernel
theorem dL_law_344 : decode cL_law 344 = .ok (.invokevirtual 53, 3) := by decide +kernel
theorem dL_law_347 : decode cL_law 347 = .ok (.pop, 1) := by decide +kernel
theorem dL_law_348 : decode cL_law 348 = .ok (.goto 138, 3) := by decide +kernel
theorem dL_law_351 : decode cL_law 351 = .ok (.aload_n 1, 1) := by decide +kernel
theorem dL_law_352 : decode cL_law 352 = .ok (.aload_n 0, 1) := by decide +kernel
theorem dL_law_353 : decode cL_law 353 = .ok (.iload_n 3, 1) := by decide +kernel
theorem dL_law_354 : decode cL_law 354 = .ok (.iconst 1, 1) := by decide +kernel
theorem dL_law_355 : decode cL_law 355 = .ok (.iadd, 1) := by decide +kernel
theorem dL_law_356 : decode cL_law 356 = .ok (.iaload, 1) := by decide +kernel
theorem dL_law_357 : decode cL_law 357 = .ok (.invokevirtual 54, 3) := by decide +kernel
theorem dL_law_360 : decode cL_law 360 = .ok (.pop, 1) := by decide +kernel
theorem dL_law_361 : decode cL_law 361 = .ok (.aload_n 2, 1) := by decide +kernel
theorem dL_law_362 : decode cL_law 362 = .ok (.aload_n 0, 1) := by decide +kernel
theorem dL_law_363 : decode cL_law 363 = .ok (.iload_n 3, 1) := by decide +kernel
theorem dL_law_364 : decode cL_law 364 = .ok (.iconst 1, 1) := by decide +kernel
theorem dL_law_365 : decode cL_law 365 = .ok (.iadd, 1) := by decide +kernel
theorem dL_law_366 : decode cL_law 366 = .ok (.iaload, 1) := by decide +kernel
theorem dL_law_367 : decode cL_law 367 = .ok (.invokevirtual 57, 3) := by decide +kernel
theorem dL_law_370 : decode cL_law 370 = .ok (.pop, 1) := by decide +kernel
theorem dL_law_371 : decode cL_law 371 = .ok (.goto 115, 3) := by decide +kernel
theorem dL_law_374 : decode cL_law 374 = .ok (.aload_n 1, 1) := by decide +kernel
theorem dL_law_375 : decode cL_law 375 = .ok (.aload_n 0, 1) := by decide +kernel
theorem dL_law_376 : decode cL_law 376 = .ok (.iload_n 3, 1) := by decide +kernel
theorem dL_law_377 : decode cL_law 377 = .ok (.iconst 1, 1) := by decide +kernel
theorem dL_law_378 : decode cL_law 378 = .ok (.iadd, 1) := by decide +kernel
theorem dL_law_379 : decode cL_law 379 = .ok (.iaload, 1) := by decide +kernel
theorem dL_law_380 : decode cL_law 380 = .ok (.aload_n 0, 1) := by decide +kernel
theorem dL_law_381 : decode cL_law 381 = .ok (.iload_n 3, 1) := by decide +kernel
theorem dL_law_382 : decode cL_law 382 = .ok (.iconst 2, 1) := by decide +kernel
theorem dL_law_383 : decode cL_law 383 = .ok (.iadd, 1) := by decide +kernel
theorem dL_law_384 : decode cL_law 384 = .ok (.iaload, 1) := by decide +kernel
theorem dL_law_385 : decode cL_law 385 = .ok (.aload_n 0, 1) := by decide +kernel
theorem dL_law_386 : decode cL_law 386 = .ok (.iload_n 3, 1) := by decide +kernel
theorem dL_law_387 : decode cL_law 387 = .ok (.iconst 3, 1) := by decide +kernel
theorem dL_law_388 : decode cL_law 388 = .ok (.iadd, 1) := by decide +kernel
theorem dL_law_389 : decode cL_law 389 = .ok (.iaload, 1) := by decide +kernel
theorem dL_law_390 : decode cL_law 390 = .ok (.invokevirtual 58, 3) := by decide +kernel
theorem dL_law_393 : decode cL_law 393 = .ok (.pop, 1) := by decide +kernel
theorem dL_law_394 : decode cL_law 394 = .ok (.aload_n 2, 1) := by decide +kernel
theorem dL_law_395 : decode cL_law 395 = .ok (.aload_n 0, 1) := by decide +kernel
theorem dL_law_396 : decode cL_law 396 = .ok (.iload_n 3, 1) := by decide +kernel
theorem dL_law_397 : decode cL_law 397 = .ok (.iconst 1, 1) := by decide +kernel
theorem dL_law_398 : decode cL_law 398 = .ok (.iadd, 1) := by decide +kernel
theorem dL_law_399 : decode cL_law 399 = .ok (.iaload, 1) := by decide +kernel
theorem dL_law_400 : decode cL_law 400 = .ok (.aload_n 0, 1) := by decide +kernel
theorem dL_law_401 : decode cL_law 401 = .ok (.iload_n 3, 1) := by decide +kernel
theorem dL_law_402 : decode cL_law 402 = .ok (.iconst 2, 1) := by decide +kernel
theorem dL_law_403 : decode cL_law 403 = .ok (.iadd, 1) := by decide +kernel
theorem dL_law_404 : decode cL_law 404 = .ok (.iaload, 1) := by decide +kernel
theorem dL_law_405 : decode cL_law 405 = .ok (.aload_n 0, 1) := by decide +kernel
theorem dL_law_406 : decode cL_law 406 = .ok (.iload_n 3, 1) := by decide +kernel
theorem dL_law_407 : decode cL_law 407 = .ok (.iconst 3, 1) := by decide +kernel
theorem dL_law_408 : decode cL_law 408 = .ok (.iadd, 1) := by decide +kernel
theorem dL_law_409 : decode cL_law 409 = .ok (.iaload, 1) := by decide +kernel
theorem dL_law_410 : decode cL_law 410 = .ok (.invokevirtual 62, 3) := by decide +kernel
theorem dL_law_413 : decode cL_law 413 = .ok (.pop, 1) := by decide +kernel
theorem dL_law_414 : decode cL_law 414 = .ok (.goto 72, 3) := by decide +kernel
theorem dL_law_417 : decode cL_law 417 = .ok (.aload_n 1, 1) := by decide +kernel
theorem dL_law_418 : decode cL_law 418 = .ok (.aload_n 0, 1) := by decide +kernel
theorem dL_law_419 : decode cL_law 419 = .ok (.iload_n 3, 1) := by decide +kernel
theorem dL_law_420 : decode cL_law 420 = .ok (.iconst 1, 1) := by decide +kernel
theorem dL_law_421 : decode cL_law 421 = .ok (.iadd, 1) := by decide +kernel
theorem dL_law_422 : decode cL_law 422 = .ok (.iaload, 1) := by decide +kernel
theorem dL_law_423 : decode cL_law 423 = .ok (.aload_n 0, 1) := by decide +kernel
theorem dL_law_424 : decode cL_law 424 = .ok (.iload_n 3, 1) := by decide +kernel
theorem dL_law_425 : decode cL_law 425 = .ok (.iconst 2, 1) := by decide +kernel
theorem dL_law_426 : decode cL_law 426 = .ok (.iadd, 1) := by decide +kernel
theorem dL_law_427 : decode cL_law 427 = .ok (.iaload, 1) := by decide +kernel
theorem dL_law_428 : decode cL_law 428 = .ok (.invokevirtual 63, 3) := by decide +kernel
theorem dL_law_431 : decode cL_law 431 = .ok (.pop, 1) := by decide +kernel
theorem dL_law_432 : decode cL_law 432 = .ok (.aload_n 2, 1) := by decide +kernel
theorem dL_law_433 : decode cL_law 433 = .ok (.aload_n 0, 1) := by decide +kernel
theorem dL_law_434 : decode cL_law 434 = .ok (.iload_n 3, 1) := by decide +kernel
theorem dL_law_435 : decode cL_law 435 = .ok (.iconst 1, 1) := by decide +kernel
theorem dL_law_436 : decode cL_law 436 = .ok (.iadd, 1) := by decide +kernel
theorem dL_law_437 : decode cL_law 437 = .ok (.iaload, 1) := by decide +kernel
theorem dL_law_438 : decode cL_law 438 = .ok (.aload_n 0, 1) := by decide +kernel
theorem dL_law_439 : decode cL_law 439 = .ok (.iload_n 3, 1) := by decide +kernel
theorem dL_law_440 : decode cL_law 440 = .ok (.iconst 2, 1) := by decide +kernel
theorem dL_law_441 : decode cL_law 441 = .ok (.iadd, 1) := by decide +kernel
theorem dL_law_442 : decode cL_law 442 = .ok (.iaload, 1) := by decide +kernel
theorem dL_law_443 : decode cL_law 443 = .ok (.invokevirtual 67, 3) := by decide +kernel
theorem dL_law_446 : decode cL_law 446 = .ok (.pop, 1) := by decide +kernel
theorem dL_law_447 : decode cL_law 447 = .ok (.goto 39, 3) := by decide +kernel
theorem dL_law_450 : decode cL_law 450 = .ok (.aload_n 1, 1) := by decide +kernel
theorem dL_law_451 : decode cL_law 451 = .ok (.aload_n 0, 1) := by decide +kernel
theorem dL_law_452 : decode cL_law 452 = .ok (.iload_n 3, 1) := by decide +kernel
theorem dL_law_453 : decode cL_law 453 = .ok (.iconst 1, 1) := by decide +kernel
theorem dL_law_454 : decode cL_law 454 = .ok (.iadd, 1) := by decide +kernel
theorem dL_law_455 : decode cL_law 455 = .ok (.iaload, 1) := by decide +kernel
theorem dL_law_456 : decode cL_law 456 = .ok (.invokevirtual 68, 3) := by decide +kernel
theorem dL_law_459 : decode cL_law 459 = .ok (.aload_n 2, 1) := by decide +kernel
theorem dL_law_460 : decode cL_law 460 = .ok (.aload_n 0, 1) := by decide +kernel
theorem dL_law_461 : decode cL_law 461 = .ok (.iload_n 3, 1) := by decide +kernel
theorem dL_law_462 : decode cL_law 462 = .ok (.iconst 1, 1) := by decide +kernel
theorem dL_law_463 : decode cL_law 463 = .ok (.iadd, 1) := by decide +kernel
theorem dL_law_464 : decode cL_law 464 = .ok (.iaload, 1) := by decide +kernel
theorem dL_law_465 : decode cL_law 465 = .ok (.invokevirtual 71, 3) := by decide +kernel
theorem dL_law_468 : decode cL_law 468 = .ok (.if_icmp .eq 18, 3) := by decide +kernel
theorem dL_law_473 : decode cL_law 473 = .ok (.aload_n 1, 1) := by decide +kernel
theorem dL_law_474 : decode cL_law 474 = .ok (.invokevirtual 72, 3) := by decide +kernel
theorem dL_law_477 : decode cL_law 477 = .ok (.pop, 1) := by decide +kernel
theorem dL_law_478 : decode cL_law 478 = .ok (.aload_n 2, 1) := by decide +kernel
theorem dL_law_479 : decode cL_law 479 = .ok (.invokevirtual 75, 3) := by decide +kernel
theorem dL_law_482 : decode cL_law 482 = .ok (.pop, 1) := by decide +kernel
theorem dL_law_483 : decode cL_law 483 = .ok (.goto 3, 3) := by decide +kernel
theorem dL_law_486 : decode cL_law 486 = .ok (.iinc 3 6, 3) := by decide +kernel
theorem dL_law_489 : decode cL_law 489 = .ok (.goto (-471), 3) := by decide +kernel
theorem dL_law_492 : decode cL_law 492 = .ok (.iconst 1, 1) := by decide +kernel
theorem dL_law_493 : decode cL_law 493 = .ok (.ireturn, 1) := by decide +kernel
theorem w_204 : Cond.initialized RX11 ∈ tb := tbc_1 1 (by decide +kernel) rfl
theorem w_738 : Cond.methodLink RL 13 yX11_feed ∈ tb := tbc_3 55 (by decide +kernel) rfl
theorem w_739 : Cond.instanceMethod yX11_feed ∈ tb := tbc_3 56 (by decide +kernel) rfl
theorem w_740 : Cond.selects RX11 yX11_feed yX11_feed ∈ tb := tbc_3 57 (by decide +kernel) rfl
theorem w_741 : Cond.code yX11_feed cX11_feed 6 (some .int) ∈ tb := tbc_3 58 (by decide +kernel) rfl
theorem w_754 : Cond.methodLink RL 18 yX11_end ∈ tb := tbc_3 71 (by decide +kernel) rfl
theorem w_755 : Cond.instanceMethod yX11_end ∈ tb := tbc_3 72 (by decide +kernel) rfl
theorem w_756 : Cond.selects RX11 yX11_end yX11_end ∈ tb := tbc_3 73 (by decide +kernel) rfl
theorem w_757 : Cond.code yX11_end cX11_end 2 (some .boolean) ∈ tb := tbc_3 74 (by decide +kernel) rfl
theorem w_762 : Cond.methodLink RL 23 yX11_tell ∈ tb := tbc_3 79 (by decide +kernel) rfl
theorem w_763 : Cond.instanceMethod yX11_tell ∈ tb := tbc_3 80 (by decide +kernel) rfl
theorem w_764 : Cond.selects RX11 yX11_tell yX11_tell ∈ tb := tbc_3 81 (by decide +kernel) rfl
theorem w_765 : Cond.code yX11_tell cX11_tell 2 (some .int) ∈ tb := tbc_3 82 (by decide +kernel) rfl
theorem w_1121 : Cond.methodLink RL 28 yX11_fault ∈ tb := tbc_4 198 (by decide +kernel) rfl
theorem w_1122 : Cond.instanceMethod yX11_fault ∈ tb := tbc_4 199 (by decide +kernel) rfl
theorem w_1123 : Cond.selects RX11 yX11_fault yX11_fault ∈ tb := tbc_4 200 (by decide +kernel) rfl
theorem w_1124 : Cond.code yX11_fault cX11_fault 2 (some .int) ∈ tb := tbc_4 201 (by decide +kernel) rfl
theorem w_1125 : Cond.methodLink RL 33 yX11_size ∈ tb := tbc_4 202 (by decide +kernel) rfl
theorem w_1126 : Cond.instanceMethod yX11_size ∈ tb := tbc_4 203 (by decide +kernel) rfl
theorem w_1127 : Cond.selects RX11 yX11_size yX11_size ∈ tb := tbc_4 204 (by decide +kernel) rfl
theorem w_1128 : Cond.code yX11_size cX11_size 2 (some .int) ∈ tb := tbc_4 205 (by decide +kernel) rfl
theorem w_1133 : Cond.methodLink RL 37 yX11_coefficient ∈ tb := tbc_4 210 (by decide +kernel) rfl
theorem w_1134 : Cond.instanceMethod yX11_coefficient ∈ tb := tbc_4 211 (by decide +kernel) rfl
theorem w_1135 : Cond.selects RX11 yX11_coefficient yX11_coefficient ∈ tb := tbc_4 212 (by decide +kernel) rfl
theorem w_1136 : Cond.code yX11_coefficient cX11_coefficient 3 (some .long) ∈ tb := tbc_4 213 (by decide +kernel) rfl
theorem w_1168 : Cond.methodLink RL 42 yX11_begin ∈ tb := tbc_5 5 (by decide +kernel) rfl
theorem w_1169 : Cond.instanceMethod yX11_begin ∈ tb := tbc_5 6 (by decide +kernel) rfl
theorem w_1170 : Cond.selects RX11 yX11_begin yX11_begin ∈ tb := tbc_5 7 (by decide +kernel) rfl
theorem w_1171 : Cond.code yX11_begin cX11_begin 2 (some .boolean) ∈ tb := tbc_5 8 (by decide +kernel) rfl
theorem w_1221 : Cond.methodLink RL 46 yX11_work ∈ tb := tbc_5 58 (by decide +kernel) rfl
theorem w_1222 : Cond.instanceMethod yX11_work ∈ tb := tbc_5 59 (by decide +kernel) rfl
theorem w_1223 : Cond.selects RX11 yX11_work yX11_work ∈ tb := tbc_5 60 (by decide +kernel) rfl
theorem w_1224 : Cond.code yX11_work cX11_work 3 (some .int) ∈ tb := tbc_5 61 (by decide +kernel) rfl
theorem w_1689 : Cond.methodLink RL 50 yX11_look ∈ tb := tbc_7 46 (by decide +kernel) rfl
theorem w_1690 : Cond.instanceMethod yX11_look ∈ tb := tbc_7 47 (by decide +kernel) rfl
theorem w_1691 : Cond.selects RX11 yX11_look yX11_look ∈ tb := tbc_7 48 (by decide +kernel) rfl
theorem w_1692 : Cond.code yX11_look cX11_look 2 (some .int) ∈ tb := tbc_7 49 (by decide +kernel) rfl
theorem w_1702 : Cond.methodLink RL 54 yX11_place ∈ tb := tbc_7 59 (by decide +kernel) rfl
theorem w_1703 : Cond.instanceMethod yX11_place ∈ tb := tbc_7 60 (by decide +kernel) rfl
theorem w_1704 : Cond.selects RX11 yX11_place yX11_place ∈ tb := tbc_7 61 (by decide +kernel) rfl
theorem w_1705 : Cond.code yX11_place cX11_place 2 (some .int) ∈ tb := tbc_7 62 (by decide +kernel) rfl
theorem w_1707 : Cond.methodLink RL 58 yX11_entry ∈ tb := tbc_7 64 (by decide +kernel) rfl
theorem w_1708 : Cond.instanceMethod yX11_entry ∈ tb := tbc_7 65 (by decide +kernel) rfl
theorem w_1709 : Cond.selects RX11 yX11_entry yX11_entry ∈ tb := tbc_7 66 (by decide +kernel) rfl
theorem w_1710 : Cond.code yX11_entry cX11_entry 4 (some .int) ∈ tb := tbc_7 67 (by decide +kernel) rfl
theorem w_1718 : Cond.methodLink RL 63 yX11_told ∈ tb := tbc_7 75 (by decide +kernel) rfl
theorem w_1719 : Cond.instanceMethod yX11_told ∈ tb := tbc_7 76 (by decide +kernel) rfl
theorem w_1720 : Cond.selects RX11 yX11_told yX11_told ∈ tb := tbc_7 77 (by decide +kernel) rfl
theorem w_1721 : Cond.code yX11_told cX11_told 3 (some .int) ∈ tb := tbc_7 78 (by decide +kernel) rfl
theorem w_1734 : Cond.methodLink RL 68 yX11_proof ∈ tb := tbc_7 91 (by decide +kernel) rfl
theorem w_1735 : Cond.instanceMethod yX11_proof ∈ tb := tbc_7 92 (by decide +kernel) rfl
theorem w_1736 : Cond.selects RX11 yX11_proof yX11_proof ∈ tb := tbc_7 93 (by decide +kernel) rfl
theorem w_1737 : Cond.code yX11_proof cX11_proof 2 (some .int) ∈ tb := tbc_7 94 (by decide +kernel) rfl
theorem w_1744 : Cond.methodLink RL 72 yX11_check ∈ tb := tbc_7 101 (by decide +kernel) rfl
theorem w_1745 : Cond.instanceMethod yX11_check ∈ tb := tbc_7 102 (by decide +kernel) rfl
theorem w_1746 : Cond.selects RX11 yX11_check yX11_check ∈ tb := tbc_7 103 (by decide +kernel) rfl
theorem w_1747 : Cond.code yX11_check cX11_check 1 (some .int) ∈ tb := tbc_7 104 (by decide +kernel) rfl
theorem w_2277 : Cond.methodLink RL 17 yX12_feed ∈ tb := tbc_9 154 (by decide +kernel) rfl
theorem w_2278 : Cond.instanceMethod yX12_feed ∈ tb := tbc_9 155 (by decide +kernel) rfl
theorem w_2279 : Cond.selects RX12 yX12_feed yX12_feed ∈ tb := tbc_9 156 (by decide +kernel) rfl
theorem w_2280 : Cond.code yX12_feed cX12_feed 6 (some .int) ∈ tb := tbc_9 157 (by decide +kernel) rfl
theorem w_2285 : Cond.methodLink RL 22 yX12_end ∈ tb := tbc_9 162 (by decide +kernel) rfl
theorem w_2286 : Cond.instanceMethod yX12_end ∈ tb := tbc_9 163 (by decide +kernel) rfl
theorem w_2287 : Cond.selects RX12 yX12_end yX12_end ∈ tb := tbc_9 164 (by decide +kernel) rfl
theorem w_2288 : Cond.code yX12_end cX12_end 2 (some .boolean) ∈ tb := tbc_9 165 (by decide +kernel) rfl
theorem w_2289 : Cond.methodLink RL 27 yX12_tell ∈ tb := tbc_9 166 (by decide +kernel) rfl
theorem w_2290 : Cond.instanceMethod yX12_tell ∈ tb := tbc_9 167 (by decide +kernel) rfl
theorem w_2291 : Cond.selects RX12 yX12_tell yX12_tell ∈ tb := tbc_9 168 (by decide +kernel) rfl
theorem w_2292 : Cond.code yX12_tell cX12_tell 2 (some .int) ∈ tb := tbc_9 169 (by decide +kernel) rfl
theorem w_2465 : Cond.methodLink RL 32 yX12_fault ∈ tb := tbc_10 102 (by decide +kernel) rfl
theorem w_2466 : Cond.instanceMethod yX12_fault ∈ tb := tbc_10 103 (by decide +kernel) rfl
theorem w_2467 : Cond.selects RX12 yX12_fault yX12_fault ∈ tb := tbc_10 104 (by decide +kernel) rfl
theorem w_2468 : Cond.code yX12_fault cX12_fault 2 (some .int) ∈ tb := tbc_10 105 (by decide +kernel) rfl
theorem w_2469 : Cond.methodLink RL 36 yX12_size ∈ tb := tbc_10 106 (by decide +kernel) rfl
theorem w_2470 : Cond.instanceMethod yX12_size ∈ tb := tbc_10 107 (by decide +kernel) rfl
theorem w_2471 : Cond.selects RX12 yX12_size yX12_size ∈ tb := tbc_10 108 (by decide +kernel) rfl
theorem w_2472 : Cond.code yX12_size cX12_size 2 (some .int) ∈ tb := tbc_10 109 (by decide +kernel) rfl
theorem w_2473 : Cond.methodLink RL 41 yX12_coefficient ∈ tb := tbc_10 110 (by decide +kernel) rfl
theorem w_2474 : Cond.instanceMethod yX12_coefficient ∈ tb := tbc_10 111 (by decide +kernel) rfl
theorem w_2475 : Cond.selects RX12 yX12_coefficient yX12_coefficient ∈ tb := tbc_10 112 (by decide +kernel) rfl
theorem w_2476 : Cond.code yX12_coefficient cX12_coefficient 3 (some .long) ∈ tb := tbc_10 113 (by decide +kernel) rfl
theorem w_2488 : Cond.methodLink RL 45 yX12_begin ∈ tb := tbc_10 125 (by decide +kernel) rfl
theorem w_2489 : Cond.instanceMethod yX12_begin ∈ tb := tbc_10 126 (by decide +kernel) rfl
theorem w_2490 : Cond.selects RX12 yX12_begin yX12_begin ∈ tb := tbc_10 127 (by decide +kernel) rfl
theorem w_2491 : Cond.code yX12_begin cX12_begin 5 (some .boolean) ∈ tb := tbc_10 128 (by decide +kernel) rfl
theorem w_2497 : Cond.methodLink RL 49 yX12_work ∈ tb := tbc_10 134 (by decide +kernel) rfl
theorem w_2498 : Cond.instanceMethod yX12_work ∈ tb := tbc_10 135 (by decide +kernel) rfl
theorem w_2499 : Cond.selects RX12 yX12_work yX12_work ∈ tb := tbc_10 136 (by decide +kernel) rfl
theorem w_2500 : Cond.code yX12_work cX12_work 3 (some .int) ∈ tb := tbc_10 137 (by decide +kernel) rfl
theorem w_2688 : Cond.methodLink RL 53 yX12_look ∈ tb := tbc_11 85 (by decide +kernel) rfl
theorem w_2689 : Cond.instanceMethod yX12_look ∈ tb := tbc_11 86 (by decide +kernel) rfl
theorem w_2690 : Cond.selects RX12 yX12_look yX12_look ∈ tb := tbc_11 87 (by decide +kernel) rfl
theorem w_2691 : Cond.code yX12_look cX12_look 3 (some .int) ∈ tb := tbc_11 88 (by decide +kernel) rfl
theorem w_2692 : Cond.methodLink RL 57 yX12_place ∈ tb := tbc_11 89 (by decide +kernel) rfl
theorem w_2693 : Cond.instanceMethod yX12_place ∈ tb := tbc_11 90 (by decide +kernel) rfl
theorem w_2694 : Cond.selects RX12 yX12_place yX12_place ∈ tb := tbc_11 91 (by decide +kernel) rfl
theorem w_2695 : Cond.code yX12_place cX12_place 2 (some .int) ∈ tb := tbc_11 92 (by decide +kernel) rfl
theorem w_2696 : Cond.methodLink RL 62 yX12_entry ∈ tb := tbc_11 93 (by decide +kernel) rfl
theorem w_2697 : Cond.instanceMethod yX12_entry ∈ tb := tbc_11 94 (by decide +kernel) rfl
theorem w_2698 : Cond.selects RX12 yX12_entry yX12_entry ∈ tb := tbc_11 95 (by decide +kernel) rfl
theorem w_2699 : Cond.code yX12_entry cX12_entry 4 (some .int) ∈ tb := tbc_11 96 (by decide +kernel) rfl
theorem w_2704 : Cond.methodLink RL 67 yX12_told_ ∈ tb := tbc_11 101 (by decide +kernel) rfl
theorem w_2705 : Cond.instanceMethod yX12_told_ ∈ tb := tbc_11 102 (by decide +kernel) rfl
theorem w_2706 : Cond.selects RX12 yX12_told_ yX12_told_ ∈ tb := tbc_11 103 (by decide +kernel) rfl
theorem w_2707 : Cond.code yX12_told_ cX12_told_ 6 (some .int) ∈ tb := tbc_11 104 (by decide +kernel) rfl
theorem w_2708 : Cond.methodLink RL 71 yX12_proof ∈ tb := tbc_11 105 (by decide +kernel) rfl
theorem w_2709 : Cond.instanceMethod yX12_proof ∈ tb := tbc_11 106 (by decide +kernel) rfl
theorem w_2710 : Cond.selects RX12 yX12_proof yX12_proof ∈ tb := tbc_11 107 (by decide +kernel) rfl
theorem w_2711 : Cond.code yX12_proof cX12_proof 2 (some .int) ∈ tb := tbc_11 108 (by decide +kernel) rfl
theorem w_2712 : Cond.methodLink RL 75 yX12_check ∈ tb := tbc_11 109 (by decide +kernel) rfl
theorem w_2713 : Cond.instanceMethod yX12_check ∈ tb := tbc_11 110 (by decide +kernel) rfl
theorem w_2714 : Cond.selects RX12 yX12_check yX12_check ∈ tb := tbc_11 111 (by decide +kernel) rfl
theorem w_2715 : Cond.code yX12_check cX12_check 2 (some .int) ∈ tb := tbc_11 112 (by decide +kernel) rfl
section RW895
variable {p : Program} {l : Launch} {e : Env} {R : Room} {s : State} {m : MethodId} {args : Array Value} {below : List Frame} {meth : Method} {c : Code} {H : Heap} {locs : List Loc} {cells slots : Nat} {Q : State → Prop}
variable {cc : ByteArray} {pc nL : Nat} {ls : Array Slot} {rest st0 : List Value} {G : sG} {n : Nat} {S : sS}
theorem c_L_13 (Cx : sC G p m c cc nL s args RL) {rm : Room} {mc ms : Nat} (h1 : rm.cells = mc) (h2 : rm.slots = ms) (h3 : rm.frames + 1 ≤ R.frames ∧ 8 + (6 + 11) + rm.locals ≤ R.locals) : CallW R s args RL RX11 13 yX11_feed cX11_feed 6 (some .int) (.code yX11_feed cX11_feed 6 (some .int) :: tb) rm mc ms 5 :=
  sCw Cx 5 w_738 w_739 w_740 w_204 w_741 (by decide +kernel) h1 h2 h3
theorem c_L_17 (Cx : sC G p m c cc nL s args RL) {rm : Room} {mc ms : Nat} (h1 : rm.cells = mc) (h2 : rm.slots = ms) (h3 : rm.frames + 1 ≤ R.frames ∧ 8 + (6 + 11) + rm.locals ≤ R.locals) : CallW R s args RL RX12 17 yX12_feed cX12_feed 6 (some .int) (.code yX12_feed cX12_feed 6 (some .int) :: tb) rm mc ms 5 :=
  sCw Cx 5 w_2277 w_2278 w_2279 w_217 w_2280 (by decide +kernel) h1 h2 h3
theorem c_L_18 (Cx : sC G p m c cc nL s args RL) {rm : Room} {mc ms : Nat} (h1 : rm.cells = mc) (h2 : rm.slots = ms) (h3 : rm.frames + 1 ≤ R.frames ∧ 8 + (2 + 11) + rm.locals ≤ R.locals) : CallW R s args RL RX11 18 yX11_end cX11_end 2 (some .boolean) (.code yX11_end cX11_end 2 (some .boolean) :: tb) rm mc ms 1 :=
  sCw Cx 1 w_754 w_755 w_756 w_204 w_757 (by decide +kernel) h1 h2 h3
theorem c_L_22 (Cx : sC G p m c cc nL s args RL) {rm : Room} {mc ms : Nat} (h1 : rm.cells = mc) (h2 : rm.slots = ms) (h3 : rm.frames + 1 ≤ R.frames ∧ 8 + (2 + 11) + rm.locals ≤ R.locals) : CallW R s args RL RX12 22 yX12_end cX12_end 2 (some .boolean) (.code yX12_end cX12_end 2 (some .boolean) :: tb) rm mc ms 1 :=
  sCw Cx 1 w_2285 w_2286 w_2287 w_217 w_2288 (by decide +kernel) h1 h2 h3
theorem c_L_23 (Cx : sC G p m c cc nL s args RL) {rm : Room} {mc ms : Nat} (h1 : rm.cells = mc) (h2 : rm.slots = ms) (h3 : rm.frames + 1 ≤ R.frames ∧ 8 + (2 + 11) + rm.locals ≤ R.locals) : CallW R s args RL RX11 23 yX11_tell cX11_tell 2 (some .int) (.code yX11_tell cX11_tell 2 (some .int) :: tb) rm mc ms 0 :=
  sCw Cx 0 w_762 w_763 w_764 w_204 w_765 (by decide +kernel) h1 h2 h3
theorem c_L_27 (Cx : sC G p m c cc nL s args RL) {rm : Room} {mc ms : Nat} (h1 : rm.cells = mc) (h2 : rm.slots = ms) (h3 : rm.frames + 1 ≤ R.frames ∧ 8 + (2 + 11) + rm.locals ≤ R.locals) : CallW R s args RL RX12 27 yX12_tell cX12_tell 2 (some .int) (.code yX12_tell cX12_tell 2 (some .int) :: tb) rm mc ms 0 :=
  sCw Cx 0 w_2289 w_2290 w_2291 w_217 w_2292 (by decide +kernel) h1 h2 h3
theorem c_L_28 (Cx : sC G p m c cc nL s args RL) {rm : Room} {mc ms : Nat} (h1 : rm.cells = mc) (h2 : rm.slots = ms) (h3 : rm.frames + 1 ≤ R.frames ∧ 8 + (2 + 11) + rm.locals ≤ R.locals) : CallW R s args RL RX11 28 yX11_fault cX11_fault 2 (some .int) (.code yX11_fault cX11_fault 2 (some .int) :: tb) rm mc ms 1 :=
  sCw Cx 1 w_1121 w_1122 w_1123 w_204 w_1124 (by decide +kernel) h1 h2 h3
theorem c_L_32 (Cx : sC G p m c cc nL s args RL) {rm : Room} {mc ms : Nat} (h1 : rm.cells = mc) (h2 : rm.slots = ms) (h3 : rm.frames + 1 ≤ R.frames ∧ 8 + (2 + 11) + rm.locals ≤ R.locals) : CallW R s args RL RX12 32 yX12_fault cX12_fault 2 (some .int) (.code yX12_fault cX12_fault 2 (some .int) :: tb) rm mc ms 1 :=
  sCw Cx 1 w_2465 w_2466 w_2467 w_217 w_2468 (by decide +kernel) h1 h2 h3
theorem c_L_33 (Cx : sC G p m c cc nL s args RL) {rm : Room} {mc ms : Nat} (h1 : rm.cells = mc) (h2 : rm.slots = ms) (h3 : rm.frames + 1 ≤ R.frames ∧ 8 + (2 + 11) + rm.locals ≤ R.locals) : CallW R s args RL RX11 33 yX11_size cX11_size 2 (some .int) (.code yX11_size cX11_size 2 (some .int) :: tb) rm mc ms 1 :=
  sCw Cx 1 w_1125 w_1126 w_1127 w_204 w_1128 (by decide +kernel) h1 h2 h3
theorem c_L_36 (Cx : sC G p m c cc nL s args RL) {rm : Room} {mc ms : Nat} (h1 : rm.cells = mc) (h2 : rm.slots = ms) (h3 : rm.frames + 1 ≤ R.frames ∧ 8 + (2 + 11) + rm.locals ≤ R.locals) : CallW R s args RL RX12 36 yX12_size cX12_size 2 (some .int) (.code yX12_size cX12_size 2 (some .int) :: tb) rm mc ms 1 :=
  sCw Cx 1 w_2469 w_2470 w_2471 w_217 w_2472 (by decide +kernel) h1 h2 h3
theorem c_L_37 (Cx : sC G p m c cc nL s args RL) {rm : Room} {mc ms : Nat} (h1 : rm.cells = mc) (h2 : rm.slots = ms) (h3 : rm.frames + 1 ≤ R.frames ∧ 8 + (3 + 11) + rm.locals ≤ R.locals) : CallW R s args RL RX11 37 yX11_coefficient cX11_coefficient 3 (some .long) (.code yX11_coefficient cX11_coefficient 3 (some .long) :: tb) rm mc ms 2 :=
  sCw Cx 2 w_1133 w_1134 w_1135 w_204 w_1136 (by decide +kernel) h1 h2 h3
theorem c_L_41 (Cx : sC G p m c cc nL s args RL) {rm : Room} {mc ms : Nat} (h1 : rm.cells = mc) (h2 : rm.slots = ms) (h3 : rm.frames + 1 ≤ R.frames ∧ 8 + (3 + 11) + rm.locals ≤ R.locals) : CallW R s args RL RX12 41 yX12_coefficient cX12_coefficient 3 (some .long) (.code yX12_coefficient cX12_coefficient 3 (some .long) :: tb) rm mc ms 2 :=
  sCw Cx 2 w_2473 w_2474 w_2475 w_217 w_2476 (by decide +kernel) h1 h2 h3
theorem c_L_42 (Cx : sC G p m c cc nL s args RL) {rm : Room} {mc ms : Nat} (h1 : rm.cells = mc) (h2 : rm.slots = ms) (h3 : rm.frames + 1 ≤ R.frames ∧ 8 + (2 + 11) + rm.locals ≤ R.locals) : CallW R s args RL RX11 42 yX11_begin cX11_begin 2 (some .boolean) (.code yX11_begin cX11_begin 2 (some .boolean) :: tb) rm mc ms 1 :=
  sCw Cx 1 w_1168 w_1169 w_1170 w_204 w_1171 (by decide +kernel) h1 h2 h3
theorem c_L_45 (Cx : sC G p m c cc nL s args RL) {rm : Room} {mc ms : Nat} (h1 : rm.cells = mc) (h2 : rm.slots = ms) (h3 : rm.frames + 1 ≤ R.frames ∧ 8 + (5 + 11) + rm.locals ≤ R.locals) : CallW R s args RL RX12 45 yX12_begin cX12_begin 5 (some .boolean) (.code yX12_begin cX12_begin 5 (some .boolean) :: tb) rm mc ms 1 :=
  sCw Cx 1 w_2488 w_2489 w_2490 w_217 w_2491 (by decide +kernel) h1 h2 h3
theorem c_L_46 (Cx : sC G p m c cc nL s args RL) {rm : Room} {mc ms : Nat} (h1 : rm.cells = mc) (h2 : rm.slots = ms) (h3 : rm.frames + 1 ≤ R.frames ∧ 8 + (3 + 11) + rm.locals ≤ R.locals) : CallW R s args RL RX11 46 yX11_work cX11_work 3 (some .int) (.code yX11_work cX11_work 3 (some .int) :: tb) rm mc ms 1 :=
  sCw Cx 1 w_1221 w_1222 w_1223 w_204 w_1224 (by decide +kernel) h1 h2 h3
theorem c_L_49 (Cx : sC G p m c cc nL s args RL) {rm : Room} {mc ms : Nat} (h1 : rm.cells = mc) (h2 : rm.slots = ms) (h3 : rm.frames + 1 ≤ R.frames ∧ 8 + (3 + 11) + rm.locals ≤ R.locals) : CallW R s args RL RX12 49 yX12_work cX12_work 3 (some .int) (.code yX12_work cX12_work 3 (some .int) :: tb) rm mc ms 1 :=
  sCw Cx 1 w_2497 w_2498 w_2499 w_217 w_2500 (by decide +kernel) h1 h2 h3
theorem c_L_50 (Cx : sC G p m c cc nL s args RL) {rm : Room} {mc ms : Nat} (h1 : rm.cells = mc) (h2 : rm.slots = ms) (h3 : rm.frames + 1 ≤ R.frames ∧ 8 + (2 + 11) + rm.locals ≤ R.locals) : CallW R s args RL RX11 50 yX11_look cX11_look 2 (some .int) (.code yX11_look cX11_look 2 (some .int) :: tb) rm mc ms 1 :=
  sCw Cx 1 w_1689 w_1690 w_1691 w_204 w_1692 (by decide +kernel) h1 h2 h3
theorem c_L_53 (Cx : sC G p m c cc nL s args RL) {rm : Room} {mc ms : Nat} (h1 : rm.cells = mc) (h2 : rm.slots = ms) (h3 : rm.frames + 1 ≤ R.frames ∧ 8 + (3 + 11) + rm.locals ≤ R.locals) : CallW R s args RL RX12 53 yX12_look cX12_look 3 (some .int) (.code yX12_look cX12_look 3 (some .int) :: tb) rm mc ms 1 :=
  sCw Cx 1 w_2688 w_2689 w_2690 w_217 w_2691 (by decide +kernel) h1 h2 h3
theorem c_L_54 (Cx : sC G p m c cc nL s args RL) {rm : Room} {mc ms : Nat} (h1 : rm.cells = mc) (h2 : rm.slots = ms) (h3 : rm.frames + 1 ≤ R.frames ∧ 8 + (2 + 11) + rm.locals ≤ R.locals) : CallW R s args RL RX11 54 yX11_place cX11_place 2 (some .int) (.code yX11_place cX11_place 2 (some .int) :: tb) rm mc ms 1 :=
  sCw Cx 1 w_1702 w_1703 w_1704 w_204 w_1705 (by decide +kernel) h1 h2 h3
theorem c_L_57 (Cx : sC G p m c cc nL s args RL) {rm : Room} {mc ms : Nat} (h1 : rm.cells = mc) (h2 : rm.slots = ms) (h3 : rm.frames + 1 ≤ R.frames ∧ 8 + (2 + 11) + rm.locals ≤ R.locals) : CallW R s args RL RX12 57 yX12_place cX12_place 2 (some .int) (.code yX12_place cX12_place 2 (some .int) :: tb) rm mc ms 1 :=
  sCw Cx 1 w_2692 w_2693 w_2694 w_217 w_2695 (by decide +kernel) h1 h2 h3
theorem c_L_58 (Cx : sC G p m c cc nL s args RL) {rm : Room} {mc ms : Nat} (h1 : rm.cells = mc) (h2 : rm.slots = ms) (h3 : rm.frames + 1 ≤ R.frames ∧ 8 + (4 + 11) + rm.locals ≤ R.locals) : CallW R s args RL RX11 58 yX11_entry cX11_entry 4 (some .int) (.code yX11_entry cX11_entry 4 (some .int) :: tb) rm mc ms 3 :=
  sCw Cx 3 w_1707 w_1708 w_1709 w_204 w_1710 (by decide +kernel) h1 h2 h3
theorem c_L_62 (Cx : sC G p m c cc nL s args RL) {rm : Room} {mc ms : Nat} (h1 : rm.cells = mc) (h2 : rm.slots = ms) (h3 : rm.frames + 1 ≤ R.frames ∧ 8 + (4 + 11) + rm.locals ≤ R.locals) : CallW R s args RL RX12 62 yX12_entry cX12_entry 4 (some .int) (.code yX12_entry cX12_entry 4 (some .int) :: tb) rm mc ms 3 :=
  sCw Cx 3 w_2696 w_2697 w_2698 w_217 w_2699 (by decide +kernel) h1 h2 h3
theorem c_L_63 (Cx : sC G p m c cc nL s args RL) {rm : Room} {mc ms : Nat} (h1 : rm.cells = mc) (h2 : rm.slots = ms) (h3 : rm.frames + 1 ≤ R.frames ∧ 8 + (3 + 11) + rm.locals ≤ R.locals) : CallW R s args RL RX11 63 yX11_told cX11_told 3 (some .int) (.code yX11_told cX11_told 3 (some .int) :: tb) rm mc ms 2 :=
  sCw Cx 2 w_1718 w_1719 w_1720 w_204 w_1721 (by decide +kernel) h1 h2 h3
theorem c_L_67 (Cx : sC G p m c cc nL s args RL) {rm : Room} {mc ms : Nat} (h1 : rm.cells = mc) (h2 : rm.slots = ms) (h3 : rm.frames + 1 ≤ R.frames ∧ 8 + (6 + 11) + rm.locals ≤ R.locals) : CallW R s args RL RX12 67 yX12_told_ cX12_told_ 6 (some .int) (.code yX12_told_ cX12_told_ 6 (some .int) :: tb) rm mc ms 2 :=
  sCw Cx 2 w_2704 w_2705 w_2706 w_217 w_2707 (by decide +kernel) h1 h2 h3
theorem c_L_68 (Cx : sC G p m c cc nL s args RL) {rm : Room} {mc ms : Nat} (h1 : rm.cells = mc) (h2 : rm.slots = ms) (h3 : rm.frames + 1 ≤ R.frames ∧ 8 + (2 + 11) + rm.locals ≤ R.locals) : CallW R s args RL RX11 68 yX11_proof cX11_proof 2 (some .int) (.code yX11_proof cX11_proof 2 (some .int) :: tb) rm mc ms 1 :=
  sCw Cx 1 w_1734 w_1735 w_1736 w_204 w_1737 (by decide +kernel) h1 h2 h3
theorem c_L_71 (Cx : sC G p m c cc nL s args RL) {rm : Room} {mc ms : Nat} (h1 : rm.cells = mc) (h2 : rm.slots = ms) (h3 : rm.frames + 1 ≤ R.frames ∧ 8 + (2 + 11) + rm.locals ≤ R.locals) : CallW R s args RL RX12 71 yX12_proof cX12_proof 2 (some .int) (.code yX12_proof cX12_proof 2 (some .int) :: tb) rm mc ms 1 :=
  sCw Cx 1 w_2708 w_2709 w_2710 w_217 w_2711 (by decide +kernel) h1 h2 h3
theorem c_L_72 (Cx : sC G p m c cc nL s args RL) {rm : Room} {mc ms : Nat} (h1 : rm.cells = mc) (h2 : rm.slots = ms) (h3 : rm.frames + 1 ≤ R.frames ∧ 8 + (1 + 11) + rm.locals ≤ R.locals) : CallW R s args RL RX11 72 yX11_check cX11_check 1 (some .int) (.code yX11_check cX11_check 1 (some .int) :: tb) rm mc ms 0 :=
  sCw Cx 0 w_1744 w_1745 w_1746 w_204 w_1747 (by decide +kernel) h1 h2 h3
theorem c_L_75 (Cx : sC G p m c cc nL s args RL) {rm : Room} {mc ms : Nat} (h1 : rm.cells = mc) (h2 : rm.slots = ms) (h3 : rm.frames + 1 ≤ R.frames ∧ 8 + (2 + 11) + rm.locals ≤ R.locals) : CallW R s args RL RX12 75 yX12_check cX12_check 2 (some .int) (.code yX12_check cX12_check 2 (some .int) :: tb) rm mc ms 0 :=
  sCw Cx 0 w_2712 w_2713 w_2714 w_217 w_2715 (by decide +kernel) h1 h2 h3
end RW895
