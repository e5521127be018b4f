theorem dX12_childRow_0 : decode cX12_childRow 0 = .ok (.aload_n 0, 1) := by decide +kernel
theorem dX12_childRow_1 : decode cX12_childRow 1 = .ok (.getfield 112, 3) := by decide +kernel
theorem dX12_childRow_4 : decode cX12_childRow 4 = .ok (.iload_n 1, 1) := by decide +kernel
theorem dX12_childRow_5 : decode cX12_childRow 5 = .ok (.iaload, 1) := by decide +kernel
theorem dX12_childRow_6 : decode cX12_childRow 6 = .ok (.istore_n 3, 1) := by decide +kernel
theorem dX12_childRow_7 : decode cX12_childRow 7 = .ok (.iconst 0, 1) := by decide +kernel
theorem dX12_childRow_8 : decode cX12_childRow 8 = .ok (.istore 4, 2) := by decide +kernel
theorem dX12_childRow_10 : decode cX12_childRow 10 = .ok (.iload 4, 2) := by decide +kernel
theorem dX12_childRow_12 : decode cX12_childRow 12 = .ok (.aload_n 0, 1) := by decide +kernel
theorem dX12_childRow_13 : decode cX12_childRow 13 = .ok (.getfield 465, 3) := by decide +kernel
theorem dX12_childRow_16 : decode cX12_childRow 16 = .ok (.if_icmp .gt 24, 3) := by decide +kernel
theorem dX12_childRow_19 : decode cX12_childRow 19 = .ok (.aload_n 0, 1) := by decide +kernel
theorem dX12_childRow_20 : decode cX12_childRow 20 = .ok (.getfield 100, 3) := by decide +kernel
theorem dX12_childRow_23 : decode cX12_childRow 23 = .ok (.aload_n 0, 1) := by decide +kernel
theorem dX12_childRow_24 : decode cX12_childRow 24 = .ok (.getfield 480, 3) := by decide +kernel
theorem dX12_childRow_27 : decode cX12_childRow 27 = .ok (.iload 4, 2) := by decide +kernel
theorem dX12_childRow_29 : decode cX12_childRow 29 = .ok (.invokestatic 486, 3) := by decide +kernel
theorem dX12_childRow_32 : decode cX12_childRow 32 = .ok (.iconst 0, 1) := by decide +kernel
theorem dX12_childRow_33 : decode cX12_childRow 33 = .ok (.iastore, 1) := by decide +kernel
theorem dX12_childRow_34 : decode cX12_childRow 34 = .ok (.iinc 4 1, 3) := by decide +kernel
theorem dX12_childRow_37 : decode cX12_childRow 37 = .ok (.goto (-27), 3) := by decide +kernel
theorem dX12_childRow_40 : decode cX12_childRow 40 = .ok (.aload_n 0, 1) := by decide +kernel
theorem dX12_childRow_41 : decode cX12_childRow 41 = .ok (.getfield 100, 3) := by decide +kernel
theorem dX12_childRow_44 : decode cX12_childRow 44 = .ok (.aload_n 0, 1) := by decide +kernel
theorem dX12_childRow_45 : decode cX12_childRow 45 = .ok (.getfield 480, 3) := by decide +kernel
theorem dX12_childRow_48 : decode cX12_childRow 48 = .ok (.iload_n 3, 1) := by decide +kernel
theorem dX12_childRow_49 : decode cX12_childRow 49 = .ok (.invokestatic 486, 3) := by decide +kernel
theorem dX12_childRow_52 : decode cX12_childRow 52 = .ok (.iload_n 2, 1) := by decide +kernel
theorem dX12_childRow_53 : decode cX12_childRow 53 = .ok (.ifCond .eq 9, 3) := by decide +kernel
theorem dX12_childRow_56 : decode cX12_childRow 56 = .ok (.ldc2_w 538, 3) := by decide +kernel
theorem dX12_childRow_59 : decode cX12_childRow 59 = .ok (.goto 4, 3) := by decide +kernel
theorem dX12_childRow_62 : decode cX12_childRow 62 = .ok (.lconst 1, 1) := by decide +kernel
theorem dX12_childRow_63 : decode cX12_childRow 63 = .ok (.invokestatic 241, 3) := by decide +kernel
theorem dX12_childRow_66 : decode cX12_childRow 66 = .ok (.aload_n 0, 1) := by decide +kernel
theorem dX12_childRow_67 : decode cX12_childRow 67 = .ok (.aload_n 0, 1) := by decide +kernel
theorem dX12_childRow_68 : decode cX12_childRow 68 = .ok (.getfield 103, 3) := by decide +kernel
theorem dX12_childRow_71 : decode cX12_childRow 71 = .ok (.aload_n 0, 1) := by decide +kernel
theorem dX12_childRow_72 : decode cX12_childRow 72 = .ok (.iload_n 1, 1) := by decide +kernel
theorem dX12_childRow_73 : decode cX12_childRow 73 = .ok (.iconst 1, 1) := by decide +kernel
theorem dX12_childRow_74 : decode cX12_childRow 74 = .ok (.iadd, 1) := by decide +kernel
theorem dX12_childRow_75 : decode cX12_childRow 75 = .ok (.iconst 0, 1) := by decide +kernel
theorem dX12_childRow_76 : decode cX12_childRow 76 = .ok (.invokevirtual 529, 3) := by decide +kernel
theorem dX12_childRow_79 : decode cX12_childRow 79 = .ok (.aload_n 0, 1) := by decide +kernel
theorem dX12_childRow_80 : decode cX12_childRow 80 = .ok (.getfield 109, 3) := by decide +kernel
theorem dX12_childRow_83 : decode cX12_childRow 83 = .ok (.iconst 0, 1) := by decide +kernel
theorem dX12_childRow_84 : decode cX12_childRow 84 = .ok (.aload_n 0, 1) := by decide +kernel
theorem dX12_childRow_85 : decode cX12_childRow 85 = .ok (.getfield 26, 3) := by decide +kernel
theorem dX12_childRow_88 : decode cX12_childRow 88 = .ok (.iconst 0, 1) := by decide +kernel
theorem dX12_childRow_89 : decode cX12_childRow 89 = .ok (.aload_n 0, 1) := by decide +kernel
theorem dX12_childRow_90 : decode cX12_childRow 90 = .ok (.getfield 35, 3) := by decide +kernel
theorem dX12_childRow_93 : decode cX12_childRow 93 = .ok (.iconst 0, 1) := by decide +kernel
theorem dX12_childRow_94 : decode cX12_childRow 94 = .ok (.invokevirtual 266, 3) := by decide +kernel
theorem dX12_childRow_97 : decode cX12_childRow 97 = .ok (.iload_n 2, 1) := by decide +kernel
theorem dX12_childRow_98 : decode cX12_childRow 98 = .ok (.ifCond .eq 31, 3) := by decide +kernel
theorem dX12_childRow_101 : decode cX12_childRow 101 = .ok (.aload_n 0, 1) := by decide +kernel
theorem dX12_childRow_102 : decode cX12_childRow 102 = .ok (.getfield 151, 3) := by decide +kernel
theorem dX12_childRow_105 : decode cX12_childRow 105 = .ok (.iconst 0, 1) := by decide +kernel
theorem dX12_childRow_106 : decode cX12_childRow 106 = .ok (.lconst 1, 1) := by decide +kernel
theorem dX12_childRow_107 : decode cX12_childRow 107 = .ok (.invokestatic 241, 3) := by decide +kernel
theorem dX12_childRow_110 : decode cX12_childRow 110 = .ok (.aload_n 0, 1) := by decide +kernel
theorem dX12_childRow_111 : decode cX12_childRow 111 = .ok (.getfield 26, 3) := by decide +kernel
theorem dX12_childRow_114 : decode cX12_childRow 114 = .ok (.iconst 0, 1) := by decide +kernel
theorem dX12_childRow_115 : decode cX12_childRow 115 = .ok (.aload_n 0, 1) := by decide +kernel
theorem dX12_childRow_116 : decode cX12_childRow 116 = .ok (.getfield 151, 3) := by decide +kernel
theorem dX12_childRow_119 : decode cX12_childRow 119 = .ok (.iconst 0, 1) := by decide +kernel
theorem dX12_childRow_120 : decode cX12_childRow 120 = .ok (.iconst 0, 1) := by decide +kernel
theorem dX12_childRow_121 : decode cX12_childRow 121 = .ok (.aload_n 0, 1) := by decide +kernel
theorem dX12_childRow_122 : decode cX12_childRow 122 = .ok (.getfield 26, 3) := by decide +kernel
theorem dX12_childRow_125 : decode cX12_childRow 125 = .ok (.iconst 0, 1) := by decide +kernel
theorem dX12_childRow_126 : decode cX12_childRow 126 = .ok (.invokestatic 249, 3) := by decide +kernel
theorem dX12_childRow_129 : decode cX12_childRow 129 = .ok (.aload_n 0, 1) := by decide +kernel
theorem dX12_childRow_130 : decode cX12_childRow 130 = .ok (.getfield 26, 3) := by decide +kernel
theorem dX12_childRow_133 : decode cX12_childRow 133 = .ok (.iconst 0, 1) := by decide +kernel
theorem dX12_childRow_134 : decode cX12_childRow 134 = .ok (.aload_n 0, 1) := by decide +kernel
theorem dX12_childRow_135 : decode cX12_childRow 135 = .ok (.getfield 100, 3) := by decide +kernel
theorem dX12_childRow_138 : decode cX12_childRow 138 = .ok (.aload_n 0, 1) := by decide +kernel
theorem dX12_childRow_139 : decode cX12_childRow 139 = .ok (.getfield 480, 3) := by decide +kernel
theorem dX12_childRow_142 : decode cX12_childRow 142 = .ok (.iconst 0, 1) := by decide +kernel
theorem dX12_childRow_143 : decode cX12_childRow 143 = .ok (.invokestatic 486, 3) := by decide +kernel
theorem dX12_childRow_146 : decode cX12_childRow 146 = .ok (.invokestatic 233, 3) := by decide +kernel
theorem dX12_childRow_149 : decode cX12_childRow 149 = .ok (.iload_n 2, 1) := by decide +kernel
theorem dX12_childRow_150 : decode cX12_childRow 150 = .ok (.ifCond .eq 18, 3) := by decide +kernel
theorem dX12_childRow_153 : decode cX12_childRow 153 = .ok (.aload_n 0, 1) := by decide +kernel
theorem dX12_childRow_154 : decode cX12_childRow 154 = .ok (.getfield 100, 3) := by decide +kernel
theorem dX12_childRow_157 : decode cX12_childRow 157 = .ok (.aload_n 0, 1) := by decide +kernel
theorem dX12_childRow_158 : decode cX12_childRow 158 = .ok (.getfield 480, 3) := by decide +kernel
theorem dX12_childRow_161 : decode cX12_childRow 161 = .ok (.iconst 0, 1) := by decide +kernel
theorem dX12_childRow_162 : decode cX12_childRow 162 = .ok (.invokestatic 486, 3) := by decide +kernel
theorem dX12_childRow_165 : decode cX12_childRow 165 = .ok (.invokestatic 540, 3) := by decide +kernel
theorem dX12_childRow_168 : decode cX12_childRow 168 = .ok (.aload_n 0, 1) := by decide +kernel
theorem dX12_childRow_169 : decode cX12_childRow 169 = .ok (.getfield 26, 3) := by decide +kernel
theorem dX12_childRow_172 : decode cX12_childRow 172 = .ok (.iconst 0, 1) := by decide +kernel
theorem dX12_childRow_173 : decode cX12_childRow 173 = .ok (.aload_n 0, 1) := by decide +kernel
theorem dX12_childRow_174 : decode cX12_childRow 174 = .ok (.getfield 109, 3) := by decide +kernel
theorem dX12_childRow_177 : decode cX12_childRow 177 = .ok (.iconst 0, 1) := by decide +kernel
theorem dX12_childRow_178 : decode cX12_childRow 178 = .ok (.aload_n 0, 1) := by decide +kernel
theorem dX12_childRow_179 : decode cX12_childRow 179 = .ok (.getfield 29, 3) := by decide +kernel
theorem dX12_childRow_182 : decode cX12_childRow 182 = .ok (.iconst 0, 1) := by decide +kernel
theorem dX12_childRow_183 : decode cX12_childRow 183 = .ok (.invokestatic 548, 3) := by decide +kernel
theorem dX12_childRow_186 : decode cX12_childRow 186 = .ok (.iconst 0, 1) := by decide +kernel
theorem dX12_childRow_187 : decode cX12_childRow 187 = .ok (.istore 4, 2) := by decide +kernel
theorem dX12_childRow_189 : decode cX12_childRow 189 = .ok (.iload 4, 2) := by decide +kernel
theorem dX12_childRow_191 : decode cX12_childRow 191 = .ok (.aload_n 0, 1) := by decide +kernel
theorem dX12_childRow_192 : decode cX12_childRow 192 = .ok (.getfield 526, 3) := by decide +kernel
theorem dX12_childRow_195 : decode cX12_childRow 195 = .ok (.if_icmp .gt 58, 3) := by decide +kernel
theorem dX12_childRow_198 : decode cX12_childRow 198 = .ok (.aload_n 0, 1) := by decide +kernel
theorem dX12_childRow_199 : decode cX12_childRow 199 = .ok (.aload_n 0, 1) := by decide +kernel
theorem dX12_childRow_200 : decode cX12_childRow 200 = .ok (.getfield 483, 3) := by decide +kernel
theorem dX12_childRow_203 : decode cX12_childRow 203 = .ok (.iconst 1, 1) := by decide +kernel
theorem dX12_childRow_204 : decode cX12_childRow 204 = .ok (.iadd, 1) := by decide +kernel
theorem dX12_childRow_205 : decode cX12_childRow 205 = .ok (.iload 4, 2) := by decide +kernel
theorem dX12_childRow_207 : decode cX12_childRow 207 = .ok (.invokevirtual 529, 3) := by decide +kernel
theorem dX12_childRow_210 : decode cX12_childRow 210 = .ok (.istore 5, 2) := by decide +kernel
theorem dX12_childRow_212 : decode cX12_childRow 212 = .ok (.aload_n 0, 1) := by decide +kernel
theorem dX12_childRow_213 : decode cX12_childRow 213 = .ok (.getfield 103, 3) := by decide +kernel
theorem dX12_childRow_216 : decode cX12_childRow 216 = .ok (.aload_n 0, 1) := by decide +kernel
theorem dX12_childRow_217 : decode cX12_childRow 217 = .ok (.iload_n 1, 1) := by decide +kernel
theorem dX12_childRow_218 : decode cX12_childRow 218 = .ok (.iconst 1, 1) := by decide +kernel
theorem dX12_childRow_219 : decode cX12_childRow 219 = .ok (.iadd, 1) := by decide +kernel
theorem dX12_childRow_220 : decode cX12_childRow 220 = .ok (.iload 4, 2) := by decide +kernel
theorem dX12_childRow_222 : decode cX12_childRow 222 = .ok (.invokevirtual 529, 3) := by decide +kernel
theorem dX12_childRow_225 : decode cX12_childRow 225 = .ok (.aload_n 0, 1) := by decide +kernel
theorem dX12_childRow_226 : decode cX12_childRow 226 = .ok (.getfield 103, 3) := by decide +kernel
theorem dX12_childRow_229 : decode cX12_childRow 229 = .ok (.iload 5, 2) := by decide +kernel
theorem dX12_childRow_231 : decode cX12_childRow 231 = .ok (.invokestatic 233, 3) := by decide +kernel
theorem dX12_childRow_234 : decode cX12_childRow 234 = .ok (.iload_n 2, 1) := by decide +kernel
theorem dX12_childRow_235 : decode cX12_childRow 235 = .ok (.ifCond .ne 12, 3) := by decide +kernel
theorem dX12_childRow_238 : decode cX12_childRow 238 = .ok (.aload_n 0, 1) := by decide +kernel
theorem dX12_childRow_239 : decode cX12_childRow 239 = .ok (.getfield 103, 3) := by decide +kernel
theorem dX12_childRow_242 : decode cX12_childRow 242 = .ok (.iload 5, 2) := by decide +kernel
theorem dX12_childRow_244 : decode cX12_childRow 244 = .ok (.invokestatic 540, 3) := by decide +kernel
theorem dX12_childRow_247 : decode cX12_childRow 247 = .ok (.iinc 4 1, 3) := by decide +kernel
theorem dX12_childRow_250 : decode cX12_childRow 250 = .ok (.goto (-61), 3) := by decide +kernel
theorem dX12_childRow_253 : decode cX12_childRow 253 = .ok (.aload_n 0, 1) := by decide +kernel
theorem dX12_childRow_254 : decode cX12_childRow 254 = .ok (.aload_n 0, 1) := by decide +kernel
theorem dX12_childRow_255 : decode cX12_childRow 255 = .ok (.getfield 483, 3) := by decide +kernel
theorem dX12_childRow_258 : decode cX12_childRow 258 = .ok (.iconst 1, 1) := by decide +kernel
theorem dX12_childRow_259 : decode cX12_childRow 259 = .ok (.iadd, 1) := by decide +kernel
theorem dX12_childRow_260 : decode cX12_childRow 260 = .ok (.iconst 0, 1) := by decide +kernel
theorem dX12_childRow_261 : decode cX12_childRow 261 = .ok (.invokevirtual 529, 3) := by decide +kernel
theorem dX12_childRow_264 : decode cX12_childRow 264 = .ok (.istore 4, 2) := by decide +kernel
theorem dX12_childRow_266 : decode cX12_childRow 266 = .ok (.aload_n 0, 1) := by decide +kernel
theorem dX12_childRow_267 : decode cX12_childRow 267 = .ok (.getfield 103, 3) := by decide +kernel
theorem dX12_childRow_270 : decode cX12_childRow 270 = .ok (.iload 4, 2) := by decide +kernel
theorem dX12_childRow_272 : decode cX12_childRow 272 = .ok (.aload_n 0, 1) := by decide +kernel
theorem dX12_childRow_273 : decode cX12_childRow 273 = .ok (.getfield 29, 3) := by decide +kernel
theorem dX12_childRow_276 : decode cX12_childRow 276 = .ok (.iconst 0, 1) := by decide +kernel
theorem dX12_childRow_277 : decode cX12_childRow 277 = .ok (.iload_n 2, 1) := by decide +kernel
theorem dX12_childRow_278 : decode cX12_childRow 278 = .ok (.aload_n 0, 1) := by decide +kernel
theorem dX12_childRow_279 : decode cX12_childRow 279 = .ok (.getfield 26, 3) := by decide +kernel
theorem dX12_childRow_282 : decode cX12_childRow 282 = .ok (.iconst 0, 1) := by decide +kernel
theorem dX12_childRow_283 : decode cX12_childRow 283 = .ok (.invokestatic 249, 3) := by decide +kernel
theorem dX12_childRow_286 : decode cX12_childRow 286 = .ok (.aload_n 0, 1) := by decide +kernel
theorem dX12_childRow_287 : decode cX12_childRow 287 = .ok (.getfield 26, 3) := by decide +kernel
theorem dX12_childRow_290 : decode cX12_childRow 290 = .ok (.iconst 0, 1) := by decide +kernel
theorem dX12_childRow_291 : decode cX12_childRow 291 = .ok (.invokestatic 221, 3) := by decide +kernel
theorem dX12_childRow_294 : decode cX12_childRow 294 = .ok (.bipush 6, 2) := by decide +kernel
theorem dX12_childRow_296 : decode cX12_childRow 296 = .ok (.if_icmp .gt 17, 3) := by decide +kernel
theorem dX12_childRow_299 : decode cX12_childRow 299 = .ok (.aload_n 0, 1) := by decide +kernel
theorem dX12_childRow_300 : decode cX12_childRow 300 = .ok (.getfield 26, 3) := by decide +kernel
theorem dX12_childRow_303 : decode cX12_childRow 303 = .ok (.iconst 0, 1) := by decide +kernel
theorem dX12_childRow_304 : decode cX12_childRow 304 = .ok (.aload_n 0, 1) := by decide +kernel
theorem dX12_childRow_305 : decode cX12_childRow 305 = .ok (.getfield 103, 3) := by decide +kernel
theorem dX12_childRow_308 : decode cX12_childRow 308 = .ok (.iload 4, 2) := by decide +kernel
theorem dX12_childRow_310 : decode cX12_childRow 310 = .ok (.invokestatic 233, 3) := by decide +kernel
theorem dX12_childRow_313 : decode cX12_childRow 313 = .ok (.return_, 1) := by decide +kernel
theorem w_2013 : Cond.fieldLink RX12 100 (TX12 52).1 (TX12 52).2.1 (TX12 52).2.2.1 ∈ tb := tbc_8 130 (by decide +kernel) rfl
theorem w_2477 : Cond.methodLink RX12 486 yX12_rowCell ∈ tb := tbc_10 114 (by decide +kernel) rfl
theorem w_2478 : Cond.static yX12_rowCell ∈ tb := tbc_10 115 (by decide +kernel) rfl
theorem w_2479 : Cond.code yX12_rowCell cX12_rowCell 2 (some .int) ∈ tb := tbc_10 116 (by decide +kernel) rfl
section RW64
variable {p : Program} {l : Launch} {e : Env} {R : Room} {s : State} {m : MethodId} {args : Array Value} {below : List Frame} {meth : Method} {c : Code} {H : Heap} {locs : List Loc} {cells slots : Nat} {Q : State → Prop}
variable {cc : ByteArray} {pc nL : Nat} {ls : Array Slot} {rest st0 : List Value} {G : sG} {n : Nat} {S : sS}
theorem g_X12_100 (Cx : sC G p m c cc nL s args RX12) (hW : sW G n S H) {k : Nat} (hk : k < n) (ht : tau k = .inl 12) {v : Value} (hv : S.2.2.2 k 52 = v) (hdg : decode cc pc = .ok (.getfield 100, 3)) (kk : W p l e R s m args below meth c H locs cells slots Q (F0 m (pc + 3) ls (v :: rest))) : W p l e R s m args below meth c H locs cells slots Q (F0 m pc ls (.ref (G.2.2.1 + k) :: rest)) :=
  sGet Cx inX12 rfl 52 (by decide) w_2013 hW hk ht hv hdg kk
theorem c_X12_486 (Cx : sC G p m c cc nL s args RX12) {rm : Room} {mc ms : Nat} (h1 : rm.cells = mc) (h2 : rm.slots = ms) (h3 : rm.frames + 1 ≤ R.frames ∧ 8 + (2 + 11) + rm.locals ≤ R.locals) : CallB R s args RX12 486 yX12_rowCell cX12_rowCell 2 (some .int) (.code yX12_rowCell cX12_rowCell 2 (some .int) :: tb) rm mc ms 2 ∧ (Cond.static yX12_rowCell).before args s = true :=
  sCS Cx 2 w_2477 w_2478 w_217 w_2479 (by decide +kernel) h1 h2 h3
end RW64
