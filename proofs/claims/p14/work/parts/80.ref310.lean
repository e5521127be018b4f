theorem dX12_tell_0 : decode cX12_tell 0 = .ok (.aload_n 0, 1) := by decide +kernel
theorem dX12_tell_1 : decode cX12_tell 1 = .ok (.aload_n 0, 1) := by decide +kernel
theorem dX12_tell_2 : decode cX12_tell 2 = .ok (.getfield 202, 3) := by decide +kernel
theorem dX12_tell_5 : decode cX12_tell 5 = .ok (.putfield 276, 3) := by decide +kernel
theorem dX12_tell_8 : decode cX12_tell 8 = .ok (.aload_n 0, 1) := by decide +kernel
theorem dX12_tell_9 : decode cX12_tell 9 = .ok (.iconst 0, 1) := by decide +kernel
theorem dX12_tell_10 : decode cX12_tell 10 = .ok (.putfield 202, 3) := by decide +kernel
theorem dX12_tell_13 : decode cX12_tell 13 = .ok (.aload_n 0, 1) := by decide +kernel
theorem dX12_tell_14 : decode cX12_tell 14 = .ok (.iconst 0, 1) := by decide +kernel
theorem dX12_tell_15 : decode cX12_tell 15 = .ok (.putfield 270, 3) := by decide +kernel
theorem dX12_tell_18 : decode cX12_tell 18 = .ok (.aload_n 0, 1) := by decide +kernel
theorem dX12_tell_19 : decode cX12_tell 19 = .ok (.iconst (-1), 1) := by decide +kernel
theorem dX12_tell_20 : decode cX12_tell 20 = .ok (.putfield 273, 3) := by decide +kernel
theorem dX12_tell_23 : decode cX12_tell 23 = .ok (.aload_n 0, 1) := by decide +kernel
theorem dX12_tell_24 : decode cX12_tell 24 = .ok (.getfield 276, 3) := by decide +kernel
theorem dX12_tell_27 : decode cX12_tell 27 = .ok (.sipush 2000, 3) := by decide +kernel
theorem dX12_tell_30 : decode cX12_tell 30 = .ok (.if_icmp .le 17, 3) := by decide +kernel
theorem dX12_tell_33 : decode cX12_tell 33 = .ok (.aload_n 0, 1) := by decide +kernel
theorem dX12_tell_34 : decode cX12_tell 34 = .ok (.iconst 1, 1) := by decide +kernel
theorem dX12_tell_35 : decode cX12_tell 35 = .ok (.putfield 447, 3) := by decide +kernel
theorem dX12_tell_38 : decode cX12_tell 38 = .ok (.aload_n 0, 1) := by decide +kernel
theorem dX12_tell_39 : decode cX12_tell 39 = .ok (.sipush 2000, 3) := by decide +kernel
theorem dX12_tell_42 : decode cX12_tell 42 = .ok (.putfield 450, 3) := by decide +kernel
theorem dX12_tell_45 : decode cX12_tell 45 = .ok (.iconst 1, 1) := by decide +kernel
theorem dX12_tell_46 : decode cX12_tell 46 = .ok (.ireturn, 1) := by decide +kernel
theorem dX12_tell_47 : decode cX12_tell 47 = .ok (.iconst 0, 1) := by decide +kernel
theorem dX12_tell_48 : decode cX12_tell 48 = .ok (.istore_n 1, 1) := by decide +kernel
theorem dX12_tell_49 : decode cX12_tell 49 = .ok (.iload_n 1, 1) := by decide +kernel
theorem dX12_tell_50 : decode cX12_tell 50 = .ok (.aload_n 0, 1) := by decide +kernel
theorem dX12_tell_51 : decode cX12_tell 51 = .ok (.getfield 276, 3) := by decide +kernel
theorem dX12_tell_54 : decode cX12_tell 54 = .ok (.if_icmp .ge 21, 3) := by decide +kernel
theorem dX12_tell_57 : decode cX12_tell 57 = .ok (.aload_n 0, 1) := by decide +kernel
theorem dX12_tell_58 : decode cX12_tell 58 = .ok (.getfield 44, 3) := by decide +kernel
theorem dX12_tell_61 : decode cX12_tell 61 = .ok (.iload_n 1, 1) := by decide +kernel
theorem dX12_tell_62 : decode cX12_tell 62 = .ok (.aload_n 0, 1) := by decide +kernel
theorem dX12_tell_63 : decode cX12_tell 63 = .ok (.getfield 9, 3) := by decide +kernel
theorem dX12_tell_66 : decode cX12_tell 66 = .ok (.iload_n 1, 1) := by decide +kernel
theorem dX12_tell_67 : decode cX12_tell 67 = .ok (.baload, 1) := by decide +kernel
theorem dX12_tell_68 : decode cX12_tell 68 = .ok (.bastore, 1) := by decide +kernel
theorem dX12_tell_69 : decode cX12_tell 69 = .ok (.iinc 1 1, 3) := by decide +kernel
theorem dX12_tell_72 : decode cX12_tell 72 = .ok (.goto (-23), 3) := by decide +kernel
theorem dX12_tell_75 : decode cX12_tell 75 = .ok (.aload_n 0, 1) := by decide +kernel
theorem dX12_tell_76 : decode cX12_tell 76 = .ok (.invokevirtual 453, 3) := by decide +kernel
theorem dX12_tell_79 : decode cX12_tell 79 = .ok (.aload_n 0, 1) := by decide +kernel
theorem dX12_tell_80 : decode cX12_tell 80 = .ok (.invokevirtual 456, 3) := by decide +kernel
theorem dX12_tell_83 : decode cX12_tell 83 = .ok (.aload_n 0, 1) := by decide +kernel
theorem dX12_tell_84 : decode cX12_tell 84 = .ok (.getfield 270, 3) := by decide +kernel
theorem dX12_tell_87 : decode cX12_tell 87 = .ok (.ifCond .ne 7, 3) := by decide +kernel
theorem dX12_tell_90 : decode cX12_tell 90 = .ok (.aload_n 0, 1) := by decide +kernel
theorem dX12_tell_91 : decode cX12_tell 91 = .ok (.invokevirtual 459, 3) := by decide +kernel
theorem dX12_tell_94 : decode cX12_tell 94 = .ok (.aload_n 0, 1) := by decide +kernel
theorem dX12_tell_95 : decode cX12_tell 95 = .ok (.aload_n 0, 1) := by decide +kernel
theorem dX12_tell_96 : decode cX12_tell 96 = .ok (.getfield 270, 3) := by decide +kernel
theorem dX12_tell_99 : decode cX12_tell 99 = .ok (.putfield 447, 3) := by decide +kernel
theorem dX12_tell_102 : decode cX12_tell 102 = .ok (.aload_n 0, 1) := by decide +kernel
theorem dX12_tell_103 : decode cX12_tell 103 = .ok (.aload_n 0, 1) := by decide +kernel
theorem dX12_tell_104 : decode cX12_tell 104 = .ok (.getfield 273, 3) := by decide +kernel
theorem dX12_tell_107 : decode cX12_tell 107 = .ok (.putfield 450, 3) := by decide +kernel
theorem dX12_tell_110 : decode cX12_tell 110 = .ok (.aload_n 0, 1) := by decide +kernel
theorem dX12_tell_111 : decode cX12_tell 111 = .ok (.getfield 270, 3) := by decide +kernel
theorem dX12_tell_114 : decode cX12_tell 114 = .ok (.ifCond .eq 8, 3) := by decide +kernel
theorem dX12_tell_117 : decode cX12_tell 117 = .ok (.aload_n 0, 1) := by decide +kernel
theorem dX12_tell_118 : decode cX12_tell 118 = .ok (.getfield 270, 3) := by decide +kernel
theorem dX12_tell_121 : decode cX12_tell 121 = .ok (.ireturn, 1) := by decide +kernel
theorem dX12_tell_122 : decode cX12_tell 122 = .ok (.aload_n 0, 1) := by decide +kernel
theorem dX12_tell_123 : decode cX12_tell 123 = .ok (.iconst 1, 1) := by decide +kernel
theorem dX12_tell_124 : decode cX12_tell 124 = .ok (.putfield 462, 3) := by decide +kernel
theorem dX12_tell_127 : decode cX12_tell 127 = .ok (.aload_n 0, 1) := by decide +kernel
theorem dX12_tell_128 : decode cX12_tell 128 = .ok (.aload_n 0, 1) := by decide +kernel
theorem dX12_tell_129 : decode cX12_tell 129 = .ok (.getfield 379, 3) := by decide +kernel
theorem dX12_tell_132 : decode cX12_tell 132 = .ok (.putfield 465, 3) := by decide +kernel
theorem dX12_tell_135 : decode cX12_tell 135 = .ok (.aload_n 0, 1) := by decide +kernel
theorem dX12_tell_136 : decode cX12_tell 136 = .ok (.aload_n 0, 1) := by decide +kernel
theorem dX12_tell_137 : decode cX12_tell 137 = .ok (.getfield 382, 3) := by decide +kernel
theorem dX12_tell_140 : decode cX12_tell 140 = .ok (.putfield 468, 3) := by decide +kernel
theorem dX12_tell_143 : decode cX12_tell 143 = .ok (.aload_n 0, 1) := by decide +kernel
theorem dX12_tell_144 : decode cX12_tell 144 = .ok (.iconst 0, 1) := by decide +kernel
theorem dX12_tell_145 : decode cX12_tell 145 = .ok (.putfield 471, 3) := by decide +kernel
theorem dX12_tell_148 : decode cX12_tell 148 = .ok (.aload_n 0, 1) := by decide +kernel
theorem dX12_tell_149 : decode cX12_tell 149 = .ok (.aload_n 0, 1) := by decide +kernel
theorem dX12_tell_150 : decode cX12_tell 150 = .ok (.getfield 394, 3) := by decide +kernel
theorem dX12_tell_153 : decode cX12_tell 153 = .ok (.putfield 474, 3) := by decide +kernel
theorem dX12_tell_156 : decode cX12_tell 156 = .ok (.iconst 0, 1) := by decide +kernel
theorem dX12_tell_157 : decode cX12_tell 157 = .ok (.istore_n 1, 1) := by decide +kernel
theorem dX12_tell_158 : decode cX12_tell 158 = .ok (.iload_n 1, 1) := by decide +kernel
theorem dX12_tell_159 : decode cX12_tell 159 = .ok (.bipush 12, 2) := by decide +kernel
theorem dX12_tell_161 : decode cX12_tell 161 = .ok (.if_icmp .gt 21, 3) := by decide +kernel
theorem dX12_tell_164 : decode cX12_tell 164 = .ok (.aload_n 0, 1) := by decide +kernel
theorem dX12_tell_165 : decode cX12_tell 165 = .ok (.getfield 97, 3) := by decide +kernel
theorem dX12_tell_168 : decode cX12_tell 168 = .ok (.iload_n 1, 1) := by decide +kernel
theorem dX12_tell_169 : decode cX12_tell 169 = .ok (.aload_n 0, 1) := by decide +kernel
theorem dX12_tell_170 : decode cX12_tell 170 = .ok (.getfield 85, 3) := by decide +kernel
theorem dX12_tell_173 : decode cX12_tell 173 = .ok (.iload_n 1, 1) := by decide +kernel
theorem dX12_tell_174 : decode cX12_tell 174 = .ok (.laload, 1) := by decide +kernel
theorem dX12_tell_175 : decode cX12_tell 175 = .ok (.lastore, 1) := by decide +kernel
theorem dX12_tell_176 : decode cX12_tell 176 = .ok (.iinc 1 1, 3) := by decide +kernel
theorem dX12_tell_179 : decode cX12_tell 179 = .ok (.goto (-21), 3) := by decide +kernel
theorem dX12_tell_182 : decode cX12_tell 182 = .ok (.iconst 1, 1) := by decide +kernel
theorem dX12_tell_183 : decode cX12_tell 183 = .ok (.istore_n 1, 1) := by decide +kernel
theorem dX12_tell_184 : decode cX12_tell 184 = .ok (.iload_n 1, 1) := by decide +kernel
theorem dX12_tell_185 : decode cX12_tell 185 = .ok (.aload_n 0, 1) := by decide +kernel
theorem dX12_tell_186 : decode cX12_tell 186 = .ok (.getfield 465, 3) := by decide +kernel
theorem dX12_tell_189 : decode cX12_tell 189 = .ok (.if_icmp .gt 44, 3) := by decide +kernel
theorem dX12_tell_192 : decode cX12_tell 192 = .ok (.aload_n 0, 1) := by decide +kernel
theorem dX12_tell_193 : decode cX12_tell 193 = .ok (.getfield 94, 3) := by decide +kernel
theorem dX12_tell_196 : decode cX12_tell 196 = .ok (.iload_n 1, 1) := by decide +kernel
theorem dX12_tell_197 : decode cX12_tell 197 = .ok (.aload_n 0, 1) := by decide +kernel
theorem dX12_tell_198 : decode cX12_tell 198 = .ok (.getfield 77, 3) := by decide +kernel
theorem dX12_tell_201 : decode cX12_tell 201 = .ok (.iload_n 1, 1) := by decide +kernel
theorem dX12_tell_202 : decode cX12_tell 202 = .ok (.baload, 1) := by decide +kernel
theorem dX12_tell_203 : decode cX12_tell 203 = .ok (.bastore, 1) := by decide +kernel
theorem dX12_tell_204 : decode cX12_tell 204 = .ok (.aload_n 0, 1) := by decide +kernel
theorem dX12_tell_205 : decode cX12_tell 205 = .ok (.dup, 1) := by decide +kernel
theorem dX12_tell_206 : decode cX12_tell 206 = .ok (.getfield 471, 3) := by decide +kernel
theorem dX12_tell_209 : decode cX12_tell 209 = .ok (.aload_n 0, 1) := by decide +kernel
theorem dX12_tell_210 : decode cX12_tell 210 = .ok (.getfield 94, 3) := by decide +kernel
theorem dX12_tell_213 : decode cX12_tell 213 = .ok (.iload_n 1, 1) := by decide +kernel
theorem dX12_tell_214 : decode cX12_tell 214 = .ok (.baload, 1) := by decide +kernel
theorem dX12_tell_215 : decode cX12_tell 215 = .ok (.ifCond .eq 7, 3) := by decide +kernel
theorem dX12_tell_218 : decode cX12_tell 218 = .ok (.iconst 1, 1) := by decide +kernel
theorem dX12_tell_219 : decode cX12_tell 219 = .ok (.goto 4, 3) := by decide +kernel
theorem dX12_tell_222 : decode cX12_tell 222 = .ok (.iconst 0, 1) := by decide +kernel
theorem dX12_tell_223 : decode cX12_tell 223 = .ok (.iadd, 1) := by decide +kernel
theorem dX12_tell_224 : decode cX12_tell 224 = .ok (.putfield 471, 3) := by decide +kernel
theorem dX12_tell_227 : decode cX12_tell 227 = .ok (.iinc 1 1, 3) := by decide +kernel
theorem dX12_tell_230 : decode cX12_tell 230 = .ok (.goto (-46), 3) := by decide +kernel
theorem dX12_tell_233 : decode cX12_tell 233 = .ok (.bipush 13, 2) := by decide +kernel
theorem dX12_tell_235 : decode cX12_tell 235 = .ok (.istore_n 1, 1) := by decide +kernel
theorem dX12_tell_236 : decode cX12_tell 236 = .ok (.iload_n 1, 1) := by decide +kernel
theorem dX12_tell_237 : decode cX12_tell 237 = .ok (.bipush 13, 2) := by decide +kernel
theorem dX12_tell_239 : decode cX12_tell 239 = .ok (.aload_n 0, 1) := by decide +kernel
theorem dX12_tell_240 : decode cX12_tell 240 = .ok (.getfield 468, 3) := by decide +kernel
theorem dX12_tell_243 : decode cX12_tell 243 = .ok (.iconst 1, 1) := by decide +kernel
theorem dX12_tell_244 : decode cX12_tell 244 = .ok (.iadd, 1) := by decide +kernel
theorem dX12_tell_245 : decode cX12_tell 245 = .ok (.imul, 1) := by decide +kernel
theorem dX12_tell_246 : decode cX12_tell 246 = .ok (.if_icmp .ge 38, 3) := by decide +kernel
theorem dX12_tell_249 : decode cX12_tell 249 = .ok (.aload_n 0, 1) := by decide +kernel
theorem dX12_tell_250 : decode cX12_tell 250 = .ok (.getfield 100, 3) := by decide +kernel
theorem dX12_tell_253 : decode cX12_tell 253 = .ok (.bipush 8, 2) := by decide +kernel
theorem dX12_tell_255 : decode cX12_tell 255 = .ok (.iload_n 1, 1) := by decide +kernel
theorem dX12_tell_256 : decode cX12_tell 256 = .ok (.imul, 1) := by decide +kernel
theorem dX12_tell_257 : decode cX12_tell 257 = .ok (.aload_n 0, 1) := by decide +kernel
theorem dX12_tell_258 : decode cX12_tell 258 = .ok (.getfield 81, 3) := by decide +kernel
theorem dX12_tell_261 : decode cX12_tell 261 = .ok (.iload_n 1, 1) := by decide +kernel
theorem dX12_tell_262 : decode cX12_tell 262 = .ok (.laload, 1) := by decide +kernel
theorem dX12_tell_263 : decode cX12_tell 263 = .ok (.invokestatic 241, 3) := by decide +kernel
theorem dX12_tell_266 : decode cX12_tell 266 = .ok (.aload_n 0, 1) := by decide +kernel
theorem dX12_tell_267 : decode cX12_tell 267 = .ok (.getfield 190, 3) := by decide +kernel
theorem dX12_tell_270 : decode cX12_tell 270 = .ok (.iload_n 1, 1) := by decide +kernel
theorem dX12_tell_271 : decode cX12_tell 271 = .ok (.aload_n 0, 1) := by decide +kernel
theorem dX12_tell_272 : decode cX12_tell 272 = .ok (.getfield 81, 3) := by decide +kernel
theorem dX12_tell_275 : decode cX12_tell 275 = .ok (.iload_n 1, 1) := by decide +kernel
theorem dX12_tell_276 : decode cX12_tell 276 = .ok (.laload, 1) := by decide +kernel
theorem dX12_tell_277 : decode cX12_tell 277 = .ok (.lastore, 1) := by decide +kernel
theorem dX12_tell_278 : decode cX12_tell 278 = .ok (.iinc 1 1, 3) := by decide +kernel
theorem dX12_tell_281 : decode cX12_tell 281 = .ok (.goto (-45), 3) := by decide +kernel
theorem dX12_tell_284 : decode cX12_tell 284 = .ok (.aload_n 0, 1) := by decide +kernel
theorem dX12_tell_285 : decode cX12_tell 285 = .ok (.iconst 0, 1) := by decide +kernel
theorem dX12_tell_286 : decode cX12_tell 286 = .ok (.putfield 477, 3) := by decide +kernel
theorem dX12_tell_289 : decode cX12_tell 289 = .ok (.aload_n 0, 1) := by decide +kernel
theorem dX12_tell_290 : decode cX12_tell 290 = .ok (.aload_n 0, 1) := by decide +kernel
theorem dX12_tell_291 : decode cX12_tell 291 = .ok (.getfield 468, 3) := by decide +kernel
theorem dX12_tell_294 : decode cX12_tell 294 = .ok (.putfield 480, 3) := by decide +kernel
theorem dX12_tell_297 : decode cX12_tell 297 = .ok (.aload_n 0, 1) := by decide +kernel
theorem dX12_tell_298 : decode cX12_tell 298 = .ok (.iconst 0, 1) := by decide +kernel
theorem dX12_tell_299 : decode cX12_tell 299 = .ok (.putfield 483, 3) := by decide +kernel
theorem dX12_tell_302 : decode cX12_tell 302 = .ok (.iconst 0, 1) := by decide +kernel
theorem dX12_tell_303 : decode cX12_tell 303 = .ok (.ireturn, 1) := by decide +kernel
theorem w_104 : Cond.selects RX12 yX12_tokenize yX12_tokenize ∈ tb := sel_7 (q := (yX12_tokenize, 105)) 8 (by decide +kernel)
theorem w_109 : Cond.selects RX12 yX12_read yX12_read ∈ tb := sel_7 (q := (yX12_read, 105)) 13 (by decide +kernel)
theorem w_123 : Cond.selects RX12 yX12_tellAll yX12_tellAll ∈ tb := sel_8 (q := (yX12_tellAll, 105)) 11 (by decide +kernel)
theorem w_2293 : Cond.methodLink RX12 453 yX12_tokenize ∈ tb := tbc_9 170 (by decide +kernel) rfl
theorem w_2295 : Cond.instanceMethod yX12_tokenize ∈ tb := tbc_9 172 (by decide +kernel) rfl
theorem w_2296 : Cond.code yX12_tokenize cX12_tokenize 5 none ∈ tb := tbc_9 173 (by decide +kernel) rfl
theorem w_2322 : Cond.methodLink RX12 456 yX12_read ∈ tb := tbc_9 199 (by decide +kernel) rfl
theorem w_2324 : Cond.instanceMethod yX12_read ∈ tb := tbc_9 201 (by decide +kernel) rfl
theorem w_2325 : Cond.code yX12_read cX12_read 1 none ∈ tb := tbc_9 202 (by decide +kernel) rfl
theorem w_2378 : Cond.methodLink RX12 459 yX12_tellAll ∈ tb := tbc_10 15 (by decide +kernel) rfl
theorem w_2380 : Cond.instanceMethod yX12_tellAll ∈ tb := tbc_10 17 (by decide +kernel) rfl
theorem w_2381 : Cond.code yX12_tellAll cX12_tellAll 3 none ∈ tb := tbc_10 18 (by decide +kernel) rfl
section RW80
variable {p : Program} {l : Launch} {e : Env} {R : Room} {s : State} {m : MethodId} {args : Array Value} {below : List Frame} {meth : Method} {c : Code} {H : Heap} {locs : List Loc} {cells slots : Nat} {Q : State → Prop}
variable {cc : ByteArray} {pc nL : Nat} {ls : Array Slot} {rest st0 : List Value} {G : sG} {n : Nat} {S : sS}
theorem p_X12_276 (Cx : sC G p m c cc nL s args RX12) (hW : sW G n S H) (hL : sL G locs) {k : Nat} (hk : k < n) (ht : tau k = .inl 12) {v : Int} (hdg : decode cc pc = .ok (.putfield 276, 3)) (kk : ∀ (H1 : Heap) (locs1 : List Loc), sW G n (uF S k 14 v) H1 → sL G locs1 → W p l e R s m args below meth c H1 locs1 cells slots Q (F0 m (pc + 3) ls rest)) : W p l e R s m args below meth c H locs cells slots Q (F0 m pc ls (.int (iv v) :: .ref (G.2.2.1 + k) :: rest)) :=
  sPut Cx inX12 tyX12 tyX12_ok nmX12 rfl 14 (by decide) w_1975 rfl hW hL hk ht rfl rfl (fun _ h => uF_same h) (fun _ h => uF_off h) (congrArg (fun z => Value.int (iv z)) uF_on) hdg kk
theorem c_X12_453 (Cx : sC G p m c cc nL s args RX12) {rm : Room} {mc ms : Nat} (h1 : rm.cells = mc) (h2 : rm.slots = ms) (h3 : rm.frames + 1 ≤ R.frames ∧ 8 + (5 + 11) + rm.locals ≤ R.locals) : CallW R s args RX12 RX12 453 yX12_tokenize cX12_tokenize 5 none (.code yX12_tokenize cX12_tokenize 5 none :: tb) rm mc ms 0 :=
  sCw Cx 0 w_2293 w_2295 w_104 w_217 w_2296 (by decide +kernel) h1 h2 h3
theorem c_X12_456 (Cx : sC G p m c cc nL s args RX12) {rm : Room} {mc ms : Nat} (h1 : rm.cells = mc) (h2 : rm.slots = ms) (h3 : rm.frames + 1 ≤ R.frames ∧ 8 + (1 + 11) + rm.locals ≤ R.locals) : CallW R s args RX12 RX12 456 yX12_read cX12_read 1 none (.code yX12_read cX12_read 1 none :: tb) rm mc ms 0 :=
  sCw Cx 0 w_2322 w_2324 w_109 w_217 w_2325 (by decide +kernel) h1 h2 h3
theorem p_X12_447 (Cx : sC G p m c cc nL s args RX12) (hW : sW G n S H) (hL : sL G locs) {k : Nat} (hk : k < n) (ht : tau k = .inl 12) {v : Int} (hdg : decode cc pc = .ok (.putfield 447, 3)) (kk : ∀ (H1 : Heap) (locs1 : List Loc), sW G n (uF S k 22 v) H1 → sL G locs1 → W p l e R s m args below meth c H1 locs1 cells slots Q (F0 m (pc + 3) ls rest)) : W p l e R s m args below meth c H locs cells slots Q (F0 m pc ls (.int (iv v) :: .ref (G.2.2.1 + k) :: rest)) :=
  sPut Cx inX12 tyX12 tyX12_ok nmX12 rfl 22 (by decide) w_1983 rfl hW hL hk ht rfl rfl (fun _ h => uF_same h) (fun _ h => uF_off h) (congrArg (fun z => Value.int (iv z)) uF_on) hdg kk
theorem g_X12_273 (Cx : sC G p m c cc nL s args RX12) (hW : sW G n S H) {k : Nat} (hk : k < n) (ht : tau k = .inl 12) {v : Int} (hv : S.1 k 21 = v) (hdg : decode cc pc = .ok (.getfield 273, 3)) (kk : W p l e R s m args below meth c H locs cells slots Q (F0 m (pc + 3) ls (.int (iv v) :: rest))) : W p l e R s m args below meth c H locs cells slots Q (F0 m pc ls (.ref (G.2.2.1 + k) :: rest)) :=
  sGet Cx inX12 rfl 21 (by decide) w_1982 hW hk ht (congrArg (fun z => Value.int (iv z)) hv) hdg kk
theorem p_X12_450 (Cx : sC G p m c cc nL s args RX12) (hW : sW G n S H) (hL : sL G locs) {k : Nat} (hk : k < n) (ht : tau k = .inl 12) {v : Int} (hdg : decode cc pc = .ok (.putfield 450, 3)) (kk : ∀ (H1 : Heap) (locs1 : List Loc), sW G n (uF S k 23 v) H1 → sL G locs1 → W p l e R s m args below meth c H1 locs1 cells slots Q (F0 m (pc + 3) ls rest)) : W p l e R s m args below meth c H locs cells slots Q (F0 m pc ls (.int (iv v) :: .ref (G.2.2.1 + k) :: rest)) :=
  sPut Cx inX12 tyX12 tyX12_ok nmX12 rfl 23 (by decide) w_1984 rfl hW hL hk ht rfl rfl (fun _ h => uF_same h) (fun _ h => uF_off h) (congrArg (fun z => Value.int (iv z)) uF_on) hdg kk
theorem c_X12_459 (Cx : sC G p m c cc nL s args RX12) {rm : Room} {mc ms : Nat} (h1 : rm.cells = mc) (h2 : rm.slots = ms) (h3 : rm.frames + 1 ≤ R.frames ∧ 8 + (3 + 11) + rm.locals ≤ R.locals) : CallW R s args RX12 RX12 459 yX12_tellAll cX12_tellAll 3 none (.code yX12_tellAll cX12_tellAll 3 none :: tb) rm mc ms 0 :=
  sCw Cx 0 w_2378 w_2380 w_123 w_217 w_2381 (by decide +kernel) h1 h2 h3
theorem p_X12_462 (Cx : sC G p m c cc nL s args RX12) (hW : sW G n S H) (hL : sL G locs) {k : Nat} (hk : k < n) (ht : tau k = .inl 12) {v : Int} (hv : v = 0 ∨ v = 1) (hdg : decode cc pc = .ok (.putfield 462, 3)) (kk : ∀ (H1 : Heap) (locs1 : List Loc), sW G n (uF S k 45 v) H1 → sL G locs1 → W p l e R s m args below meth c H1 locs1 cells slots Q (F0 m (pc + 3) ls rest)) : W p l e R s m args below meth c H locs cells slots Q (F0 m pc ls (.int (iv v) :: .ref (G.2.2.1 + k) :: rest)) :=
  sPut Cx inX12 tyX12 tyX12_ok nmX12 rfl 45 (by decide) w_2006 rfl hW hL hk ht (by rcases hv with rfl | rfl <;> rfl) (by rcases hv with rfl | rfl <;> rfl) (fun _ h => uF_same h) (fun _ h => uF_off h) (congrArg (fun z => Value.int (iv z)) uF_on) hdg kk
theorem p_X12_465 (Cx : sC G p m c cc nL s args RX12) (hW : sW G n S H) (hL : sL G locs) {k : Nat} (hk : k < n) (ht : tau k = .inl 12) {v : Int} (hdg : decode cc pc = .ok (.putfield 465, 3)) (kk : ∀ (H1 : Heap) (locs1 : List Loc), sW G n (uF S k 46 v) H1 → sL G locs1 → W p l e R s m args below meth c H1 locs1 cells slots Q (F0 m (pc + 3) ls rest)) : W p l e R s m args below meth c H locs cells slots Q (F0 m pc ls (.int (iv v) :: .ref (G.2.2.1 + k) :: rest)) :=
  sPut Cx inX12 tyX12 tyX12_ok nmX12 rfl 46 (by decide) w_2007 rfl hW hL hk ht rfl rfl (fun _ h => uF_same h) (fun _ h => uF_off h) (congrArg (fun z => Value.int (iv z)) uF_on) hdg kk
theorem p_X12_468 (Cx : sC G p m c cc nL s args RX12) (hW : sW G n S H) (hL : sL G locs) {k : Nat} (hk : k < n) (ht : tau k = .inl 12) {v : Int} (hdg : decode cc pc = .ok (.putfield 468, 3)) (kk : ∀ (H1 : Heap) (locs1 : List Loc), sW G n (uF S k 47 v) H1 → sL G locs1 → W p l e R s m args below meth c H1 locs1 cells slots Q (F0 m (pc + 3) ls rest)) : W p l e R s m args below meth c H locs cells slots Q (F0 m pc ls (.int (iv v) :: .ref (G.2.2.1 + k) :: rest)) :=
  sPut Cx inX12 tyX12 tyX12_ok nmX12 rfl 47 (by decide) w_2008 rfl hW hL hk ht rfl rfl (fun _ h => uF_same h) (fun _ h => uF_off h) (congrArg (fun z => Value.int (iv z)) uF_on) hdg kk
theorem p_X12_471 (Cx : sC G p m c cc nL s args RX12) (hW : sW G n S H) (hL : sL G locs) {k : Nat} (hk : k < n) (ht : tau k = .inl 12) {v : Int} (hdg : decode cc pc = .ok (.putfield 471, 3)) (kk : ∀ (H1 : Heap) (locs1 : List Loc), sW G n (uF S k 48 v) H1 → sL G locs1 → W p l e R s m args below meth c H1 locs1 cells slots Q (F0 m (pc + 3) ls rest)) : W p l e R s m args below meth c H locs cells slots Q (F0 m pc ls (.int (iv v) :: .ref (G.2.2.1 + k) :: rest)) :=
  sPut Cx inX12 tyX12 tyX12_ok nmX12 rfl 48 (by decide) w_2009 rfl hW hL hk ht rfl rfl (fun _ h => uF_same h) (fun _ h => uF_off h) (congrArg (fun z => Value.int (iv z)) uF_on) hdg kk
theorem p_X12_474 (Cx : sC G p m c cc nL s args RX12) (hW : sW G n S H) (hL : sL G locs) {k : Nat} (hk : k < n) (ht : tau k = .inl 12) {v : Int} (hv : v = 0 ∨ v = 1) (hdg : decode cc pc = .ok (.putfield 474, 3)) (kk : ∀ (H1 : Heap) (locs1 : List Loc), sW G n (uF S k 49 v) H1 → sL G locs1 → W p l e R s m args below meth c H1 locs1 cells slots Q (F0 m (pc + 3) ls rest)) : W p l e R s m args below meth c H locs cells slots Q (F0 m pc ls (.int (iv v) :: .ref (G.2.2.1 + k) :: rest)) :=
  sPut Cx inX12 tyX12 tyX12_ok nmX12 rfl 49 (by decide) w_2010 rfl hW hL hk ht (by rcases hv with rfl | rfl <;> rfl) (by rcases hv with rfl | rfl <;> rfl) (fun _ h => uF_same h) (fun _ h => uF_off h) (congrArg (fun z => Value.int (iv z)) uF_on) hdg kk
end RW80
