theorem dX9_tellPar_0 : decode cX9_tellPar 0 = .ok (.aload_n 0, 1) := by decide +kernel
theorem dX9_tellPar_1 : decode cX9_tellPar 1 = .ok (.getfield 89, 3) := by decide +kernel
theorem dX9_tellPar_4 : decode cX9_tellPar 4 = .ok (.iconst 1, 1) := by decide +kernel
theorem dX9_tellPar_5 : decode cX9_tellPar 5 = .ok (.iadd, 1) := by decide +kernel
theorem dX9_tellPar_6 : decode cX9_tellPar 6 = .ok (.istore_n 1, 1) := by decide +kernel
theorem dX9_tellPar_7 : decode cX9_tellPar 7 = .ok (.aload_n 0, 1) := by decide +kernel
theorem dX9_tellPar_8 : decode cX9_tellPar 8 = .ok (.iload_n 1, 1) := by decide +kernel
theorem dX9_tellPar_9 : decode cX9_tellPar 9 = .ok (.bipush 7, 2) := by decide +kernel
theorem dX9_tellPar_11 : decode cX9_tellPar 11 = .ok (.invokevirtual 140, 3) := by decide +kernel
theorem dX9_tellPar_14 : decode cX9_tellPar 14 = .ok (.istore_n 2, 1) := by decide +kernel
theorem dX9_tellPar_15 : decode cX9_tellPar 15 = .ok (.iload_n 2, 1) := by decide +kernel
theorem dX9_tellPar_16 : decode cX9_tellPar 16 = .ok (.ifCond .ge 5, 3) := by decide +kernel
theorem dX9_tellPar_19 : decode cX9_tellPar 19 = .ok (.iconst 0, 1) := by decide +kernel
theorem dX9_tellPar_20 : decode cX9_tellPar 20 = .ok (.ireturn, 1) := by decide +kernel
theorem dX9_tellPar_21 : decode cX9_tellPar 21 = .ok (.aload_n 0, 1) := by decide +kernel
theorem dX9_tellPar_22 : decode cX9_tellPar 22 = .ok (.dup, 1) := by decide +kernel
theorem dX9_tellPar_23 : decode cX9_tellPar 23 = .ok (.getfield 89, 3) := by decide +kernel
theorem dX9_tellPar_26 : decode cX9_tellPar 26 = .ok (.iconst 2, 1) := by decide +kernel
theorem dX9_tellPar_27 : decode cX9_tellPar 27 = .ok (.iadd, 1) := by decide +kernel
theorem dX9_tellPar_28 : decode cX9_tellPar 28 = .ok (.putfield 89, 3) := by decide +kernel
theorem dX9_tellPar_31 : decode cX9_tellPar 31 = .ok (.aload_n 0, 1) := by decide +kernel
theorem dX9_tellPar_32 : decode cX9_tellPar 32 = .ok (.iload_n 2, 1) := by decide +kernel
theorem dX9_tellPar_33 : decode cX9_tellPar 33 = .ok (.invokevirtual 152, 3) := by decide +kernel
theorem dX9_tellPar_36 : decode cX9_tellPar 36 = .ok (.ifCond .ne 5, 3) := by decide +kernel
theorem dX9_tellPar_39 : decode cX9_tellPar 39 = .ok (.iconst 0, 1) := by decide +kernel
theorem dX9_tellPar_40 : decode cX9_tellPar 40 = .ok (.ireturn, 1) := by decide +kernel
theorem dX9_tellPar_41 : decode cX9_tellPar 41 = .ok (.aload_n 0, 1) := by decide +kernel
theorem dX9_tellPar_42 : decode cX9_tellPar 42 = .ok (.iload_n 2, 1) := by decide +kernel
theorem dX9_tellPar_43 : decode cX9_tellPar 43 = .ok (.invokevirtual 156, 3) := by decide +kernel
theorem dX9_tellPar_46 : decode cX9_tellPar 46 = .ok (.istore_n 3, 1) := by decide +kernel
theorem dX9_tellPar_47 : decode cX9_tellPar 47 = .ok (.aload_n 0, 1) := by decide +kernel
theorem dX9_tellPar_48 : decode cX9_tellPar 48 = .ok (.getfield 83, 3) := by decide +kernel
theorem dX9_tellPar_51 : decode cX9_tellPar 51 = .ok (.sipush 144, 3) := by decide +kernel
theorem dX9_tellPar_54 : decode cX9_tellPar 54 = .ok (.imul, 1) := by decide +kernel
theorem dX9_tellPar_55 : decode cX9_tellPar 55 = .ok (.istore 4, 2) := by decide +kernel
theorem dX9_tellPar_57 : decode cX9_tellPar 57 = .ok (.iconst 0, 1) := by decide +kernel
theorem dX9_tellPar_58 : decode cX9_tellPar 58 = .ok (.istore 5, 2) := by decide +kernel
theorem dX9_tellPar_60 : decode cX9_tellPar 60 = .ok (.iload 5, 2) := by decide +kernel
theorem dX9_tellPar_62 : decode cX9_tellPar 62 = .ok (.aload_n 0, 1) := by decide +kernel
theorem dX9_tellPar_63 : decode cX9_tellPar 63 = .ok (.getfield 14, 3) := by decide +kernel
theorem dX9_tellPar_66 : decode cX9_tellPar 66 = .ok (.invokevirtual 92, 3) := by decide +kernel
theorem dX9_tellPar_69 : decode cX9_tellPar 69 = .ok (.if_icmp .ge 137, 3) := by decide +kernel
theorem dX9_tellPar_72 : decode cX9_tellPar 72 = .ok (.aload_n 0, 1) := by decide +kernel
theorem dX9_tellPar_73 : decode cX9_tellPar 73 = .ok (.getfield 14, 3) := by decide +kernel
theorem dX9_tellPar_76 : decode cX9_tellPar 76 = .ok (.aload_n 0, 1) := by decide +kernel
theorem dX9_tellPar_77 : decode cX9_tellPar 77 = .ok (.getfield 89, 3) := by decide +kernel
theorem dX9_tellPar_80 : decode cX9_tellPar 80 = .ok (.invokevirtual 95, 3) := by decide +kernel
theorem dX9_tellPar_83 : decode cX9_tellPar 83 = .ok (.bipush 15, 2) := by decide +kernel
theorem dX9_tellPar_85 : decode cX9_tellPar 85 = .ok (.if_icmp .eq 121, 3) := by decide +kernel
theorem dX9_tellPar_88 : decode cX9_tellPar 88 = .ok (.aload_n 0, 1) := by decide +kernel
theorem dX9_tellPar_89 : decode cX9_tellPar 89 = .ok (.dup, 1) := by decide +kernel
theorem dX9_tellPar_90 : decode cX9_tellPar 90 = .ok (.getfield 89, 3) := by decide +kernel
theorem dX9_tellPar_93 : decode cX9_tellPar 93 = .ok (.iconst 1, 1) := by decide +kernel
theorem dX9_tellPar_94 : decode cX9_tellPar 94 = .ok (.iadd, 1) := by decide +kernel
theorem dX9_tellPar_95 : decode cX9_tellPar 95 = .ok (.putfield 89, 3) := by decide +kernel
theorem dX9_tellPar_98 : decode cX9_tellPar 98 = .ok (.aload_n 0, 1) := by decide +kernel
theorem dX9_tellPar_99 : decode cX9_tellPar 99 = .ok (.getfield 14, 3) := by decide +kernel
theorem dX9_tellPar_102 : decode cX9_tellPar 102 = .ok (.aload_n 0, 1) := by decide +kernel
theorem dX9_tellPar_103 : decode cX9_tellPar 103 = .ok (.getfield 89, 3) := by decide +kernel
theorem dX9_tellPar_106 : decode cX9_tellPar 106 = .ok (.invokevirtual 95, 3) := by decide +kernel
theorem dX9_tellPar_109 : decode cX9_tellPar 109 = .ok (.bipush 22, 2) := by decide +kernel
theorem dX9_tellPar_111 : decode cX9_tellPar 111 = .ok (.if_icmp .ne 7, 3) := by decide +kernel
theorem dX9_tellPar_114 : decode cX9_tellPar 114 = .ok (.iconst 1, 1) := by decide +kernel
theorem dX9_tellPar_115 : decode cX9_tellPar 115 = .ok (.goto 4, 3) := by decide +kernel
theorem dX9_tellPar_118 : decode cX9_tellPar 118 = .ok (.iconst 0, 1) := by decide +kernel
theorem dX9_tellPar_119 : decode cX9_tellPar 119 = .ok (.istore 6, 2) := by decide +kernel
theorem dX9_tellPar_121 : decode cX9_tellPar 121 = .ok (.iload 6, 2) := by decide +kernel
theorem dX9_tellPar_123 : decode cX9_tellPar 123 = .ok (.ifCond .eq 13, 3) := by decide +kernel
theorem dX9_tellPar_126 : decode cX9_tellPar 126 = .ok (.aload_n 0, 1) := by decide +kernel
theorem dX9_tellPar_127 : decode cX9_tellPar 127 = .ok (.dup, 1) := by decide +kernel
theorem dX9_tellPar_128 : decode cX9_tellPar 128 = .ok (.getfield 89, 3) := by decide +kernel
theorem dX9_tellPar_131 : decode cX9_tellPar 131 = .ok (.iconst 1, 1) := by decide +kernel
theorem dX9_tellPar_132 : decode cX9_tellPar 132 = .ok (.iadd, 1) := by decide +kernel
theorem dX9_tellPar_133 : decode cX9_tellPar 133 = .ok (.putfield 89, 3) := by decide +kernel
theorem dX9_tellPar_136 : decode cX9_tellPar 136 = .ok (.iload 5, 2) := by decide +kernel
theorem dX9_tellPar_138 : decode cX9_tellPar 138 = .ok (.iload_n 3, 1) := by decide +kernel
theorem dX9_tellPar_139 : decode cX9_tellPar 139 = .ok (.if_icmp .ge 51, 3) := by decide +kernel
theorem dX9_tellPar_142 : decode cX9_tellPar 142 = .ok (.iload 4, 2) := by decide +kernel
theorem dX9_tellPar_144 : decode cX9_tellPar 144 = .ok (.iload 5, 2) := by decide +kernel
theorem dX9_tellPar_146 : decode cX9_tellPar 146 = .ok (.iadd, 1) := by decide +kernel
theorem dX9_tellPar_147 : decode cX9_tellPar 147 = .ok (.aload_n 0, 1) := by decide +kernel
theorem dX9_tellPar_148 : decode cX9_tellPar 148 = .ok (.getfield 26, 3) := by decide +kernel
theorem dX9_tellPar_151 : decode cX9_tellPar 151 = .ok (.arraylength, 1) := by decide +kernel
theorem dX9_tellPar_152 : decode cX9_tellPar 152 = .ok (.if_icmp .ge 38, 3) := by decide +kernel
theorem dX9_tellPar_155 : decode cX9_tellPar 155 = .ok (.aload_n 0, 1) := by decide +kernel
theorem dX9_tellPar_156 : decode cX9_tellPar 156 = .ok (.getfield 26, 3) := by decide +kernel
theorem dX9_tellPar_159 : decode cX9_tellPar 159 = .ok (.iload 4, 2) := by decide +kernel
theorem dX9_tellPar_161 : decode cX9_tellPar 161 = .ok (.iload 5, 2) := by decide +kernel
theorem dX9_tellPar_163 : decode cX9_tellPar 163 = .ok (.iadd, 1) := by decide +kernel
theorem dX9_tellPar_164 : decode cX9_tellPar 164 = .ok (.iload 6, 2) := by decide +kernel
theorem dX9_tellPar_166 : decode cX9_tellPar 166 = .ok (.ifCond .eq 15, 3) := by decide +kernel
theorem dX9_tellPar_169 : decode cX9_tellPar 169 = .ok (.aload_n 0, 1) := by decide +kernel
theorem dX9_tellPar_170 : decode cX9_tellPar 170 = .ok (.aload_n 0, 1) := by decide +kernel
theorem dX9_tellPar_171 : decode cX9_tellPar 171 = .ok (.getfield 89, 3) := by decide +kernel
theorem dX9_tellPar_174 : decode cX9_tellPar 174 = .ok (.invokevirtual 143, 3) := by decide +kernel
theorem dX9_tellPar_177 : decode cX9_tellPar 177 = .ok (.ineg, 1) := by decide +kernel
theorem dX9_tellPar_178 : decode cX9_tellPar 178 = .ok (.goto 11, 3) := by decide +kernel
theorem dX9_tellPar_181 : decode cX9_tellPar 181 = .ok (.aload_n 0, 1) := by decide +kernel
theorem dX9_tellPar_182 : decode cX9_tellPar 182 = .ok (.aload_n 0, 1) := by decide +kernel
theorem dX9_tellPar_183 : decode cX9_tellPar 183 = .ok (.getfield 89, 3) := by decide +kernel
theorem dX9_tellPar_186 : decode cX9_tellPar 186 = .ok (.invokevirtual 143, 3) := by decide +kernel
theorem dX9_tellPar_189 : decode cX9_tellPar 189 = .ok (.iastore, 1) := by decide +kernel
theorem dX9_tellPar_190 : decode cX9_tellPar 190 = .ok (.aload_n 0, 1) := by decide +kernel
theorem dX9_tellPar_191 : decode cX9_tellPar 191 = .ok (.dup, 1) := by decide +kernel
theorem dX9_tellPar_192 : decode cX9_tellPar 192 = .ok (.getfield 89, 3) := by decide +kernel
theorem dX9_tellPar_195 : decode cX9_tellPar 195 = .ok (.iconst 1, 1) := by decide +kernel
theorem dX9_tellPar_196 : decode cX9_tellPar 196 = .ok (.iadd, 1) := by decide +kernel
theorem dX9_tellPar_197 : decode cX9_tellPar 197 = .ok (.putfield 89, 3) := by decide +kernel
theorem dX9_tellPar_200 : decode cX9_tellPar 200 = .ok (.iinc 5 1, 3) := by decide +kernel
theorem dX9_tellPar_203 : decode cX9_tellPar 203 = .ok (.goto (-143), 3) := by decide +kernel
theorem dX9_tellPar_206 : decode cX9_tellPar 206 = .ok (.iload 5, 2) := by decide +kernel
theorem dX9_tellPar_208 : decode cX9_tellPar 208 = .ok (.iload_n 3, 1) := by decide +kernel
theorem dX9_tellPar_209 : decode cX9_tellPar 209 = .ok (.if_icmp .eq 10, 3) := by decide +kernel
theorem dX9_tellPar_212 : decode cX9_tellPar 212 = .ok (.aload_n 0, 1) := by decide +kernel
theorem dX9_tellPar_213 : decode cX9_tellPar 213 = .ok (.iconst 3, 1) := by decide +kernel
theorem dX9_tellPar_214 : decode cX9_tellPar 214 = .ok (.iload_n 1, 1) := by decide +kernel
theorem dX9_tellPar_215 : decode cX9_tellPar 215 = .ok (.invokevirtual 132, 3) := by decide +kernel
theorem dX9_tellPar_218 : decode cX9_tellPar 218 = .ok (.ireturn, 1) := by decide +kernel
theorem dX9_tellPar_219 : decode cX9_tellPar 219 = .ok (.aload_n 0, 1) := by decide +kernel
theorem dX9_tellPar_220 : decode cX9_tellPar 220 = .ok (.getfield 83, 3) := by decide +kernel
theorem dX9_tellPar_223 : decode cX9_tellPar 223 = .ok (.bipush 12, 2) := by decide +kernel
theorem dX9_tellPar_225 : decode cX9_tellPar 225 = .ok (.if_icmp .lt 11, 3) := by decide +kernel
theorem dX9_tellPar_228 : decode cX9_tellPar 228 = .ok (.aload_n 0, 1) := by decide +kernel
theorem dX9_tellPar_229 : decode cX9_tellPar 229 = .ok (.bipush 7, 2) := by decide +kernel
theorem dX9_tellPar_231 : decode cX9_tellPar 231 = .ok (.iload_n 1, 1) := by decide +kernel
theorem dX9_tellPar_232 : decode cX9_tellPar 232 = .ok (.invokevirtual 132, 3) := by decide +kernel
theorem dX9_tellPar_235 : decode cX9_tellPar 235 = .ok (.ireturn, 1) := by decide +kernel
theorem dX9_tellPar_236 : decode cX9_tellPar 236 = .ok (.aload_n 0, 1) := by decide +kernel
theorem dX9_tellPar_237 : decode cX9_tellPar 237 = .ok (.dup, 1) := by decide +kernel
theorem dX9_tellPar_238 : decode cX9_tellPar 238 = .ok (.getfield 83, 3) := by decide +kernel
theorem dX9_tellPar_241 : decode cX9_tellPar 241 = .ok (.iconst 1, 1) := by decide +kernel
theorem dX9_tellPar_242 : decode cX9_tellPar 242 = .ok (.iadd, 1) := by decide +kernel
theorem dX9_tellPar_243 : decode cX9_tellPar 243 = .ok (.putfield 83, 3) := by decide +kernel
theorem dX9_tellPar_246 : decode cX9_tellPar 246 = .ok (.aload_n 0, 1) := by decide +kernel
theorem dX9_tellPar_247 : decode cX9_tellPar 247 = .ok (.iload_n 2, 1) := by decide +kernel
theorem dX9_tellPar_248 : decode cX9_tellPar 248 = .ok (.iconst 5, 1) := by decide +kernel
theorem dX9_tellPar_249 : decode cX9_tellPar 249 = .ok (.iload 4, 2) := by decide +kernel
theorem dX9_tellPar_251 : decode cX9_tellPar 251 = .ok (.invokevirtual 136, 3) := by decide +kernel
theorem dX9_tellPar_254 : decode cX9_tellPar 254 = .ok (.aload_n 0, 1) := by decide +kernel
theorem dX9_tellPar_255 : decode cX9_tellPar 255 = .ok (.dup, 1) := by decide +kernel
theorem dX9_tellPar_256 : decode cX9_tellPar 256 = .ok (.getfield 89, 3) := by decide +kernel
theorem dX9_tellPar_259 : decode cX9_tellPar 259 = .ok (.iconst 1, 1) := by decide +kernel
theorem dX9_tellPar_260 : decode cX9_tellPar 260 = .ok (.iadd, 1) := by decide +kernel
theorem dX9_tellPar_261 : decode cX9_tellPar 261 = .ok (.putfield 89, 3) := by decide +kernel
theorem dX9_tellPar_264 : decode cX9_tellPar 264 = .ok (.iconst 1, 1) := by decide +kernel
theorem dX9_tellPar_265 : decode cX9_tellPar 265 = .ok (.ireturn, 1) := by decide +kernel
theorem w_22 : Cond.selects RX9 yX9_tellIndexes yX9_tellIndexes ∈ tb := sel_2 (q := (yX9_tellIndexes, 17)) 6 (by decide +kernel)
theorem w_25 : Cond.selects RX9 yX9_asked yX9_asked ∈ tb := sel_2 (q := (yX9_asked, 17)) 9 (by decide +kernel)
theorem w_332 : Cond.fieldLink RX9 26 (TX9 3).1 (TX9 3).2.1 (TX9 3).2.2.1 ∈ tb := tbc_1 129 (by decide +kernel) rfl
theorem w_340 : Cond.fieldLink RX9 83 (TX9 11).1 (TX9 11).2.1 (TX9 11).2.2.1 ∈ tb := tbc_1 137 (by decide +kernel) rfl
theorem w_957 : Cond.methodLink RX9 92 yX8_tokenCount ∈ tb := tbc_4 34 (by decide +kernel) rfl
theorem w_958 : Cond.instanceMethod yX8_tokenCount ∈ tb := tbc_4 35 (by decide +kernel) rfl
theorem w_959 : Cond.selects RX8 yX8_tokenCount yX8_tokenCount ∈ tb := tbc_4 36 (by decide +kernel) rfl
theorem w_960 : Cond.code yX8_tokenCount cX8_tokenCount 1 (some .int) ∈ tb := tbc_4 37 (by decide +kernel) rfl
theorem w_994 : Cond.methodLink RX9 152 yX9_tellIndexes ∈ tb := tbc_4 71 (by decide +kernel) rfl
theorem w_996 : Cond.instanceMethod yX9_tellIndexes ∈ tb := tbc_4 73 (by decide +kernel) rfl
theorem w_997 : Cond.code yX9_tellIndexes cX9_tellIndexes 4 (some .boolean) ∈ tb := tbc_4 74 (by decide +kernel) rfl
theorem w_1006 : Cond.methodLink RX9 156 yX9_asked ∈ tb := tbc_4 83 (by decide +kernel) rfl
theorem w_1008 : Cond.instanceMethod yX9_asked ∈ tb := tbc_4 85 (by decide +kernel) rfl
theorem w_1009 : Cond.code yX9_asked cX9_asked 2 (some .int) ∈ tb := tbc_4 86 (by decide +kernel) rfl
section RW38
variable {p : Program} {l : Launch} {e : Env} {R : Room} {s : State} {m : MethodId} {args : Array Value} {below : List Frame} {meth : Method} {c : Code} {H : Heap} {locs : List Loc} {cells slots : Nat} {Q : State → Prop}
variable {cc : ByteArray} {pc nL : Nat} {ls : Array Slot} {rest st0 : List Value} {G : sG} {n : Nat} {S : sS}
theorem c_X9_152 (Cx : sC G p m c cc nL s args RX9) {rm : Room} {mc ms : Nat} (h1 : rm.cells = mc) (h2 : rm.slots = ms) (h3 : rm.frames + 1 ≤ R.frames ∧ 8 + (4 + 11) + rm.locals ≤ R.locals) : CallW R s args RX9 RX9 152 yX9_tellIndexes cX9_tellIndexes 4 (some .boolean) (.code yX9_tellIndexes cX9_tellIndexes 4 (some .boolean) :: tb) rm mc ms 1 :=
  sCw Cx 1 w_994 w_996 w_22 w_208 w_997 (by decide +kernel) h1 h2 h3
theorem c_X9_156 (Cx : sC G p m c cc nL s args RX9) {rm : Room} {mc ms : Nat} (h1 : rm.cells = mc) (h2 : rm.slots = ms) (h3 : rm.frames + 1 ≤ R.frames ∧ 8 + (2 + 11) + rm.locals ≤ R.locals) : CallW R s args RX9 RX9 156 yX9_asked cX9_asked 2 (some .int) (.code yX9_asked cX9_asked 2 (some .int) :: tb) rm mc ms 1 :=
  sCw Cx 1 w_1006 w_1008 w_25 w_208 w_1009 (by decide +kernel) h1 h2 h3
theorem g_X9_83 (Cx : sC G p m c cc nL s args RX9) (hW : sW G n S H) {k : Nat} (hk : k < n) (ht : tau k = .inl 9) {v : Int} (hv : S.1 k 11 = v) (hdg : decode cc pc = .ok (.getfield 83, 3)) (kk : W p l e R s m args below meth c H locs cells slots Q (F0 m (pc + 3) ls (.int (iv v) :: rest))) : W p l e R s m args below meth c H locs cells slots Q (F0 m pc ls (.ref (G.2.2.1 + k) :: rest)) :=
  sGet Cx inX9 rfl 11 (by decide) w_340 hW hk ht (congrArg (fun z => Value.int (iv z)) hv) hdg kk
theorem c_X9_92 (Cx : sC G p m c cc nL s args RX9) {rm : Room} {mc ms : Nat} (h1 : rm.cells = mc) (h2 : rm.slots = ms) (h3 : rm.frames + 1 ≤ R.frames ∧ 8 + (1 + 11) + rm.locals ≤ R.locals) : CallW R s args RX9 RX8 92 yX8_tokenCount cX8_tokenCount 1 (some .int) (.code yX8_tokenCount cX8_tokenCount 1 (some .int) :: tb) rm mc ms 0 :=
  sCw Cx 0 w_957 w_958 w_959 w_209 w_960 (by decide +kernel) h1 h2 h3
theorem p_X9_83 (Cx : sC G p m c cc nL s args RX9) (hW : sW G n S H) (hL : sL G locs) {k : Nat} (hk : k < n) (ht : tau k = .inl 9) {v : Int} (hdg : decode cc pc = .ok (.putfield 83, 3)) (kk : ∀ (H1 : Heap) (locs1 : List Loc), sW G n (uF S k 11 v) H1 → sL G locs1 → W p l e R s m args below meth c H1 locs1 cells slots Q (F0 m (pc + 3) ls rest)) : W p l e R s m args below meth c H locs cells slots Q (F0 m pc ls (.int (iv v) :: .ref (G.2.2.1 + k) :: rest)) :=
  sPut Cx inX9 tyX9 tyX9_ok nmX9 rfl 11 (by decide) w_340 rfl hW hL hk ht rfl rfl (fun _ h => uF_same h) (fun _ h => uF_off h) (congrArg (fun z => Value.int (iv z)) uF_on) hdg kk
theorem g_X9_26 (Cx : sC G p m c cc nL s args RX9) (hW : sW G n S H) {k : Nat} (hk : k < n) (ht : tau k = .inl 9) {v : Value} (hv : S.2.2.2 k 3 = v) (hdg : decode cc pc = .ok (.getfield 26, 3)) (kk : W p l e R s m args below meth c H locs cells slots Q (F0 m (pc + 3) ls (v :: rest))) : W p l e R s m args below meth c H locs cells slots Q (F0 m pc ls (.ref (G.2.2.1 + k) :: rest)) :=
  sGet Cx inX9 rfl 3 (by decide) w_332 hW hk ht hv hdg kk
end RW38
