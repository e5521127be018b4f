theorem dX12_tellAll_0 : decode cX12_tellAll 0 = .ok (.aload_n 0, 1) := by decide +kernel
theorem dX12_tellAll_1 : decode cX12_tellAll 1 = .ok (.iconst 0, 1) := by decide +kernel
theorem dX12_tellAll_2 : decode cX12_tellAll 2 = .ok (.putfield 315, 3) := by decide +kernel
theorem dX12_tellAll_5 : decode cX12_tellAll 5 = .ok (.aload_n 0, 1) := by decide +kernel
theorem dX12_tellAll_6 : decode cX12_tellAll 6 = .ok (.iconst 0, 1) := by decide +kernel
theorem dX12_tellAll_7 : decode cX12_tellAll 7 = .ok (.putfield 358, 3) := by decide +kernel
theorem dX12_tellAll_10 : decode cX12_tellAll 10 = .ok (.aload_n 0, 1) := by decide +kernel
theorem dX12_tellAll_11 : decode cX12_tellAll 11 = .ok (.iconst 0, 1) := by decide +kernel
theorem dX12_tellAll_12 : decode cX12_tellAll 12 = .ok (.putfield 367, 3) := by decide +kernel
theorem dX12_tellAll_15 : decode cX12_tellAll 15 = .ok (.aload_n 0, 1) := by decide +kernel
theorem dX12_tellAll_16 : decode cX12_tellAll 16 = .ok (.iconst 0, 1) := by decide +kernel
theorem dX12_tellAll_17 : decode cX12_tellAll 17 = .ok (.putfield 370, 3) := by decide +kernel
theorem dX12_tellAll_20 : decode cX12_tellAll 20 = .ok (.aload_n 0, 1) := by decide +kernel
theorem dX12_tellAll_21 : decode cX12_tellAll 21 = .ok (.iconst 0, 1) := by decide +kernel
theorem dX12_tellAll_22 : decode cX12_tellAll 22 = .ok (.putfield 373, 3) := by decide +kernel
theorem dX12_tellAll_25 : decode cX12_tellAll 25 = .ok (.aload_n 0, 1) := by decide +kernel
theorem dX12_tellAll_26 : decode cX12_tellAll 26 = .ok (.iconst 0, 1) := by decide +kernel
theorem dX12_tellAll_27 : decode cX12_tellAll 27 = .ok (.putfield 376, 3) := by decide +kernel
theorem dX12_tellAll_30 : decode cX12_tellAll 30 = .ok (.aload_n 0, 1) := by decide +kernel
theorem dX12_tellAll_31 : decode cX12_tellAll 31 = .ok (.iconst 0, 1) := by decide +kernel
theorem dX12_tellAll_32 : decode cX12_tellAll 32 = .ok (.putfield 379, 3) := by decide +kernel
theorem dX12_tellAll_35 : decode cX12_tellAll 35 = .ok (.aload_n 0, 1) := by decide +kernel
theorem dX12_tellAll_36 : decode cX12_tellAll 36 = .ok (.iconst 0, 1) := by decide +kernel
theorem dX12_tellAll_37 : decode cX12_tellAll 37 = .ok (.putfield 382, 3) := by decide +kernel
theorem dX12_tellAll_40 : decode cX12_tellAll 40 = .ok (.aload_n 0, 1) := by decide +kernel
theorem dX12_tellAll_41 : decode cX12_tellAll 41 = .ok (.getfield 270, 3) := by decide +kernel
theorem dX12_tellAll_44 : decode cX12_tellAll 44 = .ok (.ifCond .ne 103, 3) := by decide +kernel
theorem dX12_tellAll_47 : decode cX12_tellAll 47 = .ok (.aload_n 0, 1) := by decide +kernel
theorem dX12_tellAll_48 : decode cX12_tellAll 48 = .ok (.getfield 47, 3) := by decide +kernel
theorem dX12_tellAll_51 : decode cX12_tellAll 51 = .ok (.aload_n 0, 1) := by decide +kernel
theorem dX12_tellAll_52 : decode cX12_tellAll 52 = .ok (.getfield 315, 3) := by decide +kernel
theorem dX12_tellAll_55 : decode cX12_tellAll 55 = .ok (.iaload, 1) := by decide +kernel
theorem dX12_tellAll_56 : decode cX12_tellAll 56 = .ok (.iconst 3, 1) := by decide +kernel
theorem dX12_tellAll_57 : decode cX12_tellAll 57 = .ok (.if_icmp .ne 90, 3) := by decide +kernel
theorem dX12_tellAll_60 : decode cX12_tellAll 60 = .ok (.aload_n 0, 1) := by decide +kernel
theorem dX12_tellAll_61 : decode cX12_tellAll 61 = .ok (.getfield 56, 3) := by decide +kernel
theorem dX12_tellAll_64 : decode cX12_tellAll 64 = .ok (.aload_n 0, 1) := by decide +kernel
theorem dX12_tellAll_65 : decode cX12_tellAll 65 = .ok (.getfield 315, 3) := by decide +kernel
theorem dX12_tellAll_68 : decode cX12_tellAll 68 = .ok (.iaload, 1) := by decide +kernel
theorem dX12_tellAll_69 : decode cX12_tellAll 69 = .ok (.iconst 2, 1) := by decide +kernel
theorem dX12_tellAll_70 : decode cX12_tellAll 70 = .ok (.if_icmp .lt 77, 3) := by decide +kernel
theorem dX12_tellAll_73 : decode cX12_tellAll 73 = .ok (.aload_n 0, 1) := by decide +kernel
theorem dX12_tellAll_74 : decode cX12_tellAll 74 = .ok (.getfield 56, 3) := by decide +kernel
theorem dX12_tellAll_77 : decode cX12_tellAll 77 = .ok (.aload_n 0, 1) := by decide +kernel
theorem dX12_tellAll_78 : decode cX12_tellAll 78 = .ok (.getfield 315, 3) := by decide +kernel
theorem dX12_tellAll_81 : decode cX12_tellAll 81 = .ok (.iaload, 1) := by decide +kernel
theorem dX12_tellAll_82 : decode cX12_tellAll 82 = .ok (.iconst 4, 1) := by decide +kernel
theorem dX12_tellAll_83 : decode cX12_tellAll 83 = .ok (.if_icmp .gt 64, 3) := by decide +kernel
theorem dX12_tellAll_86 : decode cX12_tellAll 86 = .ok (.aload_n 0, 1) := by decide +kernel
theorem dX12_tellAll_87 : decode cX12_tellAll 87 = .ok (.getfield 56, 3) := by decide +kernel
theorem dX12_tellAll_90 : decode cX12_tellAll 90 = .ok (.aload_n 0, 1) := by decide +kernel
theorem dX12_tellAll_91 : decode cX12_tellAll 91 = .ok (.getfield 315, 3) := by decide +kernel
theorem dX12_tellAll_94 : decode cX12_tellAll 94 = .ok (.iaload, 1) := by decide +kernel
theorem dX12_tellAll_95 : decode cX12_tellAll 95 = .ok (.istore_n 1, 1) := by decide +kernel
theorem dX12_tellAll_96 : decode cX12_tellAll 96 = .ok (.aload_n 0, 1) := by decide +kernel
theorem dX12_tellAll_97 : decode cX12_tellAll 97 = .ok (.getfield 315, 3) := by decide +kernel
theorem dX12_tellAll_100 : decode cX12_tellAll 100 = .ok (.iconst 1, 1) := by decide +kernel
theorem dX12_tellAll_101 : decode cX12_tellAll 101 = .ok (.iadd, 1) := by decide +kernel
theorem dX12_tellAll_102 : decode cX12_tellAll 102 = .ok (.istore_n 2, 1) := by decide +kernel
theorem dX12_tellAll_103 : decode cX12_tellAll 103 = .ok (.aload_n 0, 1) := by decide +kernel
theorem dX12_tellAll_104 : decode cX12_tellAll 104 = .ok (.dup, 1) := by decide +kernel
theorem dX12_tellAll_105 : decode cX12_tellAll 105 = .ok (.getfield 315, 3) := by decide +kernel
theorem dX12_tellAll_108 : decode cX12_tellAll 108 = .ok (.iconst 2, 1) := by decide +kernel
theorem dX12_tellAll_109 : decode cX12_tellAll 109 = .ok (.iadd, 1) := by decide +kernel
theorem dX12_tellAll_110 : decode cX12_tellAll 110 = .ok (.putfield 315, 3) := by decide +kernel
theorem dX12_tellAll_113 : decode cX12_tellAll 113 = .ok (.iload_n 1, 1) := by decide +kernel
theorem dX12_tellAll_114 : decode cX12_tellAll 114 = .ok (.iconst 2, 1) := by decide +kernel
theorem dX12_tellAll_115 : decode cX12_tellAll 115 = .ok (.if_icmp .ne 11, 3) := by decide +kernel
theorem dX12_tellAll_118 : decode cX12_tellAll 118 = .ok (.aload_n 0, 1) := by decide +kernel
theorem dX12_tellAll_119 : decode cX12_tellAll 119 = .ok (.iload_n 2, 1) := by decide +kernel
theorem dX12_tellAll_120 : decode cX12_tellAll 120 = .ok (.invokevirtual 385, 3) := by decide +kernel
theorem dX12_tellAll_123 : decode cX12_tellAll 123 = .ok (.goto 21, 3) := by decide +kernel
theorem dX12_tellAll_126 : decode cX12_tellAll 126 = .ok (.iload_n 1, 1) := by decide +kernel
theorem dX12_tellAll_127 : decode cX12_tellAll 127 = .ok (.iconst 3, 1) := by decide +kernel
theorem dX12_tellAll_128 : decode cX12_tellAll 128 = .ok (.if_icmp .ne 11, 3) := by decide +kernel
theorem dX12_tellAll_131 : decode cX12_tellAll 131 = .ok (.aload_n 0, 1) := by decide +kernel
theorem dX12_tellAll_132 : decode cX12_tellAll 132 = .ok (.iload_n 2, 1) := by decide +kernel
theorem dX12_tellAll_133 : decode cX12_tellAll 133 = .ok (.invokevirtual 388, 3) := by decide +kernel
theorem dX12_tellAll_136 : decode cX12_tellAll 136 = .ok (.goto 8, 3) := by decide +kernel
theorem dX12_tellAll_139 : decode cX12_tellAll 139 = .ok (.aload_n 0, 1) := by decide +kernel
theorem dX12_tellAll_140 : decode cX12_tellAll 140 = .ok (.iload_n 2, 1) := by decide +kernel
theorem dX12_tellAll_141 : decode cX12_tellAll 141 = .ok (.invokevirtual 391, 3) := by decide +kernel
theorem dX12_tellAll_144 : decode cX12_tellAll 144 = .ok (.goto (-104), 3) := by decide +kernel
theorem dX12_tellAll_147 : decode cX12_tellAll 147 = .ok (.aload_n 0, 1) := by decide +kernel
theorem dX12_tellAll_148 : decode cX12_tellAll 148 = .ok (.getfield 270, 3) := by decide +kernel
theorem dX12_tellAll_151 : decode cX12_tellAll 151 = .ok (.ifCond .eq 4, 3) := by decide +kernel
theorem dX12_tellAll_154 : decode cX12_tellAll 154 = .ok (.return_, 1) := by decide +kernel
theorem dX12_tellAll_155 : decode cX12_tellAll 155 = .ok (.aload_n 0, 1) := by decide +kernel
theorem dX12_tellAll_156 : decode cX12_tellAll 156 = .ok (.aload_n 0, 1) := by decide +kernel
theorem dX12_tellAll_157 : decode cX12_tellAll 157 = .ok (.iconst 0, 1) := by decide +kernel
theorem dX12_tellAll_158 : decode cX12_tellAll 158 = .ok (.invokevirtual 325, 3) := by decide +kernel
theorem dX12_tellAll_161 : decode cX12_tellAll 161 = .ok (.putfield 394, 3) := by decide +kernel
theorem dX12_tellAll_164 : decode cX12_tellAll 164 = .ok (.aload_n 0, 1) := by decide +kernel
theorem dX12_tellAll_165 : decode cX12_tellAll 165 = .ok (.dup, 1) := by decide +kernel
theorem dX12_tellAll_166 : decode cX12_tellAll 166 = .ok (.getfield 315, 3) := by decide +kernel
theorem dX12_tellAll_169 : decode cX12_tellAll 169 = .ok (.iconst 1, 1) := by decide +kernel
theorem dX12_tellAll_170 : decode cX12_tellAll 170 = .ok (.iadd, 1) := by decide +kernel
theorem dX12_tellAll_171 : decode cX12_tellAll 171 = .ok (.putfield 315, 3) := by decide +kernel
theorem dX12_tellAll_174 : decode cX12_tellAll 174 = .ok (.aload_n 0, 1) := by decide +kernel
theorem dX12_tellAll_175 : decode cX12_tellAll 175 = .ok (.iconst 0, 1) := by decide +kernel
theorem dX12_tellAll_176 : decode cX12_tellAll 176 = .ok (.invokevirtual 398, 3) := by decide +kernel
theorem dX12_tellAll_179 : decode cX12_tellAll 179 = .ok (.iconst 0, 1) := by decide +kernel
theorem dX12_tellAll_180 : decode cX12_tellAll 180 = .ok (.istore_n 1, 1) := by decide +kernel
theorem dX12_tellAll_181 : decode cX12_tellAll 181 = .ok (.iload_n 1, 1) := by decide +kernel
theorem dX12_tellAll_182 : decode cX12_tellAll 182 = .ok (.bipush 12, 2) := by decide +kernel
theorem dX12_tellAll_184 : decode cX12_tellAll 184 = .ok (.if_icmp .gt 38, 3) := by decide +kernel
theorem dX12_tellAll_187 : decode cX12_tellAll 187 = .ok (.aload_n 0, 1) := by decide +kernel
theorem dX12_tellAll_188 : decode cX12_tellAll 188 = .ok (.getfield 85, 3) := by decide +kernel
theorem dX12_tellAll_191 : decode cX12_tellAll 191 = .ok (.iload_n 1, 1) := by decide +kernel
theorem dX12_tellAll_192 : decode cX12_tellAll 192 = .ok (.aload_n 0, 1) := by decide +kernel
theorem dX12_tellAll_193 : decode cX12_tellAll 193 = .ok (.getfield 394, 3) := by decide +kernel
theorem dX12_tellAll_196 : decode cX12_tellAll 196 = .ok (.ifCond .eq 12, 3) := by decide +kernel
theorem dX12_tellAll_199 : decode cX12_tellAll 199 = .ok (.aload_n 0, 1) := by decide +kernel
theorem dX12_tellAll_200 : decode cX12_tellAll 200 = .ok (.getfield 88, 3) := by decide +kernel
theorem dX12_tellAll_203 : decode cX12_tellAll 203 = .ok (.iload_n 1, 1) := by decide +kernel
theorem dX12_tellAll_204 : decode cX12_tellAll 204 = .ok (.laload, 1) := by decide +kernel
theorem dX12_tellAll_205 : decode cX12_tellAll 205 = .ok (.goto 10, 3) := by decide +kernel
theorem dX12_tellAll_208 : decode cX12_tellAll 208 = .ok (.aload_n 0, 1) := by decide +kernel
theorem dX12_tellAll_209 : decode cX12_tellAll 209 = .ok (.getfield 88, 3) := by decide +kernel
theorem dX12_tellAll_212 : decode cX12_tellAll 212 = .ok (.iload_n 1, 1) := by decide +kernel
theorem dX12_tellAll_213 : decode cX12_tellAll 213 = .ok (.laload, 1) := by decide +kernel
theorem dX12_tellAll_214 : decode cX12_tellAll 214 = .ok (.lneg, 1) := by decide +kernel
theorem dX12_tellAll_215 : decode cX12_tellAll 215 = .ok (.lastore, 1) := by decide +kernel
theorem dX12_tellAll_216 : decode cX12_tellAll 216 = .ok (.iinc 1 1, 3) := by decide +kernel
theorem dX12_tellAll_219 : decode cX12_tellAll 219 = .ok (.goto (-38), 3) := by decide +kernel
theorem dX12_tellAll_222 : decode cX12_tellAll 222 = .ok (.aload_n 0, 1) := by decide +kernel
theorem dX12_tellAll_223 : decode cX12_tellAll 223 = .ok (.dup, 1) := by decide +kernel
theorem dX12_tellAll_224 : decode cX12_tellAll 224 = .ok (.getfield 315, 3) := by decide +kernel
theorem dX12_tellAll_227 : decode cX12_tellAll 227 = .ok (.iconst 1, 1) := by decide +kernel
theorem dX12_tellAll_228 : decode cX12_tellAll 228 = .ok (.iadd, 1) := by decide +kernel
theorem dX12_tellAll_229 : decode cX12_tellAll 229 = .ok (.putfield 315, 3) := by decide +kernel
theorem dX12_tellAll_232 : decode cX12_tellAll 232 = .ok (.aload_n 0, 1) := by decide +kernel
theorem dX12_tellAll_233 : decode cX12_tellAll 233 = .ok (.getfield 270, 3) := by decide +kernel
theorem dX12_tellAll_236 : decode cX12_tellAll 236 = .ok (.ifCond .ne 19, 3) := by decide +kernel
theorem dX12_tellAll_239 : decode cX12_tellAll 239 = .ok (.aload_n 0, 1) := by decide +kernel
theorem dX12_tellAll_240 : decode cX12_tellAll 240 = .ok (.bipush 6, 2) := by decide +kernel
theorem dX12_tellAll_242 : decode cX12_tellAll 242 = .ok (.invokevirtual 325, 3) := by decide +kernel
theorem dX12_tellAll_245 : decode cX12_tellAll 245 = .ok (.ifCond .eq 10, 3) := by decide +kernel
theorem dX12_tellAll_248 : decode cX12_tellAll 248 = .ok (.aload_n 0, 1) := by decide +kernel
theorem dX12_tellAll_249 : decode cX12_tellAll 249 = .ok (.invokevirtual 401, 3) := by decide +kernel
theorem dX12_tellAll_252 : decode cX12_tellAll 252 = .ok (.goto (-20), 3) := by decide +kernel
theorem dX12_tellAll_255 : decode cX12_tellAll 255 = .ok (.return_, 1) := by decide +kernel
theorem w_124 : Cond.selects RX12 yX12_tellSet yX12_tellSet ∈ tb := sel_8 (q := (yX12_tellSet, 105)) 12 (by decide +kernel)
theorem w_127 : Cond.selects RX12 yX12_tellPar yX12_tellPar ∈ tb := sel_8 (q := (yX12_tellPar, 105)) 15 (by decide +kernel)
theorem w_131 : Cond.selects RX12 yX12_tellVar yX12_tellVar ∈ tb := sel_9 (q := (yX12_tellVar, 105)) 3 (by decide +kernel)
theorem w_141 : Cond.selects RX12 yX12_tellRow yX12_tellRow ∈ tb := sel_9 (q := (yX12_tellRow, 105)) 13 (by decide +kernel)
theorem w_2000 : Cond.fieldLink RX12 85 (TX12 39).1 (TX12 39).2.1 (TX12 39).2.2.1 ∈ tb := tbc_8 117 (by decide +kernel) rfl
theorem w_2001 : Cond.fieldLink RX12 394 (TX12 40).1 (TX12 40).2.1 (TX12 40).2.2.1 ∈ tb := tbc_8 118 (by decide +kernel) rfl
theorem w_2382 : Cond.methodLink RX12 385 yX12_tellSet ∈ tb := tbc_10 19 (by decide +kernel) rfl
theorem w_2384 : Cond.instanceMethod yX12_tellSet ∈ tb := tbc_10 21 (by decide +kernel) rfl
theorem w_2385 : Cond.code yX12_tellSet cX12_tellSet 3 none ∈ tb := tbc_10 22 (by decide +kernel) rfl
theorem w_2394 : Cond.methodLink RX12 388 yX12_tellPar ∈ tb := tbc_10 31 (by decide +kernel) rfl
theorem w_2396 : Cond.instanceMethod yX12_tellPar ∈ tb := tbc_10 33 (by decide +kernel) rfl
theorem w_2397 : Cond.code yX12_tellPar cX12_tellPar 5 none ∈ tb := tbc_10 34 (by decide +kernel) rfl
theorem w_2410 : Cond.methodLink RX12 391 yX12_tellVar ∈ tb := tbc_10 47 (by decide +kernel) rfl
theorem w_2412 : Cond.instanceMethod yX12_tellVar ∈ tb := tbc_10 49 (by decide +kernel) rfl
theorem w_2413 : Cond.code yX12_tellVar cX12_tellVar 6 none ∈ tb := tbc_10 50 (by decide +kernel) rfl
theorem w_2452 : Cond.methodLink RX12 401 yX12_tellRow ∈ tb := tbc_10 89 (by decide +kernel) rfl
theorem w_2454 : Cond.instanceMethod yX12_tellRow ∈ tb := tbc_10 91 (by decide +kernel) rfl
theorem w_2455 : Cond.code yX12_tellRow cX12_tellRow 9 none ∈ tb := tbc_10 92 (by decide +kernel) rfl
section RW79
variable {p : Program} {l : Launch} {e : Env} {R : Room} {s : State} {m : MethodId} {args : Array Value} {below : List Frame} {meth : Method} {c : Code} {H : Heap} {locs : List Loc} {cells slots : Nat} {Q : State → Prop}
variable {cc : ByteArray} {pc nL : Nat} {ls : Array Slot} {rest st0 : List Value} {G : sG} {n : Nat} {S : sS}
theorem p_X12_394 (Cx : sC G p m c cc nL s args RX12) (hW : sW G n S H) (hL : sL G locs) {k : Nat} (hk : k < n) (ht : tau k = .inl 12) {v : Int} (hv : v = 0 ∨ v = 1) (hdg : decode cc pc = .ok (.putfield 394, 3)) (kk : ∀ (H1 : Heap) (locs1 : List Loc), sW G n (uF S k 40 v) H1 → sL G locs1 → W p l e R s m args below meth c H1 locs1 cells slots Q (F0 m (pc + 3) ls rest)) : W p l e R s m args below meth c H locs cells slots Q (F0 m pc ls (.int (iv v) :: .ref (G.2.2.1 + k) :: rest)) :=
  sPut Cx inX12 tyX12 tyX12_ok nmX12 rfl 40 (by decide) w_2001 rfl hW hL hk ht (by rcases hv with rfl | rfl <;> rfl) (by rcases hv with rfl | rfl <;> rfl) (fun _ h => uF_same h) (fun _ h => uF_off h) (congrArg (fun z => Value.int (iv z)) uF_on) hdg kk
theorem c_X12_401 (Cx : sC G p m c cc nL s args RX12) {rm : Room} {mc ms : Nat} (h1 : rm.cells = mc) (h2 : rm.slots = ms) (h3 : rm.frames + 1 ≤ R.frames ∧ 8 + (9 + 11) + rm.locals ≤ R.locals) : CallW R s args RX12 RX12 401 yX12_tellRow cX12_tellRow 9 none (.code yX12_tellRow cX12_tellRow 9 none :: tb) rm mc ms 0 :=
  sCw Cx 0 w_2452 w_2454 w_141 w_217 w_2455 (by decide +kernel) h1 h2 h3
theorem g_X12_85 (Cx : sC G p m c cc nL s args RX12) (hW : sW G n S H) {k : Nat} (hk : k < n) (ht : tau k = .inl 12) {v : Value} (hv : S.2.2.2 k 39 = v) (hdg : decode cc pc = .ok (.getfield 85, 3)) (kk : W p l e R s m args below meth c H locs cells slots Q (F0 m (pc + 3) ls (v :: rest))) : W p l e R s m args below meth c H locs cells slots Q (F0 m pc ls (.ref (G.2.2.1 + k) :: rest)) :=
  sGet Cx inX12 rfl 39 (by decide) w_2000 hW hk ht hv hdg kk
theorem g_X12_394 (Cx : sC G p m c cc nL s args RX12) (hW : sW G n S H) {k : Nat} (hk : k < n) (ht : tau k = .inl 12) {v : Int} (hv : S.1 k 40 = v) (hdg : decode cc pc = .ok (.getfield 394, 3)) (kk : W p l e R s m args below meth c H locs cells slots Q (F0 m (pc + 3) ls (.int (iv v) :: rest))) : W p l e R s m args below meth c H locs cells slots Q (F0 m pc ls (.ref (G.2.2.1 + k) :: rest)) :=
  sGet Cx inX12 rfl 40 (by decide) w_2001 hW hk ht (congrArg (fun z => Value.int (iv z)) hv) hdg kk
theorem c_X12_391 (Cx : sC G p m c cc nL s args RX12) {rm : Room} {mc ms : Nat} (h1 : rm.cells = mc) (h2 : rm.slots = ms) (h3 : rm.frames + 1 ≤ R.frames ∧ 8 + (6 + 11) + rm.locals ≤ R.locals) : CallW R s args RX12 RX12 391 yX12_tellVar cX12_tellVar 6 none (.code yX12_tellVar cX12_tellVar 6 none :: tb) rm mc ms 1 :=
  sCw Cx 1 w_2410 w_2412 w_131 w_217 w_2413 (by decide +kernel) h1 h2 h3
theorem c_X12_388 (Cx : sC G p m c cc nL s args RX12) {rm : Room} {mc ms : Nat} (h1 : rm.cells = mc) (h2 : rm.slots = ms) (h3 : rm.frames + 1 ≤ R.frames ∧ 8 + (5 + 11) + rm.locals ≤ R.locals) : CallW R s args RX12 RX12 388 yX12_tellPar cX12_tellPar 5 none (.code yX12_tellPar cX12_tellPar 5 none :: tb) rm mc ms 1 :=
  sCw Cx 1 w_2394 w_2396 w_127 w_217 w_2397 (by decide +kernel) h1 h2 h3
theorem c_X12_385 (Cx : sC G p m c cc nL s args RX12) {rm : Room} {mc ms : Nat} (h1 : rm.cells = mc) (h2 : rm.slots = ms) (h3 : rm.frames + 1 ≤ R.frames ∧ 8 + (3 + 11) + rm.locals ≤ R.locals) : CallW R s args RX12 RX12 385 yX12_tellSet cX12_tellSet 3 none (.code yX12_tellSet cX12_tellSet 3 none :: tb) rm mc ms 1 :=
  sCw Cx 1 w_2382 w_2384 w_124 w_217 w_2385 (by decide +kernel) h1 h2 h3
end RW79
