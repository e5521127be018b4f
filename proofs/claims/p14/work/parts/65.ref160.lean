theorem dX12_leafDone_0 : decode cX12_leafDone 0 = .ok (.aload_n 0, 1) := by decide +kernel
theorem dX12_leafDone_1 : decode cX12_leafDone 1 = .ok (.getfield 511, 3) := by decide +kernel
theorem dX12_leafDone_4 : decode cX12_leafDone 4 = .ok (.ifCond .ne 8, 3) := by decide +kernel
theorem dX12_leafDone_7 : decode cX12_leafDone 7 = .ok (.aload_n 0, 1) := by decide +kernel
theorem dX12_leafDone_8 : decode cX12_leafDone 8 = .ok (.invokevirtual 655, 3) := by decide +kernel
theorem dX12_leafDone_11 : decode cX12_leafDone 11 = .ok (.return_, 1) := by decide +kernel
theorem dX12_leafDone_12 : decode cX12_leafDone 12 = .ok (.aload_n 0, 1) := by decide +kernel
theorem dX12_leafDone_13 : decode cX12_leafDone 13 = .ok (.dup, 1) := by decide +kernel
theorem dX12_leafDone_14 : decode cX12_leafDone 14 = .ok (.getfield 511, 3) := by decide +kernel
theorem dX12_leafDone_17 : decode cX12_leafDone 17 = .ok (.iconst 1, 1) := by decide +kernel
theorem dX12_leafDone_18 : decode cX12_leafDone 18 = .ok (.isub, 1) := by decide +kernel
theorem dX12_leafDone_19 : decode cX12_leafDone 19 = .ok (.putfield 511, 3) := by decide +kernel
theorem dX12_leafDone_22 : decode cX12_leafDone 22 = .ok (.aload_n 0, 1) := by decide +kernel
theorem dX12_leafDone_23 : decode cX12_leafDone 23 = .ok (.getfield 511, 3) := by decide +kernel
theorem dX12_leafDone_26 : decode cX12_leafDone 26 = .ok (.sipush 5280, 3) := by decide +kernel
theorem dX12_leafDone_29 : decode cX12_leafDone 29 = .ok (.imul, 1) := by decide +kernel
theorem dX12_leafDone_30 : decode cX12_leafDone 30 = .ok (.istore_n 1, 1) := by decide +kernel
theorem dX12_leafDone_31 : decode cX12_leafDone 31 = .ok (.iconst 0, 1) := by decide +kernel
theorem dX12_leafDone_32 : decode cX12_leafDone 32 = .ok (.istore_n 2, 1) := by decide +kernel
theorem dX12_leafDone_33 : decode cX12_leafDone 33 = .ok (.iload_n 2, 1) := by decide +kernel
theorem dX12_leafDone_34 : decode cX12_leafDone 34 = .ok (.sipush 5280, 3) := by decide +kernel
theorem dX12_leafDone_37 : decode cX12_leafDone 37 = .ok (.if_icmp .ge 23, 3) := by decide +kernel
theorem dX12_leafDone_40 : decode cX12_leafDone 40 = .ok (.aload_n 0, 1) := by decide +kernel
theorem dX12_leafDone_41 : decode cX12_leafDone 41 = .ok (.getfield 103, 3) := by decide +kernel
theorem dX12_leafDone_44 : decode cX12_leafDone 44 = .ok (.iload_n 2, 1) := by decide +kernel
theorem dX12_leafDone_45 : decode cX12_leafDone 45 = .ok (.aload_n 0, 1) := by decide +kernel
theorem dX12_leafDone_46 : decode cX12_leafDone 46 = .ok (.getfield 119, 3) := by decide +kernel
theorem dX12_leafDone_49 : decode cX12_leafDone 49 = .ok (.iload_n 1, 1) := by decide +kernel
theorem dX12_leafDone_50 : decode cX12_leafDone 50 = .ok (.iload_n 2, 1) := by decide +kernel
theorem dX12_leafDone_51 : decode cX12_leafDone 51 = .ok (.iadd, 1) := by decide +kernel
theorem dX12_leafDone_52 : decode cX12_leafDone 52 = .ok (.iaload, 1) := by decide +kernel
theorem dX12_leafDone_53 : decode cX12_leafDone 53 = .ok (.iastore, 1) := by decide +kernel
theorem dX12_leafDone_54 : decode cX12_leafDone 54 = .ok (.iinc 2 1, 3) := by decide +kernel
theorem dX12_leafDone_57 : decode cX12_leafDone 57 = .ok (.goto (-24), 3) := by decide +kernel
theorem dX12_leafDone_60 : decode cX12_leafDone 60 = .ok (.iconst 0, 1) := by decide +kernel
theorem dX12_leafDone_61 : decode cX12_leafDone 61 = .ok (.istore_n 2, 1) := by decide +kernel
theorem dX12_leafDone_62 : decode cX12_leafDone 62 = .ok (.iload_n 2, 1) := by decide +kernel
theorem dX12_leafDone_63 : decode cX12_leafDone 63 = .ok (.bipush 8, 2) := by decide +kernel
theorem dX12_leafDone_65 : decode cX12_leafDone 65 = .ok (.if_icmp .ge 29, 3) := by decide +kernel
theorem dX12_leafDone_68 : decode cX12_leafDone 68 = .ok (.aload_n 0, 1) := by decide +kernel
theorem dX12_leafDone_69 : decode cX12_leafDone 69 = .ok (.getfield 109, 3) := by decide +kernel
theorem dX12_leafDone_72 : decode cX12_leafDone 72 = .ok (.iload_n 2, 1) := by decide +kernel
theorem dX12_leafDone_73 : decode cX12_leafDone 73 = .ok (.aload_n 0, 1) := by decide +kernel
theorem dX12_leafDone_74 : decode cX12_leafDone 74 = .ok (.getfield 122, 3) := by decide +kernel
theorem dX12_leafDone_77 : decode cX12_leafDone 77 = .ok (.aload_n 0, 1) := by decide +kernel
theorem dX12_leafDone_78 : decode cX12_leafDone 78 = .ok (.getfield 511, 3) := by decide +kernel
theorem dX12_leafDone_81 : decode cX12_leafDone 81 = .ok (.bipush 8, 2) := by decide +kernel
theorem dX12_leafDone_83 : decode cX12_leafDone 83 = .ok (.imul, 1) := by decide +kernel
theorem dX12_leafDone_84 : decode cX12_leafDone 84 = .ok (.iload_n 2, 1) := by decide +kernel
theorem dX12_leafDone_85 : decode cX12_leafDone 85 = .ok (.iadd, 1) := by decide +kernel
theorem dX12_leafDone_86 : decode cX12_leafDone 86 = .ok (.iaload, 1) := by decide +kernel
theorem dX12_leafDone_87 : decode cX12_leafDone 87 = .ok (.iastore, 1) := by decide +kernel
theorem dX12_leafDone_88 : decode cX12_leafDone 88 = .ok (.iinc 2 1, 3) := by decide +kernel
theorem dX12_leafDone_91 : decode cX12_leafDone 91 = .ok (.goto (-29), 3) := by decide +kernel
theorem dX12_leafDone_94 : decode cX12_leafDone 94 = .ok (.iconst 0, 1) := by decide +kernel
theorem dX12_leafDone_95 : decode cX12_leafDone 95 = .ok (.istore_n 2, 1) := by decide +kernel
theorem dX12_leafDone_96 : decode cX12_leafDone 96 = .ok (.iload_n 2, 1) := by decide +kernel
theorem dX12_leafDone_97 : decode cX12_leafDone 97 = .ok (.bipush 44, 2) := by decide +kernel
theorem dX12_leafDone_99 : decode cX12_leafDone 99 = .ok (.if_icmp .ge 29, 3) := by decide +kernel
theorem dX12_leafDone_102 : decode cX12_leafDone 102 = .ok (.aload_n 0, 1) := by decide +kernel
theorem dX12_leafDone_103 : decode cX12_leafDone 103 = .ok (.getfield 112, 3) := by decide +kernel
theorem dX12_leafDone_106 : decode cX12_leafDone 106 = .ok (.iload_n 2, 1) := by decide +kernel
theorem dX12_leafDone_107 : decode cX12_leafDone 107 = .ok (.aload_n 0, 1) := by decide +kernel
theorem dX12_leafDone_108 : decode cX12_leafDone 108 = .ok (.getfield 125, 3) := by decide +kernel
theorem dX12_leafDone_111 : decode cX12_leafDone 111 = .ok (.aload_n 0, 1) := by decide +kernel
theorem dX12_leafDone_112 : decode cX12_leafDone 112 = .ok (.getfield 511, 3) := by decide +kernel
theorem dX12_leafDone_115 : decode cX12_leafDone 115 = .ok (.bipush 44, 2) := by decide +kernel
theorem dX12_leafDone_117 : decode cX12_leafDone 117 = .ok (.imul, 1) := by decide +kernel
theorem dX12_leafDone_118 : decode cX12_leafDone 118 = .ok (.iload_n 2, 1) := by decide +kernel
theorem dX12_leafDone_119 : decode cX12_leafDone 119 = .ok (.iadd, 1) := by decide +kernel
theorem dX12_leafDone_120 : decode cX12_leafDone 120 = .ok (.iaload, 1) := by decide +kernel
theorem dX12_leafDone_121 : decode cX12_leafDone 121 = .ok (.iastore, 1) := by decide +kernel
theorem dX12_leafDone_122 : decode cX12_leafDone 122 = .ok (.iinc 2 1, 3) := by decide +kernel
theorem dX12_leafDone_125 : decode cX12_leafDone 125 = .ok (.goto (-29), 3) := by decide +kernel
theorem dX12_leafDone_128 : decode cX12_leafDone 128 = .ok (.iconst 0, 1) := by decide +kernel
theorem dX12_leafDone_129 : decode cX12_leafDone 129 = .ok (.istore_n 2, 1) := by decide +kernel
theorem dX12_leafDone_130 : decode cX12_leafDone 130 = .ok (.iload_n 2, 1) := by decide +kernel
theorem dX12_leafDone_131 : decode cX12_leafDone 131 = .ok (.bipush 15, 2) := by decide +kernel
theorem dX12_leafDone_133 : decode cX12_leafDone 133 = .ok (.if_icmp .ge 29, 3) := by decide +kernel
theorem dX12_leafDone_136 : decode cX12_leafDone 136 = .ok (.aload_n 0, 1) := by decide +kernel
theorem dX12_leafDone_137 : decode cX12_leafDone 137 = .ok (.getfield 115, 3) := by decide +kernel
theorem dX12_leafDone_140 : decode cX12_leafDone 140 = .ok (.iload_n 2, 1) := by decide +kernel
theorem dX12_leafDone_141 : decode cX12_leafDone 141 = .ok (.aload_n 0, 1) := by decide +kernel
theorem dX12_leafDone_142 : decode cX12_leafDone 142 = .ok (.getfield 128, 3) := by decide +kernel
theorem dX12_leafDone_145 : decode cX12_leafDone 145 = .ok (.aload_n 0, 1) := by decide +kernel
theorem dX12_leafDone_146 : decode cX12_leafDone 146 = .ok (.getfield 511, 3) := by decide +kernel
theorem dX12_leafDone_149 : decode cX12_leafDone 149 = .ok (.bipush 15, 2) := by decide +kernel
theorem dX12_leafDone_151 : decode cX12_leafDone 151 = .ok (.imul, 1) := by decide +kernel
theorem dX12_leafDone_152 : decode cX12_leafDone 152 = .ok (.iload_n 2, 1) := by decide +kernel
theorem dX12_leafDone_153 : decode cX12_leafDone 153 = .ok (.iadd, 1) := by decide +kernel
theorem dX12_leafDone_154 : decode cX12_leafDone 154 = .ok (.iaload, 1) := by decide +kernel
theorem dX12_leafDone_155 : decode cX12_leafDone 155 = .ok (.iastore, 1) := by decide +kernel
theorem dX12_leafDone_156 : decode cX12_leafDone 156 = .ok (.iinc 2 1, 3) := by decide +kernel
theorem dX12_leafDone_159 : decode cX12_leafDone 159 = .ok (.goto (-29), 3) := by decide +kernel
theorem dX12_leafDone_162 : decode cX12_leafDone 162 = .ok (.aload_n 0, 1) := by decide +kernel
theorem dX12_leafDone_163 : decode cX12_leafDone 163 = .ok (.getfield 511, 3) := by decide +kernel
theorem dX12_leafDone_166 : decode cX12_leafDone 166 = .ok (.iconst 5, 1) := by decide +kernel
theorem dX12_leafDone_167 : decode cX12_leafDone 167 = .ok (.imul, 1) := by decide +kernel
theorem dX12_leafDone_168 : decode cX12_leafDone 168 = .ok (.istore_n 2, 1) := by decide +kernel
theorem dX12_leafDone_169 : decode cX12_leafDone 169 = .ok (.aload_n 0, 1) := by decide +kernel
theorem dX12_leafDone_170 : decode cX12_leafDone 170 = .ok (.aload_n 0, 1) := by decide +kernel
theorem dX12_leafDone_171 : decode cX12_leafDone 171 = .ok (.getfield 131, 3) := by decide +kernel
theorem dX12_leafDone_174 : decode cX12_leafDone 174 = .ok (.iload_n 2, 1) := by decide +kernel
theorem dX12_leafDone_175 : decode cX12_leafDone 175 = .ok (.iaload, 1) := by decide +kernel
theorem dX12_leafDone_176 : decode cX12_leafDone 176 = .ok (.putfield 483, 3) := by decide +kernel
theorem dX12_leafDone_179 : decode cX12_leafDone 179 = .ok (.aload_n 0, 1) := by decide +kernel
theorem dX12_leafDone_180 : decode cX12_leafDone 180 = .ok (.aload_n 0, 1) := by decide +kernel
theorem dX12_leafDone_181 : decode cX12_leafDone 181 = .ok (.getfield 131, 3) := by decide +kernel
theorem dX12_leafDone_184 : decode cX12_leafDone 184 = .ok (.iload_n 2, 1) := by decide +kernel
theorem dX12_leafDone_185 : decode cX12_leafDone 185 = .ok (.iconst 1, 1) := by decide +kernel
theorem dX12_leafDone_186 : decode cX12_leafDone 186 = .ok (.iadd, 1) := by decide +kernel
theorem dX12_leafDone_187 : decode cX12_leafDone 187 = .ok (.iaload, 1) := by decide +kernel
theorem dX12_leafDone_188 : decode cX12_leafDone 188 = .ok (.putfield 526, 3) := by decide +kernel
theorem dX12_leafDone_191 : decode cX12_leafDone 191 = .ok (.aload_n 0, 1) := by decide +kernel
theorem dX12_leafDone_192 : decode cX12_leafDone 192 = .ok (.aload_n 0, 1) := by decide +kernel
theorem dX12_leafDone_193 : decode cX12_leafDone 193 = .ok (.getfield 131, 3) := by decide +kernel
theorem dX12_leafDone_196 : decode cX12_leafDone 196 = .ok (.iload_n 2, 1) := by decide +kernel
theorem dX12_leafDone_197 : decode cX12_leafDone 197 = .ok (.iconst 2, 1) := by decide +kernel
theorem dX12_leafDone_198 : decode cX12_leafDone 198 = .ok (.iadd, 1) := by decide +kernel
theorem dX12_leafDone_199 : decode cX12_leafDone 199 = .ok (.iaload, 1) := by decide +kernel
theorem dX12_leafDone_200 : decode cX12_leafDone 200 = .ok (.putfield 480, 3) := by decide +kernel
theorem dX12_leafDone_203 : decode cX12_leafDone 203 = .ok (.aload_n 0, 1) := by decide +kernel
theorem dX12_leafDone_204 : decode cX12_leafDone 204 = .ok (.aload_n 0, 1) := by decide +kernel
theorem dX12_leafDone_205 : decode cX12_leafDone 205 = .ok (.getfield 131, 3) := by decide +kernel
theorem dX12_leafDone_208 : decode cX12_leafDone 208 = .ok (.iload_n 2, 1) := by decide +kernel
theorem dX12_leafDone_209 : decode cX12_leafDone 209 = .ok (.iconst 3, 1) := by decide +kernel
theorem dX12_leafDone_210 : decode cX12_leafDone 210 = .ok (.iadd, 1) := by decide +kernel
theorem dX12_leafDone_211 : decode cX12_leafDone 211 = .ok (.iaload, 1) := by decide +kernel
theorem dX12_leafDone_212 : decode cX12_leafDone 212 = .ok (.putfield 508, 3) := by decide +kernel
theorem dX12_leafDone_215 : decode cX12_leafDone 215 = .ok (.aload_n 0, 1) := by decide +kernel
theorem dX12_leafDone_216 : decode cX12_leafDone 216 = .ok (.invokevirtual 647, 3) := by decide +kernel
theorem dX12_leafDone_219 : decode cX12_leafDone 219 = .ok (.ifCond .eq 16, 3) := by decide +kernel
theorem dX12_leafDone_222 : decode cX12_leafDone 222 = .ok (.aload_n 0, 1) := by decide +kernel
theorem dX12_leafDone_223 : decode cX12_leafDone 223 = .ok (.aload_n 0, 1) := by decide +kernel
theorem dX12_leafDone_224 : decode cX12_leafDone 224 = .ok (.getfield 131, 3) := by decide +kernel
theorem dX12_leafDone_227 : decode cX12_leafDone 227 = .ok (.iload_n 2, 1) := by decide +kernel
theorem dX12_leafDone_228 : decode cX12_leafDone 228 = .ok (.iconst 4, 1) := by decide +kernel
theorem dX12_leafDone_229 : decode cX12_leafDone 229 = .ok (.iadd, 1) := by decide +kernel
theorem dX12_leafDone_230 : decode cX12_leafDone 230 = .ok (.iaload, 1) := by decide +kernel
theorem dX12_leafDone_231 : decode cX12_leafDone 231 = .ok (.iconst 1, 1) := by decide +kernel
theorem dX12_leafDone_232 : decode cX12_leafDone 232 = .ok (.invokevirtual 651, 3) := by decide +kernel
theorem dX12_leafDone_235 : decode cX12_leafDone 235 = .ok (.return_, 1) := by decide +kernel
theorem w_158 : Cond.selects RX12 yX12_finish yX12_finish ∈ tb := sel_10 (q := (yX12_finish, 105)) 14 (by decide +kernel)
theorem w_166 : Cond.selects RX12 yX12_mayBegin yX12_mayBegin ∈ tb := sel_11 (q := (yX12_mayBegin, 105)) 6 (by decide +kernel)
theorem w_167 : Cond.selects RX12 yX12_childRow yX12_childRow ∈ tb := sel_11 (q := (yX12_childRow, 105)) 7 (by decide +kernel)
theorem w_2034 : Cond.fieldLink RX12 119 (TX12 73).1 (TX12 73).2.1 (TX12 73).2.2.1 ∈ tb := tbc_8 151 (by decide +kernel) rfl
theorem w_2035 : Cond.fieldLink RX12 122 (TX12 74).1 (TX12 74).2.1 (TX12 74).2.2.1 ∈ tb := tbc_8 152 (by decide +kernel) rfl
theorem w_2036 : Cond.fieldLink RX12 125 (TX12 75).1 (TX12 75).2.1 (TX12 75).2.2.1 ∈ tb := tbc_8 153 (by decide +kernel) rfl
theorem w_2037 : Cond.fieldLink RX12 128 (TX12 76).1 (TX12 76).2.1 (TX12 76).2.2.1 ∈ tb := tbc_8 154 (by decide +kernel) rfl
theorem w_2038 : Cond.fieldLink RX12 131 (TX12 77).1 (TX12 77).2.1 (TX12 77).2.2.1 ∈ tb := tbc_8 155 (by decide +kernel) rfl
theorem w_2572 : Cond.methodLink RX12 655 yX12_finish ∈ tb := tbc_10 209 (by decide +kernel) rfl
theorem w_2574 : Cond.instanceMethod yX12_finish ∈ tb := tbc_10 211 (by decide +kernel) rfl
theorem w_2575 : Cond.code yX12_finish cX12_finish 2 none ∈ tb := tbc_10 212 (by decide +kernel) rfl
theorem w_2622 : Cond.methodLink RX12 647 yX12_mayBegin ∈ tb := tbc_11 19 (by decide +kernel) rfl
theorem w_2624 : Cond.instanceMethod yX12_mayBegin ∈ tb := tbc_11 21 (by decide +kernel) rfl
theorem w_2625 : Cond.code yX12_mayBegin cX12_mayBegin 1 (some .boolean) ∈ tb := tbc_11 22 (by decide +kernel) rfl
theorem w_2626 : Cond.methodLink RX12 651 yX12_childRow ∈ tb := tbc_11 23 (by decide +kernel) rfl
theorem w_2628 : Cond.instanceMethod yX12_childRow ∈ tb := tbc_11 25 (by decide +kernel) rfl
theorem w_2629 : Cond.code yX12_childRow cX12_childRow 6 none ∈ tb := tbc_11 26 (by decide +kernel) rfl
section RW65
variable {p : Program} {l : Launch} {e : Env} {R : Room} {s : State} {m : MethodId} {args : Array Value} {below : List Frame} {meth : Method} {c : Code} {H : Heap} {locs : List Loc} {cells slots : Nat} {Q : State → Prop}
variable {cc : ByteArray} {pc nL : Nat} {ls : Array Slot} {rest st0 : List Value} {G : sG} {n : Nat} {S : sS}
theorem g_X12_511 (Cx : sC G p m c cc nL s args RX12) (hW : sW G n S H) {k : Nat} (hk : k < n) (ht : tau k = .inl 12) {v : Int} (hv : S.1 k 78 = v) (hdg : decode cc pc = .ok (.getfield 511, 3)) (kk : W p l e R s m args below meth c H locs cells slots Q (F0 m (pc + 3) ls (.int (iv v) :: rest))) : W p l e R s m args below meth c H locs cells slots Q (F0 m pc ls (.ref (G.2.2.1 + k) :: rest)) :=
  sGet Cx inX12 rfl 78 (by decide) w_2039 hW hk ht (congrArg (fun z => Value.int (iv z)) hv) hdg kk
theorem g_X12_131 (Cx : sC G p m c cc nL s args RX12) (hW : sW G n S H) {k : Nat} (hk : k < n) (ht : tau k = .inl 12) {v : Value} (hv : S.2.2.2 k 77 = v) (hdg : decode cc pc = .ok (.getfield 131, 3)) (kk : W p l e R s m args below meth c H locs cells slots Q (F0 m (pc + 3) ls (v :: rest))) : W p l e R s m args below meth c H locs cells slots Q (F0 m pc ls (.ref (G.2.2.1 + k) :: rest)) :=
  sGet Cx inX12 rfl 77 (by decide) w_2038 hW hk ht hv hdg kk
theorem c_X12_647 (Cx : sC G p m c cc nL s args RX12) {rm : Room} {mc ms : Nat} (h1 : rm.cells = mc) (h2 : rm.slots = ms) (h3 : rm.frames + 1 ≤ R.frames ∧ 8 + (1 + 11) + rm.locals ≤ R.locals) : CallW R s args RX12 RX12 647 yX12_mayBegin cX12_mayBegin 1 (some .boolean) (.code yX12_mayBegin cX12_mayBegin 1 (some .boolean) :: tb) rm mc ms 0 :=
  sCw Cx 0 w_2622 w_2624 w_166 w_217 w_2625 (by decide +kernel) h1 h2 h3
theorem c_X12_651 (Cx : sC G p m c cc nL s args RX12) {rm : Room} {mc ms : Nat} (h1 : rm.cells = mc) (h2 : rm.slots = ms) (h3 : rm.frames + 1 ≤ R.frames ∧ 8 + (6 + 11) + rm.locals ≤ R.locals) : CallW R s args RX12 RX12 651 yX12_childRow cX12_childRow 6 none (.code yX12_childRow cX12_childRow 6 none :: tb) rm mc ms 2 :=
  sCw Cx 2 w_2626 w_2628 w_167 w_217 w_2629 (by decide +kernel) h1 h2 h3
theorem g_X12_128 (Cx : sC G p m c cc nL s args RX12) (hW : sW G n S H) {k : Nat} (hk : k < n) (ht : tau k = .inl 12) {v : Value} (hv : S.2.2.2 k 76 = v) (hdg : decode cc pc = .ok (.getfield 128, 3)) (kk : W p l e R s m args below meth c H locs cells slots Q (F0 m (pc + 3) ls (v :: rest))) : W p l e R s m args below meth c H locs cells slots Q (F0 m pc ls (.ref (G.2.2.1 + k) :: rest)) :=
  sGet Cx inX12 rfl 76 (by decide) w_2037 hW hk ht hv hdg kk
theorem g_X12_125 (Cx : sC G p m c cc nL s args RX12) (hW : sW G n S H) {k : Nat} (hk : k < n) (ht : tau k = .inl 12) {v : Value} (hv : S.2.2.2 k 75 = v) (hdg : decode cc pc = .ok (.getfield 125, 3)) (kk : W p l e R s m args below meth c H locs cells slots Q (F0 m (pc + 3) ls (v :: rest))) : W p l e R s m args below meth c H locs cells slots Q (F0 m pc ls (.ref (G.2.2.1 + k) :: rest)) :=
  sGet Cx inX12 rfl 75 (by decide) w_2036 hW hk ht hv hdg kk
theorem g_X12_122 (Cx : sC G p m c cc nL s args RX12) (hW : sW G n S H) {k : Nat} (hk : k < n) (ht : tau k = .inl 12) {v : Value} (hv : S.2.2.2 k 74 = v) (hdg : decode cc pc = .ok (.getfield 122, 3)) (kk : W p l e R s m args below meth c H locs cells slots Q (F0 m (pc + 3) ls (v :: rest))) : W p l e R s m args below meth c H locs cells slots Q (F0 m pc ls (.ref (G.2.2.1 + k) :: rest)) :=
  sGet Cx inX12 rfl 74 (by decide) w_2035 hW hk ht hv hdg kk
theorem g_X12_119 (Cx : sC G p m c cc nL s args RX12) (hW : sW G n S H) {k : Nat} (hk : k < n) (ht : tau k = .inl 12) {v : Value} (hv : S.2.2.2 k 73 = v) (hdg : decode cc pc = .ok (.getfield 119, 3)) (kk : W p l e R s m args below meth c H locs cells slots Q (F0 m (pc + 3) ls (v :: rest))) : W p l e R s m args below meth c H locs cells slots Q (F0 m pc ls (.ref (G.2.2.1 + k) :: rest)) :=
  sGet Cx inX12 rfl 73 (by decide) w_2034 hW hk ht hv hdg kk
theorem c_X12_655 (Cx : sC G p m c cc nL s args RX12) {rm : Room} {mc ms : Nat} (h1 : rm.cells = mc) (h2 : rm.slots = ms) (h3 : rm.frames + 1 ≤ R.frames ∧ 8 + (2 + 11) + rm.locals ≤ R.locals) : CallW R s args RX12 RX12 655 yX12_finish cX12_finish 2 none (.code yX12_finish cX12_finish 2 none :: tb) rm mc ms 0 :=
  sCw Cx 0 w_2572 w_2574 w_158 w_217 w_2575 (by decide +kernel) h1 h2 h3
end RW65
