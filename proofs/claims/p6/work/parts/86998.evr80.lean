theorem dX12_factor_7 : decode cX12_factor 7 = .ok (.return_, 1) := by decide +kernel
theorem dX12_sum_0 : decode cX12_sum 0 = .ok (.aload_n 0, 1) := by decide +kernel
theorem dX12_sum_1 : decode cX12_sum 1 = .ok (.getfield 315, 3) := by decide +kernel
theorem dX12_sum_4 : decode cX12_sum 4 = .ok (.istore_n 2, 1) := by decide +kernel
theorem dX12_sum_5 : decode cX12_sum 5 = .ok (.aload_n 0, 1) := by decide +kernel
theorem dX12_sum_6 : decode cX12_sum 6 = .ok (.dup, 1) := by decide +kernel
theorem dX12_sum_7 : decode cX12_sum 7 = .ok (.getfield 315, 3) := by decide +kernel
theorem dX12_sum_10 : decode cX12_sum 10 = .ok (.iconst 1, 1) := by decide +kernel
theorem dX12_sum_11 : decode cX12_sum 11 = .ok (.iadd, 1) := by decide +kernel
theorem dX12_sum_12 : decode cX12_sum 12 = .ok (.putfield 315, 3) := by decide +kernel
theorem dX12_sum_15 : decode cX12_sum 15 = .ok (.aload_n 0, 1) := by decide +kernel
theorem dX12_sum_16 : decode cX12_sum 16 = .ok (.aload_n 0, 1) := by decide +kernel
theorem dX12_sum_17 : decode cX12_sum 17 = .ok (.getfield 315, 3) := by decide +kernel
theorem dX12_sum_20 : decode cX12_sum 20 = .ok (.iconst 5, 1) := by decide +kernel
theorem dX12_sum_21 : decode cX12_sum 21 = .ok (.invokevirtual 404, 3) := by decide +kernel
theorem dX12_sum_24 : decode cX12_sum 24 = .ok (.istore_n 3, 1) := by decide +kernel
theorem dX12_sum_25 : decode cX12_sum 25 = .ok (.aload_n 0, 1) := by decide +kernel
theorem dX12_sum_26 : decode cX12_sum 26 = .ok (.getfield 270, 3) := by decide +kernel
theorem dX12_sum_29 : decode cX12_sum 29 = .ok (.ifCond .eq 4, 3) := by decide +kernel
theorem dX12_sum_32 : decode cX12_sum 32 = .ok (.return_, 1) := by decide +kernel
theorem dX12_sum_33 : decode cX12_sum 33 = .ok (.aload_n 0, 1) := by decide +kernel
theorem dX12_sum_34 : decode cX12_sum 34 = .ok (.dup, 1) := by decide +kernel
theorem dX12_sum_35 : decode cX12_sum 35 = .ok (.getfield 315, 3) := by decide +kernel
theorem dX12_sum_38 : decode cX12_sum 38 = .ok (.iconst 2, 1) := by decide +kernel
theorem dX12_sum_39 : decode cX12_sum 39 = .ok (.iadd, 1) := by decide +kernel
theorem dX12_sum_40 : decode cX12_sum 40 = .ok (.putfield 315, 3) := by decide +kernel
theorem dX12_sum_43 : decode cX12_sum 43 = .ok (.aload_n 0, 1) := by decide +kernel
theorem dX12_sum_44 : decode cX12_sum 44 = .ok (.invokevirtual 364, 3) := by decide +kernel
theorem dX12_sum_47 : decode cX12_sum 47 = .ok (.istore 4, 2) := by decide +kernel
theorem dX12_sum_49 : decode cX12_sum 49 = .ok (.aload_n 0, 1) := by decide +kernel
theorem dX12_sum_50 : decode cX12_sum 50 = .ok (.getfield 270, 3) := by decide +kernel
theorem dX12_sum_53 : decode cX12_sum 53 = .ok (.ifCond .eq 4, 3) := by decide +kernel
theorem dX12_sum_56 : decode cX12_sum 56 = .ok (.return_, 1) := by decide +kernel
theorem dX12_sum_57 : decode cX12_sum 57 = .ok (.aload_n 0, 1) := by decide +kernel
theorem dX12_sum_58 : decode cX12_sum 58 = .ok (.dup, 1) := by decide +kernel
theorem dX12_sum_59 : decode cX12_sum 59 = .ok (.getfield 315, 3) := by decide +kernel
theorem dX12_sum_62 : decode cX12_sum 62 = .ok (.iconst 1, 1) := by decide +kernel
theorem dX12_sum_63 : decode cX12_sum 63 = .ok (.iadd, 1) := by decide +kernel
theorem dX12_sum_64 : decode cX12_sum 64 = .ok (.putfield 315, 3) := by decide +kernel
theorem dX12_sum_67 : decode cX12_sum 67 = .ok (.aload_n 0, 1) := by decide +kernel
theorem dX12_sum_68 : decode cX12_sum 68 = .ok (.getfield 315, 3) := by decide +kernel
theorem dX12_sum_71 : decode cX12_sum 71 = .ok (.istore 5, 2) := by decide +kernel
theorem dX12_sum_73 : decode cX12_sum 73 = .ok (.iload_n 1, 1) := by decide +kernel
theorem dX12_sum_74 : decode cX12_sum 74 = .ok (.bipush 12, 2) := by decide +kernel
theorem dX12_sum_76 : decode cX12_sum 76 = .ok (.iadd, 1) := by decide +kernel
theorem dX12_sum_77 : decode cX12_sum 77 = .ok (.iconst 1, 1) := by decide +kernel
theorem dX12_sum_78 : decode cX12_sum 78 = .ok (.iadd, 1) := by decide +kernel
theorem dX12_sum_79 : decode cX12_sum 79 = .ok (.istore 6, 2) := by decide +kernel
theorem dX12_sum_81 : decode cX12_sum 81 = .ok (.aload_n 0, 1) := by decide +kernel
theorem dX12_sum_82 : decode cX12_sum 82 = .ok (.iload_n 1, 1) := by decide +kernel
theorem dX12_sum_83 : decode cX12_sum 83 = .ok (.lconst 0, 1) := by decide +kernel
theorem dX12_sum_84 : decode cX12_sum 84 = .ok (.invokevirtual 431, 3) := by decide +kernel
theorem dX12_sum_87 : decode cX12_sum 87 = .ok (.aload_n 0, 1) := by decide +kernel
theorem dX12_sum_88 : decode cX12_sum 88 = .ok (.getfield 65, 3) := by decide +kernel
theorem dX12_sum_91 : decode cX12_sum 91 = .ok (.iload 4, 2) := by decide +kernel
theorem dX12_sum_93 : decode cX12_sum 93 = .ok (.iaload, 1) := by decide +kernel
theorem dX12_sum_94 : decode cX12_sum 94 = .ok (.istore 7, 2) := by decide +kernel
theorem dX12_sum_96 : decode cX12_sum 96 = .ok (.iload 7, 2) := by decide +kernel
theorem dX12_sum_98 : decode cX12_sum 98 = .ok (.aload_n 0, 1) := by decide +kernel
theorem dX12_sum_99 : decode cX12_sum 99 = .ok (.getfield 68, 3) := by decide +kernel
theorem dX12_sum_102 : decode cX12_sum 102 = .ok (.iload 4, 2) := by decide +kernel
theorem dX12_sum_104 : decode cX12_sum 104 = .ok (.iaload, 1) := by decide +kernel
theorem dX12_sum_105 : decode cX12_sum 105 = .ok (.if_icmp .gt 96, 3) := by decide +kernel
theorem dX12_sum_108 : decode cX12_sum 108 = .ok (.aload_n 0, 1) := by decide +kernel
theorem dX12_sum_109 : decode cX12_sum 109 = .ok (.getfield 270, 3) := by decide +kernel
theorem dX12_sum_112 : decode cX12_sum 112 = .ok (.ifCond .ne 89, 3) := by decide +kernel
theorem dX12_sum_115 : decode cX12_sum 115 = .ok (.aload_n 0, 1) := by decide +kernel
theorem dX12_sum_116 : decode cX12_sum 116 = .ok (.getfield 71, 3) := by decide +kernel
theorem dX12_sum_119 : decode cX12_sum 119 = .ok (.iload_n 3, 1) := by decide +kernel
theorem dX12_sum_120 : decode cX12_sum 120 = .ok (.iload 7, 2) := by decide +kernel
theorem dX12_sum_122 : decode cX12_sum 122 = .ok (.iastore, 1) := by decide +kernel
theorem dX12_sum_123 : decode cX12_sum 123 = .ok (.aload_n 0, 1) := by decide +kernel
theorem dX12_sum_124 : decode cX12_sum 124 = .ok (.iload 5, 2) := by decide +kernel
theorem dX12_sum_126 : decode cX12_sum 126 = .ok (.putfield 315, 3) := by decide +kernel
theorem dX12_sum_129 : decode cX12_sum 129 = .ok (.aload_n 0, 1) := by decide +kernel
theorem dX12_sum_130 : decode cX12_sum 130 = .ok (.iload 6, 2) := by decide +kernel
theorem dX12_sum_132 : decode cX12_sum 132 = .ok (.invokevirtual 398, 3) := by decide +kernel
theorem dX12_sum_135 : decode cX12_sum 135 = .ok (.iconst 0, 1) := by decide +kernel
theorem dX12_sum_136 : decode cX12_sum 136 = .ok (.istore 8, 2) := by decide +kernel
theorem dX12_sum_138 : decode cX12_sum 138 = .ok (.iload 8, 2) := by decide +kernel
theorem dX12_sum_140 : decode cX12_sum 140 = .ok (.bipush 12, 2) := by decide +kernel
theorem dX12_sum_142 : decode cX12_sum 142 = .ok (.if_icmp .gt 31, 3) := by decide +kernel
theorem dX12_sum_145 : decode cX12_sum 145 = .ok (.aload_n 0, 1) := by decide +kernel
theorem dX12_sum_146 : decode cX12_sum 146 = .ok (.getfield 88, 3) := by decide +kernel
theorem dX12_sum_149 : decode cX12_sum 149 = .ok (.iload_n 1, 1) := by decide +kernel
theorem dX12_sum_150 : decode cX12_sum 150 = .ok (.iload 8, 2) := by decide +kernel
theorem dX12_sum_152 : decode cX12_sum 152 = .ok (.iadd, 1) := by decide +kernel
theorem dX12_sum_153 : decode cX12_sum 153 = .ok (.dup2, 1) := by decide +kernel
theorem dX12_sum_154 : decode cX12_sum 154 = .ok (.laload, 1) := by decide +kernel
theorem dX12_sum_155 : decode cX12_sum 155 = .ok (.aload_n 0, 1) := by decide +kernel
theorem dX12_sum_156 : decode cX12_sum 156 = .ok (.getfield 88, 3) := by decide +kernel
theorem dX12_sum_159 : decode cX12_sum 159 = .ok (.iload 6, 2) := by decide +kernel
theorem dX12_sum_161 : decode cX12_sum 161 = .ok (.iload 8, 2) := by decide +kernel
theorem dX12_sum_163 : decode cX12_sum 163 = .ok (.iadd, 1) := by decide +kernel
theorem dX12_sum_164 : decode cX12_sum 164 = .ok (.laload, 1) := by decide +kernel
theorem dX12_sum_165 : decode cX12_sum 165 = .ok (.ladd, 1) := by decide +kernel
theorem dX12_sum_166 : decode cX12_sum 166 = .ok (.lastore, 1) := by decide +kernel
theorem dX12_sum_167 : decode cX12_sum 167 = .ok (.iinc 8 1, 3) := by decide +kernel
theorem dX12_sum_170 : decode cX12_sum 170 = .ok (.goto (-32), 3) := by decide +kernel
theorem dX12_sum_173 : decode cX12_sum 173 = .ok (.aload_n 0, 1) := by decide +kernel
theorem dX12_sum_174 : decode cX12_sum 174 = .ok (.getfield 270, 3) := by decide +kernel
theorem dX12_sum_177 : decode cX12_sum 177 = .ok (.ifCond .ne 18, 3) := by decide +kernel
theorem dX12_sum_180 : decode cX12_sum 180 = .ok (.aload_n 0, 1) := by decide +kernel
theorem dX12_sum_181 : decode cX12_sum 181 = .ok (.iload_n 1, 1) := by decide +kernel
theorem dX12_sum_182 : decode cX12_sum 182 = .ok (.invokevirtual 416, 3) := by decide +kernel
theorem dX12_sum_185 : decode cX12_sum 185 = .ok (.ifCond .eq 10, 3) := by decide +kernel
theorem dX12_sum_188 : decode cX12_sum 188 = .ok (.aload_n 0, 1) := by decide +kernel
theorem dX12_sum_189 : decode cX12_sum 189 = .ok (.bipush 6, 2) := by decide +kernel
theorem dX12_sum_191 : decode cX12_sum 191 = .ok (.iload_n 2, 1) := by decide +kernel
theorem dX12_sum_192 : decode cX12_sum 192 = .ok (.invokevirtual 321, 3) := by decide +kernel
theorem dX12_sum_195 : decode cX12_sum 195 = .ok (.iinc 7 1, 3) := by decide +kernel
theorem dX12_sum_198 : decode cX12_sum 198 = .ok (.goto (-102), 3) := by decide +kernel
theorem dX12_sum_201 : decode cX12_sum 201 = .ok (.aload_n 0, 1) := by decide +kernel
theorem dX12_sum_202 : decode cX12_sum 202 = .ok (.dup, 1) := by decide +kernel
theorem dX12_sum_203 : decode cX12_sum 203 = .ok (.getfield 358, 3) := by decide +kernel
theorem dX12_sum_206 : decode cX12_sum 206 = .ok (.iconst 1, 1) := by decide +kernel
theorem dX12_sum_207 : decode cX12_sum 207 = .ok (.isub, 1) := by decide +kernel
theorem dX12_sum_208 : decode cX12_sum 208 = .ok (.putfield 358, 3) := by decide +kernel
theorem dX12_sum_211 : decode cX12_sum 211 = .ok (.aload_n 0, 1) := by decide +kernel
theorem dX12_sum_212 : decode cX12_sum 212 = .ok (.dup, 1) := by decide +kernel
theorem dX12_sum_213 : decode cX12_sum 213 = .ok (.getfield 315, 3) := by decide +kernel
theorem dX12_sum_216 : decode cX12_sum 216 = .ok (.iconst 1, 1) := by decide +kernel
theorem dX12_sum_217 : decode cX12_sum 217 = .ok (.iadd, 1) := by decide +kernel
theorem dX12_sum_218 : decode cX12_sum 218 = .ok (.putfield 315, 3) := by decide +kernel
theorem dX12_sum_221 : decode cX12_sum 221 = .ok (.return_, 1) := by decide +kernel
theorem w_125 : Cond.selects RX12 yX12_add_ yX12_add_ ∈ tb := sel_8 (q := (yX12_add_, 105)) 13 (by decide +kernel)
theorem w_129 : Cond.selects RX12 yX12_setHere yX12_setHere ∈ tb := sel_9 (q := (yX12_setHere, 105)) 1 (by decide +kernel)
theorem w_2386 : Cond.methodLink RX12 404 yX12_add_ ∈ tb := tbc_10 23 (by decide +kernel) rfl
theorem w_2388 : Cond.instanceMethod yX12_add_ ∈ tb := tbc_10 25 (by decide +kernel) rfl
theorem w_2389 : Cond.code yX12_add_ cX12_add_ 3 (some .int) ∈ tb := tbc_10 26 (by decide +kernel) rfl
theorem w_2402 : Cond.methodLink RX12 364 yX12_setHere ∈ tb := tbc_10 39 (by decide +kernel) rfl
theorem w_2404 : Cond.instanceMethod yX12_setHere ∈ tb := tbc_10 41 (by decide +kernel) rfl
theorem w_2405 : Cond.code yX12_setHere cX12_setHere 2 (some .int) ∈ tb := tbc_10 42 (by decide +kernel) rfl
section RW86998
variable {p : Program} {l : Launch} {e : Env} {R : Room} {s : State} {m : MethodId} {args : Array Value} {below : List Frame} {meth : Method} {c : Code} {H : Heap} {locs : List Loc} {cells slots : Nat} {Q : State → Prop}
variable {cc : ByteArray} {pc nL : Nat} {ls : Array Slot} {rest st0 : List Value} {G : sG} {n : Nat} {S : sS}
theorem c_X12_404 (Cx : sC G p m c cc nL s args RX12) {rm : Room} {mc ms : Nat} (h1 : rm.cells = mc) (h2 : rm.slots = ms) (h3 : rm.frames + 1 ≤ R.frames ∧ 8 + (3 + 11) + rm.locals ≤ R.locals) : CallW R s args RX12 RX12 404 yX12_add_ cX12_add_ 3 (some .int) (.code yX12_add_ cX12_add_ 3 (some .int) :: tb) rm mc ms 2 :=
  sCw Cx 2 w_2386 w_2388 w_125 w_217 w_2389 (by decide +kernel) h1 h2 h3
theorem c_X12_364 (Cx : sC G p m c cc nL s args RX12) {rm : Room} {mc ms : Nat} (h1 : rm.cells = mc) (h2 : rm.slots = ms) (h3 : rm.frames + 1 ≤ R.frames ∧ 8 + (2 + 11) + rm.locals ≤ R.locals) : CallW R s args RX12 RX12 364 yX12_setHere cX12_setHere 2 (some .int) (.code yX12_setHere cX12_setHere 2 (some .int) :: tb) rm mc ms 0 :=
  sCw Cx 0 w_2402 w_2404 w_129 w_217 w_2405 (by decide +kernel) h1 h2 h3
end RW86998
