theorem dX12_tellRow_0 : decode cX12_tellRow 0 = .ok (.aload_n 0, 1) := by decide +kernel
theorem dX12_tellRow_1 : decode cX12_tellRow 1 = .ok (.getfield 315, 3) := by decide +kernel
theorem dX12_tellRow_4 : decode cX12_tellRow 4 = .ok (.iconst 1, 1) := by decide +kernel
theorem dX12_tellRow_5 : decode cX12_tellRow 5 = .ok (.iadd, 1) := by decide +kernel
theorem dX12_tellRow_6 : decode cX12_tellRow 6 = .ok (.istore_n 1, 1) := by decide +kernel
theorem dX12_tellRow_7 : decode cX12_tellRow 7 = .ok (.aload_n 0, 1) := by decide +kernel
theorem dX12_tellRow_8 : decode cX12_tellRow 8 = .ok (.iload_n 1, 1) := by decide +kernel
theorem dX12_tellRow_9 : decode cX12_tellRow 9 = .ok (.iconst 4, 1) := by decide +kernel
theorem dX12_tellRow_10 : decode cX12_tellRow 10 = .ok (.invokevirtual 404, 3) := by decide +kernel
theorem dX12_tellRow_13 : decode cX12_tellRow 13 = .ok (.istore_n 2, 1) := by decide +kernel
theorem dX12_tellRow_14 : decode cX12_tellRow 14 = .ok (.aload_n 0, 1) := by decide +kernel
theorem dX12_tellRow_15 : decode cX12_tellRow 15 = .ok (.getfield 270, 3) := by decide +kernel
theorem dX12_tellRow_18 : decode cX12_tellRow 18 = .ok (.ifCond .eq 4, 3) := by decide +kernel
theorem dX12_tellRow_21 : decode cX12_tellRow 21 = .ok (.return_, 1) := by decide +kernel
theorem dX12_tellRow_22 : decode cX12_tellRow 22 = .ok (.aload_n 0, 1) := by decide +kernel
theorem dX12_tellRow_23 : decode cX12_tellRow 23 = .ok (.dup, 1) := by decide +kernel
theorem dX12_tellRow_24 : decode cX12_tellRow 24 = .ok (.getfield 315, 3) := by decide +kernel
theorem dX12_tellRow_27 : decode cX12_tellRow 27 = .ok (.iconst 2, 1) := by decide +kernel
theorem dX12_tellRow_28 : decode cX12_tellRow 28 = .ok (.iadd, 1) := by decide +kernel
theorem dX12_tellRow_29 : decode cX12_tellRow 29 = .ok (.putfield 315, 3) := by decide +kernel
theorem dX12_tellRow_32 : decode cX12_tellRow 32 = .ok (.iconst (-1), 1) := by decide +kernel
theorem dX12_tellRow_33 : decode cX12_tellRow 33 = .ok (.istore_n 3, 1) := by decide +kernel
theorem dX12_tellRow_34 : decode cX12_tellRow 34 = .ok (.iconst (-1), 1) := by decide +kernel
theorem dX12_tellRow_35 : decode cX12_tellRow 35 = .ok (.istore 4, 2) := by decide +kernel
theorem dX12_tellRow_37 : decode cX12_tellRow 37 = .ok (.aload_n 0, 1) := by decide +kernel
theorem dX12_tellRow_38 : decode cX12_tellRow 38 = .ok (.bipush 91, 2) := by decide +kernel
theorem dX12_tellRow_40 : decode cX12_tellRow 40 = .ok (.invokevirtual 318, 3) := by decide +kernel
theorem dX12_tellRow_43 : decode cX12_tellRow 43 = .ok (.ifCond .eq 57, 3) := by decide +kernel
theorem dX12_tellRow_46 : decode cX12_tellRow 46 = .ok (.aload_n 0, 1) := by decide +kernel
theorem dX12_tellRow_47 : decode cX12_tellRow 47 = .ok (.dup, 1) := by decide +kernel
theorem dX12_tellRow_48 : decode cX12_tellRow 48 = .ok (.getfield 315, 3) := by decide +kernel
theorem dX12_tellRow_51 : decode cX12_tellRow 51 = .ok (.iconst 1, 1) := by decide +kernel
theorem dX12_tellRow_52 : decode cX12_tellRow 52 = .ok (.iadd, 1) := by decide +kernel
theorem dX12_tellRow_53 : decode cX12_tellRow 53 = .ok (.putfield 315, 3) := by decide +kernel
theorem dX12_tellRow_56 : decode cX12_tellRow 56 = .ok (.aload_n 0, 1) := by decide +kernel
theorem dX12_tellRow_57 : decode cX12_tellRow 57 = .ok (.aload_n 0, 1) := by decide +kernel
theorem dX12_tellRow_58 : decode cX12_tellRow 58 = .ok (.getfield 315, 3) := by decide +kernel
theorem dX12_tellRow_61 : decode cX12_tellRow 61 = .ok (.iconst 5, 1) := by decide +kernel
theorem dX12_tellRow_62 : decode cX12_tellRow 62 = .ok (.invokevirtual 404, 3) := by decide +kernel
theorem dX12_tellRow_65 : decode cX12_tellRow 65 = .ok (.istore_n 3, 1) := by decide +kernel
theorem dX12_tellRow_66 : decode cX12_tellRow 66 = .ok (.aload_n 0, 1) := by decide +kernel
theorem dX12_tellRow_67 : decode cX12_tellRow 67 = .ok (.dup, 1) := by decide +kernel
theorem dX12_tellRow_68 : decode cX12_tellRow 68 = .ok (.getfield 315, 3) := by decide +kernel
theorem dX12_tellRow_71 : decode cX12_tellRow 71 = .ok (.iconst 2, 1) := by decide +kernel
theorem dX12_tellRow_72 : decode cX12_tellRow 72 = .ok (.iadd, 1) := by decide +kernel
theorem dX12_tellRow_73 : decode cX12_tellRow 73 = .ok (.putfield 315, 3) := by decide +kernel
theorem dX12_tellRow_76 : decode cX12_tellRow 76 = .ok (.aload_n 0, 1) := by decide +kernel
theorem dX12_tellRow_77 : decode cX12_tellRow 77 = .ok (.invokevirtual 364, 3) := by decide +kernel
theorem dX12_tellRow_80 : decode cX12_tellRow 80 = .ok (.istore 4, 2) := by decide +kernel
theorem dX12_tellRow_82 : decode cX12_tellRow 82 = .ok (.aload_n 0, 1) := by decide +kernel
theorem dX12_tellRow_83 : decode cX12_tellRow 83 = .ok (.dup, 1) := by decide +kernel
theorem dX12_tellRow_84 : decode cX12_tellRow 84 = .ok (.getfield 315, 3) := by decide +kernel
theorem dX12_tellRow_87 : decode cX12_tellRow 87 = .ok (.iconst 1, 1) := by decide +kernel
theorem dX12_tellRow_88 : decode cX12_tellRow 88 = .ok (.iadd, 1) := by decide +kernel
theorem dX12_tellRow_89 : decode cX12_tellRow 89 = .ok (.putfield 315, 3) := by decide +kernel
theorem dX12_tellRow_92 : decode cX12_tellRow 92 = .ok (.aload_n 0, 1) := by decide +kernel
theorem dX12_tellRow_93 : decode cX12_tellRow 93 = .ok (.getfield 270, 3) := by decide +kernel
theorem dX12_tellRow_96 : decode cX12_tellRow 96 = .ok (.ifCond .eq 4, 3) := by decide +kernel
theorem dX12_tellRow_99 : decode cX12_tellRow 99 = .ok (.return_, 1) := by decide +kernel
theorem dX12_tellRow_100 : decode cX12_tellRow 100 = .ok (.aload_n 0, 1) := by decide +kernel
theorem dX12_tellRow_101 : decode cX12_tellRow 101 = .ok (.dup, 1) := by decide +kernel
theorem dX12_tellRow_102 : decode cX12_tellRow 102 = .ok (.getfield 315, 3) := by decide +kernel
theorem dX12_tellRow_105 : decode cX12_tellRow 105 = .ok (.iconst 1, 1) := by decide +kernel
theorem dX12_tellRow_106 : decode cX12_tellRow 106 = .ok (.iadd, 1) := by decide +kernel
theorem dX12_tellRow_107 : decode cX12_tellRow 107 = .ok (.putfield 315, 3) := by decide +kernel
theorem dX12_tellRow_110 : decode cX12_tellRow 110 = .ok (.aload_n 0, 1) := by decide +kernel
theorem dX12_tellRow_111 : decode cX12_tellRow 111 = .ok (.getfield 315, 3) := by decide +kernel
theorem dX12_tellRow_114 : decode cX12_tellRow 114 = .ok (.istore 5, 2) := by decide +kernel
theorem dX12_tellRow_116 : decode cX12_tellRow 116 = .ok (.iload 4, 2) := by decide +kernel
theorem dX12_tellRow_118 : decode cX12_tellRow 118 = .ok (.iconst (-1), 1) := by decide +kernel
theorem dX12_tellRow_119 : decode cX12_tellRow 119 = .ok (.if_icmp .ne 7, 3) := by decide +kernel
theorem dX12_tellRow_122 : decode cX12_tellRow 122 = .ok (.iconst 0, 1) := by decide +kernel
theorem dX12_tellRow_123 : decode cX12_tellRow 123 = .ok (.goto 10, 3) := by decide +kernel
theorem dX12_tellRow_126 : decode cX12_tellRow 126 = .ok (.aload_n 0, 1) := by decide +kernel
theorem dX12_tellRow_127 : decode cX12_tellRow 127 = .ok (.getfield 65, 3) := by decide +kernel
theorem dX12_tellRow_130 : decode cX12_tellRow 130 = .ok (.iload 4, 2) := by decide +kernel
theorem dX12_tellRow_132 : decode cX12_tellRow 132 = .ok (.iaload, 1) := by decide +kernel
theorem dX12_tellRow_133 : decode cX12_tellRow 133 = .ok (.istore 6, 2) := by decide +kernel
theorem dX12_tellRow_135 : decode cX12_tellRow 135 = .ok (.iload 4, 2) := by decide +kernel
theorem dX12_tellRow_137 : decode cX12_tellRow 137 = .ok (.iconst (-1), 1) := by decide +kernel
theorem dX12_tellRow_138 : decode cX12_tellRow 138 = .ok (.if_icmp .ne 7, 3) := by decide +kernel
theorem dX12_tellRow_141 : decode cX12_tellRow 141 = .ok (.iconst 0, 1) := by decide +kernel
theorem dX12_tellRow_142 : decode cX12_tellRow 142 = .ok (.goto 10, 3) := by decide +kernel
theorem dX12_tellRow_145 : decode cX12_tellRow 145 = .ok (.aload_n 0, 1) := by decide +kernel
theorem dX12_tellRow_146 : decode cX12_tellRow 146 = .ok (.getfield 68, 3) := by decide +kernel
theorem dX12_tellRow_149 : decode cX12_tellRow 149 = .ok (.iload 4, 2) := by decide +kernel
theorem dX12_tellRow_151 : decode cX12_tellRow 151 = .ok (.iaload, 1) := by decide +kernel
theorem dX12_tellRow_152 : decode cX12_tellRow 152 = .ok (.istore 7, 2) := by decide +kernel
theorem dX12_tellRow_154 : decode cX12_tellRow 154 = .ok (.iload 6, 2) := by decide +kernel
theorem dX12_tellRow_156 : decode cX12_tellRow 156 = .ok (.istore 8, 2) := by decide +kernel
theorem dX12_tellRow_158 : decode cX12_tellRow 158 = .ok (.iload 8, 2) := by decide +kernel
theorem dX12_tellRow_160 : decode cX12_tellRow 160 = .ok (.iload 7, 2) := by decide +kernel
theorem dX12_tellRow_162 : decode cX12_tellRow 162 = .ok (.if_icmp .gt 40, 3) := by decide +kernel
theorem dX12_tellRow_165 : decode cX12_tellRow 165 = .ok (.aload_n 0, 1) := by decide +kernel
theorem dX12_tellRow_166 : decode cX12_tellRow 166 = .ok (.getfield 270, 3) := by decide +kernel
theorem dX12_tellRow_169 : decode cX12_tellRow 169 = .ok (.ifCond .ne 33, 3) := by decide +kernel
theorem dX12_tellRow_172 : decode cX12_tellRow 172 = .ok (.iload_n 3, 1) := by decide +kernel
theorem dX12_tellRow_173 : decode cX12_tellRow 173 = .ok (.iconst (-1), 1) := by decide +kernel
theorem dX12_tellRow_174 : decode cX12_tellRow 174 = .ok (.if_icmp .eq 11, 3) := by decide +kernel
theorem dX12_tellRow_177 : decode cX12_tellRow 177 = .ok (.aload_n 0, 1) := by decide +kernel
theorem dX12_tellRow_178 : decode cX12_tellRow 178 = .ok (.getfield 71, 3) := by decide +kernel
theorem dX12_tellRow_181 : decode cX12_tellRow 181 = .ok (.iload_n 3, 1) := by decide +kernel
theorem dX12_tellRow_182 : decode cX12_tellRow 182 = .ok (.iload 8, 2) := by decide +kernel
theorem dX12_tellRow_184 : decode cX12_tellRow 184 = .ok (.iastore, 1) := by decide +kernel
theorem dX12_tellRow_185 : decode cX12_tellRow 185 = .ok (.aload_n 0, 1) := by decide +kernel
theorem dX12_tellRow_186 : decode cX12_tellRow 186 = .ok (.iload 5, 2) := by decide +kernel
theorem dX12_tellRow_188 : decode cX12_tellRow 188 = .ok (.putfield 315, 3) := by decide +kernel
theorem dX12_tellRow_191 : decode cX12_tellRow 191 = .ok (.aload_n 0, 1) := by decide +kernel
theorem dX12_tellRow_192 : decode cX12_tellRow 192 = .ok (.iload_n 1, 1) := by decide +kernel
theorem dX12_tellRow_193 : decode cX12_tellRow 193 = .ok (.invokevirtual 413, 3) := by decide +kernel
theorem dX12_tellRow_196 : decode cX12_tellRow 196 = .ok (.iinc 8 1, 3) := by decide +kernel
theorem dX12_tellRow_199 : decode cX12_tellRow 199 = .ok (.goto (-41), 3) := by decide +kernel
theorem dX12_tellRow_202 : decode cX12_tellRow 202 = .ok (.iload_n 3, 1) := by decide +kernel
theorem dX12_tellRow_203 : decode cX12_tellRow 203 = .ok (.iconst (-1), 1) := by decide +kernel
theorem dX12_tellRow_204 : decode cX12_tellRow 204 = .ok (.if_icmp .eq 13, 3) := by decide +kernel
theorem dX12_tellRow_207 : decode cX12_tellRow 207 = .ok (.aload_n 0, 1) := by decide +kernel
theorem dX12_tellRow_208 : decode cX12_tellRow 208 = .ok (.dup, 1) := by decide +kernel
theorem dX12_tellRow_209 : decode cX12_tellRow 209 = .ok (.getfield 358, 3) := by decide +kernel
theorem dX12_tellRow_212 : decode cX12_tellRow 212 = .ok (.iconst 1, 1) := by decide +kernel
theorem dX12_tellRow_213 : decode cX12_tellRow 213 = .ok (.isub, 1) := by decide +kernel
theorem dX12_tellRow_214 : decode cX12_tellRow 214 = .ok (.putfield 358, 3) := by decide +kernel
theorem dX12_tellRow_217 : decode cX12_tellRow 217 = .ok (.return_, 1) := by decide +kernel
theorem w_142 : Cond.selects RX12 yX12_oneRow yX12_oneRow ∈ tb := sel_9 (q := (yX12_oneRow, 105)) 14 (by decide +kernel)
theorem w_2456 : Cond.methodLink RX12 413 yX12_oneRow ∈ tb := tbc_10 93 (by decide +kernel) rfl
theorem w_2458 : Cond.instanceMethod yX12_oneRow ∈ tb := tbc_10 95 (by decide +kernel) rfl
theorem w_2459 : Cond.code yX12_oneRow cX12_oneRow 8 none ∈ tb := tbc_10 96 (by decide +kernel) rfl
section RW78
variable {p : Program} {l : Launch} {e : Env} {R : Room} {s : State} {m : MethodId} {args : Array Value} {below : List Frame} {meth : Method} {c : Code} {H : Heap} {locs : List Loc} {cells slots : Nat} {Q : State → Prop}
variable {cc : ByteArray} {pc nL : Nat} {ls : Array Slot} {rest st0 : List Value} {G : sG} {n : Nat} {S : sS}
theorem c_X12_413 (Cx : sC G p m c cc nL s args RX12) {rm : Room} {mc ms : Nat} (h1 : rm.cells = mc) (h2 : rm.slots = ms) (h3 : rm.frames + 1 ≤ R.frames ∧ 8 + (8 + 11) + rm.locals ≤ R.locals) : CallW R s args RX12 RX12 413 yX12_oneRow cX12_oneRow 8 none (.code yX12_oneRow cX12_oneRow 8 none :: tb) rm mc ms 1 :=
  sCw Cx 1 w_2456 w_2458 w_142 w_217 w_2459 (by decide +kernel) h1 h2 h3
end RW78
