theorem dX12_product_0 : decode cX12_product 0 = .ok (.aload_n 0, 1) := by decide +kernel
theorem dX12_product_1 : decode cX12_product 1 = .ok (.iload_n 1, 1) := by decide +kernel
theorem dX12_product_2 : decode cX12_product 2 = .ok (.invokevirtual 426, 3) := by decide +kernel
theorem dX12_product_5 : decode cX12_product 5 = .ok (.iload_n 1, 1) := by decide +kernel
theorem dX12_product_6 : decode cX12_product 6 = .ok (.bipush 12, 2) := by decide +kernel
theorem dX12_product_8 : decode cX12_product 8 = .ok (.iadd, 1) := by decide +kernel
theorem dX12_product_9 : decode cX12_product 9 = .ok (.iconst 1, 1) := by decide +kernel
theorem dX12_product_10 : decode cX12_product 10 = .ok (.iadd, 1) := by decide +kernel
theorem dX12_product_11 : decode cX12_product 11 = .ok (.istore_n 2, 1) := by decide +kernel
theorem dX12_product_12 : decode cX12_product 12 = .ok (.aload_n 0, 1) := by decide +kernel
theorem dX12_product_13 : decode cX12_product 13 = .ok (.getfield 270, 3) := by decide +kernel
theorem dX12_product_16 : decode cX12_product 16 = .ok (.ifCond .ne 161, 3) := by decide +kernel
theorem dX12_product_19 : decode cX12_product 19 = .ok (.aload_n 0, 1) := by decide +kernel
theorem dX12_product_20 : decode cX12_product 20 = .ok (.bipush 42, 2) := by decide +kernel
theorem dX12_product_22 : decode cX12_product 22 = .ok (.invokevirtual 318, 3) := by decide +kernel
theorem dX12_product_25 : decode cX12_product 25 = .ok (.ifCond .eq 152, 3) := by decide +kernel
theorem dX12_product_28 : decode cX12_product 28 = .ok (.aload_n 0, 1) := by decide +kernel
theorem dX12_product_29 : decode cX12_product 29 = .ok (.getfield 315, 3) := by decide +kernel
theorem dX12_product_32 : decode cX12_product 32 = .ok (.istore_n 3, 1) := by decide +kernel
theorem dX12_product_33 : decode cX12_product 33 = .ok (.aload_n 0, 1) := by decide +kernel
theorem dX12_product_34 : decode cX12_product 34 = .ok (.dup, 1) := by decide +kernel
theorem dX12_product_35 : decode cX12_product 35 = .ok (.getfield 315, 3) := by decide +kernel
theorem dX12_product_38 : decode cX12_product 38 = .ok (.iconst 1, 1) := by decide +kernel
theorem dX12_product_39 : decode cX12_product 39 = .ok (.iadd, 1) := by decide +kernel
theorem dX12_product_40 : decode cX12_product 40 = .ok (.putfield 315, 3) := by decide +kernel
theorem dX12_product_43 : decode cX12_product 43 = .ok (.aload_n 0, 1) := by decide +kernel
theorem dX12_product_44 : decode cX12_product 44 = .ok (.iload_n 2, 1) := by decide +kernel
theorem dX12_product_45 : decode cX12_product 45 = .ok (.invokevirtual 426, 3) := by decide +kernel
theorem dX12_product_48 : decode cX12_product 48 = .ok (.aload_n 0, 1) := by decide +kernel
theorem dX12_product_49 : decode cX12_product 49 = .ok (.getfield 270, 3) := by decide +kernel
theorem dX12_product_52 : decode cX12_product 52 = .ok (.ifCond .eq 4, 3) := by decide +kernel
theorem dX12_product_55 : decode cX12_product 55 = .ok (.return_, 1) := by decide +kernel
theorem dX12_product_56 : decode cX12_product 56 = .ok (.aload_n 0, 1) := by decide +kernel
theorem dX12_product_57 : decode cX12_product 57 = .ok (.iload_n 1, 1) := by decide +kernel
theorem dX12_product_58 : decode cX12_product 58 = .ok (.invokevirtual 428, 3) := by decide +kernel
theorem dX12_product_61 : decode cX12_product 61 = .ok (.istore 4, 2) := by decide +kernel
theorem dX12_product_63 : decode cX12_product 63 = .ok (.iload 4, 2) := by decide +kernel
theorem dX12_product_65 : decode cX12_product 65 = .ok (.ifCond .eq 18, 3) := by decide +kernel
theorem dX12_product_68 : decode cX12_product 68 = .ok (.aload_n 0, 1) := by decide +kernel
theorem dX12_product_69 : decode cX12_product 69 = .ok (.iload_n 2, 1) := by decide +kernel
theorem dX12_product_70 : decode cX12_product 70 = .ok (.invokevirtual 428, 3) := by decide +kernel
theorem dX12_product_73 : decode cX12_product 73 = .ok (.ifCond .eq 10, 3) := by decide +kernel
theorem dX12_product_76 : decode cX12_product 76 = .ok (.aload_n 0, 1) := by decide +kernel
theorem dX12_product_77 : decode cX12_product 77 = .ok (.iconst 4, 1) := by decide +kernel
theorem dX12_product_78 : decode cX12_product 78 = .ok (.iload_n 3, 1) := by decide +kernel
theorem dX12_product_79 : decode cX12_product 79 = .ok (.invokevirtual 321, 3) := by decide +kernel
theorem dX12_product_82 : decode cX12_product 82 = .ok (.return_, 1) := by decide +kernel
theorem dX12_product_83 : decode cX12_product 83 = .ok (.iload 4, 2) := by decide +kernel
theorem dX12_product_85 : decode cX12_product 85 = .ok (.ifCond .eq 12, 3) := by decide +kernel
theorem dX12_product_88 : decode cX12_product 88 = .ok (.aload_n 0, 1) := by decide +kernel
theorem dX12_product_89 : decode cX12_product 89 = .ok (.getfield 88, 3) := by decide +kernel
theorem dX12_product_92 : decode cX12_product 92 = .ok (.iload_n 2, 1) := by decide +kernel
theorem dX12_product_93 : decode cX12_product 93 = .ok (.laload, 1) := by decide +kernel
theorem dX12_product_94 : decode cX12_product 94 = .ok (.goto 9, 3) := by decide +kernel
theorem dX12_product_97 : decode cX12_product 97 = .ok (.aload_n 0, 1) := by decide +kernel
theorem dX12_product_98 : decode cX12_product 98 = .ok (.getfield 88, 3) := by decide +kernel
theorem dX12_product_101 : decode cX12_product 101 = .ok (.iload_n 1, 1) := by decide +kernel
theorem dX12_product_102 : decode cX12_product 102 = .ok (.laload, 1) := by decide +kernel
theorem dX12_product_103 : decode cX12_product 103 = .ok (.lstore 5, 2) := by decide +kernel
theorem dX12_product_105 : decode cX12_product 105 = .ok (.iconst 0, 1) := by decide +kernel
theorem dX12_product_106 : decode cX12_product 106 = .ok (.istore 7, 2) := by decide +kernel
theorem dX12_product_108 : decode cX12_product 108 = .ok (.iload 7, 2) := by decide +kernel
theorem dX12_product_110 : decode cX12_product 110 = .ok (.bipush 12, 2) := by decide +kernel
theorem dX12_product_112 : decode cX12_product 112 = .ok (.if_icmp .gt 47, 3) := by decide +kernel
theorem dX12_product_115 : decode cX12_product 115 = .ok (.aload_n 0, 1) := by decide +kernel
theorem dX12_product_116 : decode cX12_product 116 = .ok (.getfield 88, 3) := by decide +kernel
theorem dX12_product_119 : decode cX12_product 119 = .ok (.iload_n 1, 1) := by decide +kernel
theorem dX12_product_120 : decode cX12_product 120 = .ok (.iload 7, 2) := by decide +kernel
theorem dX12_product_122 : decode cX12_product 122 = .ok (.iadd, 1) := by decide +kernel
theorem dX12_product_123 : decode cX12_product 123 = .ok (.lload 5, 2) := by decide +kernel
theorem dX12_product_125 : decode cX12_product 125 = .ok (.iload 4, 2) := by decide +kernel
theorem dX12_product_127 : decode cX12_product 127 = .ok (.ifCond .eq 15, 3) := by decide +kernel
theorem dX12_product_130 : decode cX12_product 130 = .ok (.aload_n 0, 1) := by decide +kernel
theorem dX12_product_131 : decode cX12_product 131 = .ok (.getfield 88, 3) := by decide +kernel
theorem dX12_product_134 : decode cX12_product 134 = .ok (.iload_n 1, 1) := by decide +kernel
theorem dX12_product_135 : decode cX12_product 135 = .ok (.iload 7, 2) := by decide +kernel
theorem dX12_product_137 : decode cX12_product 137 = .ok (.iadd, 1) := by decide +kernel
theorem dX12_product_138 : decode cX12_product 138 = .ok (.laload, 1) := by decide +kernel
theorem dX12_product_139 : decode cX12_product 139 = .ok (.goto 12, 3) := by decide +kernel
theorem dX12_product_142 : decode cX12_product 142 = .ok (.aload_n 0, 1) := by decide +kernel
theorem dX12_product_143 : decode cX12_product 143 = .ok (.getfield 88, 3) := by decide +kernel
theorem dX12_product_146 : decode cX12_product 146 = .ok (.iload_n 2, 1) := by decide +kernel
theorem dX12_product_147 : decode cX12_product 147 = .ok (.iload 7, 2) := by decide +kernel
theorem dX12_product_149 : decode cX12_product 149 = .ok (.iadd, 1) := by decide +kernel
theorem dX12_product_150 : decode cX12_product 150 = .ok (.laload, 1) := by decide +kernel
theorem dX12_product_151 : decode cX12_product 151 = .ok (.lmul, 1) := by decide +kernel
theorem dX12_product_152 : decode cX12_product 152 = .ok (.lastore, 1) := by decide +kernel
theorem dX12_product_153 : decode cX12_product 153 = .ok (.iinc 7 1, 3) := by decide +kernel
theorem dX12_product_156 : decode cX12_product 156 = .ok (.goto (-48), 3) := by decide +kernel
theorem dX12_product_159 : decode cX12_product 159 = .ok (.aload_n 0, 1) := by decide +kernel
theorem dX12_product_160 : decode cX12_product 160 = .ok (.iload_n 1, 1) := by decide +kernel
theorem dX12_product_161 : decode cX12_product 161 = .ok (.invokevirtual 416, 3) := by decide +kernel
theorem dX12_product_164 : decode cX12_product 164 = .ok (.ifCond .eq 10, 3) := by decide +kernel
theorem dX12_product_167 : decode cX12_product 167 = .ok (.aload_n 0, 1) := by decide +kernel
theorem dX12_product_168 : decode cX12_product 168 = .ok (.bipush 6, 2) := by decide +kernel
theorem dX12_product_170 : decode cX12_product 170 = .ok (.iload_n 3, 1) := by decide +kernel
theorem dX12_product_171 : decode cX12_product 171 = .ok (.invokevirtual 321, 3) := by decide +kernel
theorem dX12_product_174 : decode cX12_product 174 = .ok (.goto (-162), 3) := by decide +kernel
theorem dX12_product_177 : decode cX12_product 177 = .ok (.return_, 1) := by decide +kernel
theorem w_134 : Cond.selects RX12 yX12_factor yX12_factor ∈ tb := sel_9 (q := (yX12_factor, 105)) 6 (by decide +kernel)
theorem w_137 : Cond.selects RX12 yX12_isGreat yX12_isGreat ∈ tb := sel_9 (q := (yX12_isGreat, 105)) 9 (by decide +kernel)
theorem w_140 : Cond.selects RX12 yX12_hasVariables yX12_hasVariables ∈ tb := sel_9 (q := (yX12_hasVariables, 105)) 12 (by decide +kernel)
theorem w_2422 : Cond.methodLink RX12 426 yX12_factor ∈ tb := tbc_10 59 (by decide +kernel) rfl
theorem w_2424 : Cond.instanceMethod yX12_factor ∈ tb := tbc_10 61 (by decide +kernel) rfl
theorem w_2425 : Cond.code yX12_factor cX12_factor 3 none ∈ tb := tbc_10 62 (by decide +kernel) rfl
theorem w_2434 : Cond.methodLink RX12 416 yX12_isGreat ∈ tb := tbc_10 71 (by decide +kernel) rfl
theorem w_2436 : Cond.instanceMethod yX12_isGreat ∈ tb := tbc_10 73 (by decide +kernel) rfl
theorem w_2437 : Cond.code yX12_isGreat cX12_isGreat 3 (some .boolean) ∈ tb := tbc_10 74 (by decide +kernel) rfl
theorem w_2448 : Cond.methodLink RX12 428 yX12_hasVariables ∈ tb := tbc_10 85 (by decide +kernel) rfl
theorem w_2450 : Cond.instanceMethod yX12_hasVariables ∈ tb := tbc_10 87 (by decide +kernel) rfl
theorem w_2451 : Cond.code yX12_hasVariables cX12_hasVariables 3 (some .boolean) ∈ tb := tbc_10 88 (by decide +kernel) rfl
section RW86994
variable {p : Program} {l : Launch} {e : Env} {R : Room} {s : State} {m : MethodId} {args : Array Value} {below : List Frame} {meth : Method} {c : Code} {H : Heap} {locs : List Loc} {cells slots : Nat} {Q : State → Prop}
variable {cc : ByteArray} {pc nL : Nat} {ls : Array Slot} {rest st0 : List Value} {G : sG} {n : Nat} {S : sS}
theorem c_X12_426 (Cx : sC G p m c cc nL s args RX12) {rm : Room} {mc ms : Nat} (h1 : rm.cells = mc) (h2 : rm.slots = ms) (h3 : rm.frames + 1 ≤ R.frames ∧ 8 + (3 + 11) + rm.locals ≤ R.locals) : CallW R s args RX12 RX12 426 yX12_factor cX12_factor 3 none (.code yX12_factor cX12_factor 3 none :: tb) rm mc ms 1 :=
  sCw Cx 1 w_2422 w_2424 w_134 w_217 w_2425 (by decide +kernel) h1 h2 h3
theorem c_X12_428 (Cx : sC G p m c cc nL s args RX12) {rm : Room} {mc ms : Nat} (h1 : rm.cells = mc) (h2 : rm.slots = ms) (h3 : rm.frames + 1 ≤ R.frames ∧ 8 + (3 + 11) + rm.locals ≤ R.locals) : CallW R s args RX12 RX12 428 yX12_hasVariables cX12_hasVariables 3 (some .boolean) (.code yX12_hasVariables cX12_hasVariables 3 (some .boolean) :: tb) rm mc ms 1 :=
  sCw Cx 1 w_2448 w_2450 w_140 w_217 w_2451 (by decide +kernel) h1 h2 h3
theorem c_X12_416 (Cx : sC G p m c cc nL s args RX12) {rm : Room} {mc ms : Nat} (h1 : rm.cells = mc) (h2 : rm.slots = ms) (h3 : rm.frames + 1 ≤ R.frames ∧ 8 + (3 + 11) + rm.locals ≤ R.locals) : CallW R s args RX12 RX12 416 yX12_isGreat cX12_isGreat 3 (some .boolean) (.code yX12_isGreat cX12_isGreat 3 (some .boolean) :: tb) rm mc ms 1 :=
  sCw Cx 1 w_2434 w_2436 w_137 w_217 w_2437 (by decide +kernel) h1 h2 h3
end RW86994
