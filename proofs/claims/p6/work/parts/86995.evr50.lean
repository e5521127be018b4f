theorem dX12_expression_0 : decode cX12_expression 0 = .ok (.aload_n 0, 1) := by decide +kernel
theorem dX12_expression_1 : decode cX12_expression 1 = .ok (.iload_n 1, 1) := by decide +kernel
theorem dX12_expression_2 : decode cX12_expression 2 = .ok (.invokevirtual 423, 3) := by decide +kernel
theorem dX12_expression_5 : decode cX12_expression 5 = .ok (.iload_n 1, 1) := by decide +kernel
theorem dX12_expression_6 : decode cX12_expression 6 = .ok (.bipush 12, 2) := by decide +kernel
theorem dX12_expression_8 : decode cX12_expression 8 = .ok (.iadd, 1) := by decide +kernel
theorem dX12_expression_9 : decode cX12_expression 9 = .ok (.iconst 1, 1) := by decide +kernel
theorem dX12_expression_10 : decode cX12_expression 10 = .ok (.iadd, 1) := by decide +kernel
theorem dX12_expression_11 : decode cX12_expression 11 = .ok (.istore_n 2, 1) := by decide +kernel
theorem dX12_expression_12 : decode cX12_expression 12 = .ok (.aload_n 0, 1) := by decide +kernel
theorem dX12_expression_13 : decode cX12_expression 13 = .ok (.getfield 270, 3) := by decide +kernel
theorem dX12_expression_16 : decode cX12_expression 16 = .ok (.ifCond .ne 127, 3) := by decide +kernel
theorem dX12_expression_19 : decode cX12_expression 19 = .ok (.aload_n 0, 1) := by decide +kernel
theorem dX12_expression_20 : decode cX12_expression 20 = .ok (.bipush 43, 2) := by decide +kernel
theorem dX12_expression_22 : decode cX12_expression 22 = .ok (.invokevirtual 318, 3) := by decide +kernel
theorem dX12_expression_25 : decode cX12_expression 25 = .ok (.ifCond .ne 12, 3) := by decide +kernel
theorem dX12_expression_28 : decode cX12_expression 28 = .ok (.aload_n 0, 1) := by decide +kernel
theorem dX12_expression_29 : decode cX12_expression 29 = .ok (.bipush 45, 2) := by decide +kernel
theorem dX12_expression_31 : decode cX12_expression 31 = .ok (.invokevirtual 318, 3) := by decide +kernel
theorem dX12_expression_34 : decode cX12_expression 34 = .ok (.ifCond .eq 109, 3) := by decide +kernel
theorem dX12_expression_37 : decode cX12_expression 37 = .ok (.aload_n 0, 1) := by decide +kernel
theorem dX12_expression_38 : decode cX12_expression 38 = .ok (.getfield 315, 3) := by decide +kernel
theorem dX12_expression_41 : decode cX12_expression 41 = .ok (.istore_n 3, 1) := by decide +kernel
theorem dX12_expression_42 : decode cX12_expression 42 = .ok (.aload_n 0, 1) := by decide +kernel
theorem dX12_expression_43 : decode cX12_expression 43 = .ok (.dup, 1) := by decide +kernel
theorem dX12_expression_44 : decode cX12_expression 44 = .ok (.getfield 315, 3) := by decide +kernel
theorem dX12_expression_47 : decode cX12_expression 47 = .ok (.iconst 1, 1) := by decide +kernel
theorem dX12_expression_48 : decode cX12_expression 48 = .ok (.iadd, 1) := by decide +kernel
theorem dX12_expression_49 : decode cX12_expression 49 = .ok (.putfield 315, 3) := by decide +kernel
theorem dX12_expression_52 : decode cX12_expression 52 = .ok (.aload_n 0, 1) := by decide +kernel
theorem dX12_expression_53 : decode cX12_expression 53 = .ok (.iload_n 2, 1) := by decide +kernel
theorem dX12_expression_54 : decode cX12_expression 54 = .ok (.invokevirtual 423, 3) := by decide +kernel
theorem dX12_expression_57 : decode cX12_expression 57 = .ok (.iconst 0, 1) := by decide +kernel
theorem dX12_expression_58 : decode cX12_expression 58 = .ok (.istore 4, 2) := by decide +kernel
theorem dX12_expression_60 : decode cX12_expression 60 = .ok (.iload 4, 2) := by decide +kernel
theorem dX12_expression_62 : decode cX12_expression 62 = .ok (.bipush 12, 2) := by decide +kernel
theorem dX12_expression_64 : decode cX12_expression 64 = .ok (.if_icmp .gt 54, 3) := by decide +kernel
theorem dX12_expression_67 : decode cX12_expression 67 = .ok (.aload_n 0, 1) := by decide +kernel
theorem dX12_expression_68 : decode cX12_expression 68 = .ok (.getfield 88, 3) := by decide +kernel
theorem dX12_expression_71 : decode cX12_expression 71 = .ok (.iload_n 1, 1) := by decide +kernel
theorem dX12_expression_72 : decode cX12_expression 72 = .ok (.iload 4, 2) := by decide +kernel
theorem dX12_expression_74 : decode cX12_expression 74 = .ok (.iadd, 1) := by decide +kernel
theorem dX12_expression_75 : decode cX12_expression 75 = .ok (.dup2, 1) := by decide +kernel
theorem dX12_expression_76 : decode cX12_expression 76 = .ok (.laload, 1) := by decide +kernel
theorem dX12_expression_77 : decode cX12_expression 77 = .ok (.aload_n 0, 1) := by decide +kernel
theorem dX12_expression_78 : decode cX12_expression 78 = .ok (.getfield 56, 3) := by decide +kernel
theorem dX12_expression_81 : decode cX12_expression 81 = .ok (.iload_n 3, 1) := by decide +kernel
theorem dX12_expression_82 : decode cX12_expression 82 = .ok (.iaload, 1) := by decide +kernel
theorem dX12_expression_83 : decode cX12_expression 83 = .ok (.bipush 43, 2) := by decide +kernel
theorem dX12_expression_85 : decode cX12_expression 85 = .ok (.if_icmp .ne 15, 3) := by decide +kernel
theorem dX12_expression_88 : decode cX12_expression 88 = .ok (.aload_n 0, 1) := by decide +kernel
theorem dX12_expression_89 : decode cX12_expression 89 = .ok (.getfield 88, 3) := by decide +kernel
theorem dX12_expression_92 : decode cX12_expression 92 = .ok (.iload_n 2, 1) := by decide +kernel
theorem dX12_expression_93 : decode cX12_expression 93 = .ok (.iload 4, 2) := by decide +kernel
theorem dX12_expression_95 : decode cX12_expression 95 = .ok (.iadd, 1) := by decide +kernel
theorem dX12_expression_96 : decode cX12_expression 96 = .ok (.laload, 1) := by decide +kernel
theorem dX12_expression_97 : decode cX12_expression 97 = .ok (.goto 13, 3) := by decide +kernel
theorem dX12_expression_100 : decode cX12_expression 100 = .ok (.aload_n 0, 1) := by decide +kernel
theorem dX12_expression_101 : decode cX12_expression 101 = .ok (.getfield 88, 3) := by decide +kernel
theorem dX12_expression_104 : decode cX12_expression 104 = .ok (.iload_n 2, 1) := by decide +kernel
theorem dX12_expression_105 : decode cX12_expression 105 = .ok (.iload 4, 2) := by decide +kernel
theorem dX12_expression_107 : decode cX12_expression 107 = .ok (.iadd, 1) := by decide +kernel
theorem dX12_expression_108 : decode cX12_expression 108 = .ok (.laload, 1) := by decide +kernel
theorem dX12_expression_109 : decode cX12_expression 109 = .ok (.lneg, 1) := by decide +kernel
theorem dX12_expression_110 : decode cX12_expression 110 = .ok (.ladd, 1) := by decide +kernel
theorem dX12_expression_111 : decode cX12_expression 111 = .ok (.lastore, 1) := by decide +kernel
theorem dX12_expression_112 : decode cX12_expression 112 = .ok (.iinc 4 1, 3) := by decide +kernel
theorem dX12_expression_115 : decode cX12_expression 115 = .ok (.goto (-55), 3) := by decide +kernel
theorem dX12_expression_118 : decode cX12_expression 118 = .ok (.aload_n 0, 1) := by decide +kernel
theorem dX12_expression_119 : decode cX12_expression 119 = .ok (.getfield 270, 3) := by decide +kernel
theorem dX12_expression_122 : decode cX12_expression 122 = .ok (.ifCond .ne 18, 3) := by decide +kernel
theorem dX12_expression_125 : decode cX12_expression 125 = .ok (.aload_n 0, 1) := by decide +kernel
theorem dX12_expression_126 : decode cX12_expression 126 = .ok (.iload_n 1, 1) := by decide +kernel
theorem dX12_expression_127 : decode cX12_expression 127 = .ok (.invokevirtual 416, 3) := by decide +kernel
theorem dX12_expression_130 : decode cX12_expression 130 = .ok (.ifCond .eq 10, 3) := by decide +kernel
theorem dX12_expression_133 : decode cX12_expression 133 = .ok (.aload_n 0, 1) := by decide +kernel
theorem dX12_expression_134 : decode cX12_expression 134 = .ok (.bipush 6, 2) := by decide +kernel
theorem dX12_expression_136 : decode cX12_expression 136 = .ok (.iload_n 3, 1) := by decide +kernel
theorem dX12_expression_137 : decode cX12_expression 137 = .ok (.invokevirtual 321, 3) := by decide +kernel
theorem dX12_expression_140 : decode cX12_expression 140 = .ok (.goto (-128), 3) := by decide +kernel
theorem dX12_expression_143 : decode cX12_expression 143 = .ok (.return_, 1) := by decide +kernel
theorem w_133 : Cond.selects RX12 yX12_product yX12_product ∈ tb := sel_9 (q := (yX12_product, 105)) 5 (by decide +kernel)
theorem w_2418 : Cond.methodLink RX12 423 yX12_product ∈ tb := tbc_10 55 (by decide +kernel) rfl
theorem w_2420 : Cond.instanceMethod yX12_product ∈ tb := tbc_10 57 (by decide +kernel) rfl
theorem w_2421 : Cond.code yX12_product cX12_product 8 none ∈ tb := tbc_10 58 (by decide +kernel) rfl
section RW86995
variable {p : Program} {l : Launch} {e : Env} {R : Room} {s : State} {m : MethodId} {args : Array Value} {below : List Frame} {meth : Method} {c : Code} {H : Heap} {locs : List Loc} {cells slots : Nat} {Q : State → Prop}
variable {cc : ByteArray} {pc nL : Nat} {ls : Array Slot} {rest st0 : List Value} {G : sG} {n : Nat} {S : sS}
theorem c_X12_423 (Cx : sC G p m c cc nL s args RX12) {rm : Room} {mc ms : Nat} (h1 : rm.cells = mc) (h2 : rm.slots = ms) (h3 : rm.frames + 1 ≤ R.frames ∧ 8 + (8 + 11) + rm.locals ≤ R.locals) : CallW R s args RX12 RX12 423 yX12_product cX12_product 8 none (.code yX12_product cX12_product 8 none :: tb) rm mc ms 1 :=
  sCw Cx 1 w_2418 w_2420 w_133 w_217 w_2421 (by decide +kernel) h1 h2 h3
end RW86995
