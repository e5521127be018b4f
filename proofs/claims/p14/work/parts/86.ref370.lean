theorem dX12_check_0 : decode cX12_check 0 = .ok (.aload_n 0, 1) := by decide +kernel
theorem dX12_check_1 : decode cX12_check 1 = .ok (.aload_n 0, 1) := by decide +kernel
theorem dX12_check_2 : decode cX12_check 2 = .ok (.getfield 202, 3) := by decide +kernel
theorem dX12_check_5 : decode cX12_check 5 = .ok (.putfield 276, 3) := by decide +kernel
theorem dX12_check_8 : decode cX12_check 8 = .ok (.aload_n 0, 1) := by decide +kernel
theorem dX12_check_9 : decode cX12_check 9 = .ok (.iconst 0, 1) := by decide +kernel
theorem dX12_check_10 : decode cX12_check 10 = .ok (.putfield 202, 3) := by decide +kernel
theorem dX12_check_13 : decode cX12_check 13 = .ok (.aload_n 0, 1) := by decide +kernel
theorem dX12_check_14 : decode cX12_check 14 = .ok (.getfield 462, 3) := by decide +kernel
theorem dX12_check_17 : decode cX12_check 17 = .ok (.ifCond .ne 5, 3) := by decide +kernel
theorem dX12_check_20 : decode cX12_check 20 = .ok (.iconst (-1), 1) := by decide +kernel
theorem dX12_check_21 : decode cX12_check 21 = .ok (.ireturn, 1) := by decide +kernel
theorem dX12_check_22 : decode cX12_check 22 = .ok (.iconst 0, 1) := by decide +kernel
theorem dX12_check_23 : decode cX12_check 23 = .ok (.istore_n 1, 1) := by decide +kernel
theorem dX12_check_24 : decode cX12_check 24 = .ok (.iload_n 1, 1) := by decide +kernel
theorem dX12_check_25 : decode cX12_check 25 = .ok (.aload_n 0, 1) := by decide +kernel
theorem dX12_check_26 : decode cX12_check 26 = .ok (.getfield 276, 3) := by decide +kernel
theorem dX12_check_29 : decode cX12_check 29 = .ok (.if_icmp .ge 21, 3) := by decide +kernel
theorem dX12_check_32 : decode cX12_check 32 = .ok (.aload_n 0, 1) := by decide +kernel
theorem dX12_check_33 : decode cX12_check 33 = .ok (.getfield 44, 3) := by decide +kernel
theorem dX12_check_36 : decode cX12_check 36 = .ok (.iload_n 1, 1) := by decide +kernel
theorem dX12_check_37 : decode cX12_check 37 = .ok (.aload_n 0, 1) := by decide +kernel
theorem dX12_check_38 : decode cX12_check 38 = .ok (.getfield 9, 3) := by decide +kernel
theorem dX12_check_41 : decode cX12_check 41 = .ok (.iload_n 1, 1) := by decide +kernel
theorem dX12_check_42 : decode cX12_check 42 = .ok (.baload, 1) := by decide +kernel
theorem dX12_check_43 : decode cX12_check 43 = .ok (.bastore, 1) := by decide +kernel
theorem dX12_check_44 : decode cX12_check 44 = .ok (.iinc 1 1, 3) := by decide +kernel
theorem dX12_check_47 : decode cX12_check 47 = .ok (.goto (-23), 3) := by decide +kernel
theorem dX12_check_50 : decode cX12_check 50 = .ok (.aload_n 0, 1) := by decide +kernel
theorem dX12_check_51 : decode cX12_check 51 = .ok (.iconst 0, 1) := by decide +kernel
theorem dX12_check_52 : decode cX12_check 52 = .ok (.putfield 270, 3) := by decide +kernel
theorem dX12_check_55 : decode cX12_check 55 = .ok (.aload_n 0, 1) := by decide +kernel
theorem dX12_check_56 : decode cX12_check 56 = .ok (.iconst (-1), 1) := by decide +kernel
theorem dX12_check_57 : decode cX12_check 57 = .ok (.putfield 273, 3) := by decide +kernel
theorem dX12_check_60 : decode cX12_check 60 = .ok (.aload_n 0, 1) := by decide +kernel
theorem dX12_check_61 : decode cX12_check 61 = .ok (.invokevirtual 709, 3) := by decide +kernel
theorem dX12_check_64 : decode cX12_check 64 = .ok (.aload_n 0, 1) := by decide +kernel
theorem dX12_check_65 : decode cX12_check 65 = .ok (.invokevirtual 712, 3) := by decide +kernel
theorem dX12_check_68 : decode cX12_check 68 = .ok (.aload_n 0, 1) := by decide +kernel
theorem dX12_check_69 : decode cX12_check 69 = .ok (.getfield 270, 3) := by decide +kernel
theorem dX12_check_72 : decode cX12_check 72 = .ok (.ifCond .ne 7, 3) := by decide +kernel
theorem dX12_check_75 : decode cX12_check 75 = .ok (.aload_n 0, 1) := by decide +kernel
theorem dX12_check_76 : decode cX12_check 76 = .ok (.invokevirtual 715, 3) := by decide +kernel
theorem dX12_check_79 : decode cX12_check 79 = .ok (.aload_n 0, 1) := by decide +kernel
theorem dX12_check_80 : decode cX12_check 80 = .ok (.aload_n 0, 1) := by decide +kernel
theorem dX12_check_81 : decode cX12_check 81 = .ok (.getfield 270, 3) := by decide +kernel
theorem dX12_check_84 : decode cX12_check 84 = .ok (.putfield 447, 3) := by decide +kernel
theorem dX12_check_87 : decode cX12_check 87 = .ok (.aload_n 0, 1) := by decide +kernel
theorem dX12_check_88 : decode cX12_check 88 = .ok (.aload_n 0, 1) := by decide +kernel
theorem dX12_check_89 : decode cX12_check 89 = .ok (.getfield 273, 3) := by decide +kernel
theorem dX12_check_92 : decode cX12_check 92 = .ok (.putfield 450, 3) := by decide +kernel
theorem dX12_check_95 : decode cX12_check 95 = .ok (.aload_n 0, 1) := by decide +kernel
theorem dX12_check_96 : decode cX12_check 96 = .ok (.getfield 270, 3) := by decide +kernel
theorem dX12_check_99 : decode cX12_check 99 = .ok (.ireturn, 1) := by decide +kernel
theorem dX12_holds_0 : decode cX12_holds 0 = .ok (.aload_n 0, 1) := by decide +kernel
theorem dX12_holds_1 : decode cX12_holds 1 = .ok (.getfield 56, 3) := by decide +kernel
theorem dX12_holds_4 : decode cX12_holds 4 = .ok (.iconst 0, 1) := by decide +kernel
theorem dX12_holds_5 : decode cX12_holds 5 = .ok (.iaload, 1) := by decide +kernel
theorem dX12_holds_6 : decode cX12_holds 6 = .ok (.istore_n 1, 1) := by decide +kernel
theorem dX12_holds_7 : decode cX12_holds 7 = .ok (.aload_n 0, 1) := by decide +kernel
theorem dX12_holds_8 : decode cX12_holds 8 = .ok (.iconst 1, 1) := by decide +kernel
theorem dX12_holds_9 : decode cX12_holds 9 = .ok (.putfield 315, 3) := by decide +kernel
theorem dX12_holds_12 : decode cX12_holds 12 = .ok (.iload_n 1, 1) := by decide +kernel
theorem dX12_holds_13 : decode cX12_holds 13 = .ok (.ifCond .ne 84, 3) := by decide +kernel
theorem dX12_holds_16 : decode cX12_holds 16 = .ok (.aload_n 0, 1) := by decide +kernel
theorem dX12_holds_17 : decode cX12_holds 17 = .ok (.iconst 1, 1) := by decide +kernel
theorem dX12_holds_18 : decode cX12_holds 18 = .ok (.aload_n 0, 1) := by decide +kernel
theorem dX12_holds_19 : decode cX12_holds 19 = .ok (.getfield 178, 3) := by decide +kernel
theorem dX12_holds_22 : decode cX12_holds 22 = .ok (.iconst 0, 1) := by decide +kernel
theorem dX12_holds_23 : decode cX12_holds 23 = .ok (.invokevirtual 703, 3) := by decide +kernel
theorem dX12_holds_26 : decode cX12_holds 26 = .ok (.aload_n 0, 1) := by decide +kernel
theorem dX12_holds_27 : decode cX12_holds 27 = .ok (.getfield 474, 3) := by decide +kernel
theorem dX12_holds_30 : decode cX12_holds 30 = .ok (.ifCond .ne 11, 3) := by decide +kernel
theorem dX12_holds_33 : decode cX12_holds 33 = .ok (.aload_n 0, 1) := by decide +kernel
theorem dX12_holds_34 : decode cX12_holds 34 = .ok (.getfield 178, 3) := by decide +kernel
theorem dX12_holds_37 : decode cX12_holds 37 = .ok (.iconst 0, 1) := by decide +kernel
theorem dX12_holds_38 : decode cX12_holds 38 = .ok (.invokestatic 540, 3) := by decide +kernel
theorem dX12_holds_41 : decode cX12_holds 41 = .ok (.aload_n 0, 1) := by decide +kernel
theorem dX12_holds_42 : decode cX12_holds 42 = .ok (.iconst 3, 1) := by decide +kernel
theorem dX12_holds_43 : decode cX12_holds 43 = .ok (.aload_n 0, 1) := by decide +kernel
theorem dX12_holds_44 : decode cX12_holds 44 = .ok (.getfield 181, 3) := by decide +kernel
theorem dX12_holds_47 : decode cX12_holds 47 = .ok (.iconst 0, 1) := by decide +kernel
theorem dX12_holds_48 : decode cX12_holds 48 = .ok (.invokevirtual 703, 3) := by decide +kernel
theorem dX12_holds_51 : decode cX12_holds 51 = .ok (.aload_n 0, 1) := by decide +kernel
theorem dX12_holds_52 : decode cX12_holds 52 = .ok (.iconst 5, 1) := by decide +kernel
theorem dX12_holds_53 : decode cX12_holds 53 = .ok (.putfield 315, 3) := by decide +kernel
theorem dX12_holds_56 : decode cX12_holds 56 = .ok (.aload_n 0, 1) := by decide +kernel
theorem dX12_holds_57 : decode cX12_holds 57 = .ok (.invokevirtual 718, 3) := by decide +kernel
theorem dX12_holds_60 : decode cX12_holds 60 = .ok (.aload_n 0, 1) := by decide +kernel
theorem dX12_holds_61 : decode cX12_holds 61 = .ok (.invokevirtual 721, 3) := by decide +kernel
theorem dX12_holds_64 : decode cX12_holds 64 = .ok (.ifCond .ne 9, 3) := by decide +kernel
theorem dX12_holds_67 : decode cX12_holds 67 = .ok (.aload_n 0, 1) := by decide +kernel
theorem dX12_holds_68 : decode cX12_holds 68 = .ok (.iconst 3, 1) := by decide +kernel
theorem dX12_holds_69 : decode cX12_holds 69 = .ok (.iconst 0, 1) := by decide +kernel
theorem dX12_holds_70 : decode cX12_holds 70 = .ok (.invokevirtual 321, 3) := by decide +kernel
theorem dX12_holds_73 : decode cX12_holds 73 = .ok (.aload_n 0, 1) := by decide +kernel
theorem dX12_holds_74 : decode cX12_holds 74 = .ok (.getfield 270, 3) := by decide +kernel
theorem dX12_holds_77 : decode cX12_holds 77 = .ok (.ifCond .ne 88, 3) := by decide +kernel
theorem dX12_holds_80 : decode cX12_holds 80 = .ok (.aload_n 0, 1) := by decide +kernel
theorem dX12_holds_81 : decode cX12_holds 81 = .ok (.iconst 1, 1) := by decide +kernel
theorem dX12_holds_82 : decode cX12_holds 82 = .ok (.invokevirtual 724, 3) := by decide +kernel
theorem dX12_holds_85 : decode cX12_holds 85 = .ok (.ifCond .ne 80, 3) := by decide +kernel
theorem dX12_holds_88 : decode cX12_holds 88 = .ok (.aload_n 0, 1) := by decide +kernel
theorem dX12_holds_89 : decode cX12_holds 89 = .ok (.iconst 2, 1) := by decide +kernel
theorem dX12_holds_90 : decode cX12_holds 90 = .ok (.iconst 4, 1) := by decide +kernel
theorem dX12_holds_91 : decode cX12_holds 91 = .ok (.invokevirtual 321, 3) := by decide +kernel
theorem dX12_holds_94 : decode cX12_holds 94 = .ok (.goto 71, 3) := by decide +kernel
theorem dX12_holds_97 : decode cX12_holds 97 = .ok (.iload_n 1, 1) := by decide +kernel
theorem dX12_holds_98 : decode cX12_holds 98 = .ok (.iconst 3, 1) := by decide +kernel
theorem dX12_holds_99 : decode cX12_holds 99 = .ok (.if_icmp .ne 66, 3) := by decide +kernel
theorem dX12_holds_102 : decode cX12_holds 102 = .ok (.aload_n 0, 1) := by decide +kernel
theorem dX12_holds_103 : decode cX12_holds 103 = .ok (.iconst 2, 1) := by decide +kernel
theorem dX12_holds_104 : decode cX12_holds 104 = .ok (.putfield 315, 3) := by decide +kernel
theorem dX12_holds_107 : decode cX12_holds 107 = .ok (.aload_n 0, 1) := by decide +kernel
theorem dX12_holds_108 : decode cX12_holds 108 = .ok (.invokevirtual 718, 3) := by decide +kernel
theorem dX12_holds_111 : decode cX12_holds 111 = .ok (.aload_n 0, 1) := by decide +kernel
theorem dX12_holds_112 : decode cX12_holds 112 = .ok (.iconst 0, 1) := by decide +kernel
theorem dX12_holds_113 : decode cX12_holds 113 = .ok (.invokevirtual 724, 3) := by decide +kernel
theorem dX12_holds_116 : decode cX12_holds 116 = .ok (.ifCond .ne 9, 3) := by decide +kernel
theorem dX12_holds_119 : decode cX12_holds 119 = .ok (.aload_n 0, 1) := by decide +kernel
theorem dX12_holds_120 : decode cX12_holds 120 = .ok (.iconst 2, 1) := by decide +kernel
theorem dX12_holds_121 : decode cX12_holds 121 = .ok (.iconst 1, 1) := by decide +kernel
theorem dX12_holds_122 : decode cX12_holds 122 = .ok (.invokevirtual 321, 3) := by decide +kernel
theorem dX12_holds_125 : decode cX12_holds 125 = .ok (.aload_n 0, 1) := by decide +kernel
theorem dX12_holds_126 : decode cX12_holds 126 = .ok (.getfield 315, 3) := by decide +kernel
theorem dX12_holds_129 : decode cX12_holds 129 = .ok (.istore_n 2, 1) := by decide +kernel
theorem dX12_holds_130 : decode cX12_holds 130 = .ok (.aload_n 0, 1) := by decide +kernel
theorem dX12_holds_131 : decode cX12_holds 131 = .ok (.dup, 1) := by decide +kernel
theorem dX12_holds_132 : decode cX12_holds 132 = .ok (.getfield 315, 3) := by decide +kernel
theorem dX12_holds_135 : decode cX12_holds 135 = .ok (.iconst 1, 1) := by decide +kernel
theorem dX12_holds_136 : decode cX12_holds 136 = .ok (.iadd, 1) := by decide +kernel
theorem dX12_holds_137 : decode cX12_holds 137 = .ok (.putfield 315, 3) := by decide +kernel
theorem dX12_holds_140 : decode cX12_holds 140 = .ok (.aload_n 0, 1) := by decide +kernel
theorem dX12_holds_141 : decode cX12_holds 141 = .ok (.invokevirtual 718, 3) := by decide +kernel
theorem dX12_holds_144 : decode cX12_holds 144 = .ok (.aload_n 0, 1) := by decide +kernel
theorem dX12_holds_145 : decode cX12_holds 145 = .ok (.getfield 270, 3) := by decide +kernel
theorem dX12_holds_148 : decode cX12_holds 148 = .ok (.ifCond .ne 16, 3) := by decide +kernel
theorem dX12_holds_151 : decode cX12_holds 151 = .ok (.aload_n 0, 1) := by decide +kernel
theorem dX12_holds_152 : decode cX12_holds 152 = .ok (.invokevirtual 728, 3) := by decide +kernel
theorem dX12_holds_155 : decode cX12_holds 155 = .ok (.ifCond .ne 9, 3) := by decide +kernel
theorem dX12_holds_158 : decode cX12_holds 158 = .ok (.aload_n 0, 1) := by decide +kernel
theorem dX12_holds_159 : decode cX12_holds 159 = .ok (.iconst 5, 1) := by decide +kernel
theorem dX12_holds_160 : decode cX12_holds 160 = .ok (.iload_n 2, 1) := by decide +kernel
theorem dX12_holds_161 : decode cX12_holds 161 = .ok (.invokevirtual 321, 3) := by decide +kernel
theorem dX12_holds_164 : decode cX12_holds 164 = .ok (.return_, 1) := by decide +kernel
theorem dX12_holds_165 : decode cX12_holds 165 = .ok (.aload_n 0, 1) := by decide +kernel
theorem dX12_holds_166 : decode cX12_holds 166 = .ok (.getfield 270, 3) := by decide +kernel
theorem dX12_holds_169 : decode cX12_holds 169 = .ok (.ifCond .ne 16, 3) := by decide +kernel
theorem dX12_holds_172 : decode cX12_holds 172 = .ok (.aload_n 0, 1) := by decide +kernel
theorem dX12_holds_173 : decode cX12_holds 173 = .ok (.iload_n 1, 1) := by decide +kernel
theorem dX12_holds_174 : decode cX12_holds 174 = .ok (.ifCond .ne 7, 3) := by decide +kernel
theorem dX12_holds_177 : decode cX12_holds 177 = .ok (.iconst 1, 1) := by decide +kernel
theorem dX12_holds_178 : decode cX12_holds 178 = .ok (.goto 4, 3) := by decide +kernel
theorem dX12_holds_181 : decode cX12_holds 181 = .ok (.iconst 0, 1) := by decide +kernel
theorem dX12_holds_182 : decode cX12_holds 182 = .ok (.invokevirtual 731, 3) := by decide +kernel
theorem dX12_holds_185 : decode cX12_holds 185 = .ok (.return_, 1) := by decide +kernel
theorem w_182 : Cond.selects RX12 yX12_tokenizeProof yX12_tokenizeProof ∈ tb := sel_12 (q := (yX12_tokenizeProof, 105)) 6 (by decide +kernel)
theorem w_183 : Cond.selects RX12 yX12_proofRead yX12_proofRead ∈ tb := sel_12 (q := (yX12_proofRead, 105)) 7 (by decide +kernel)
theorem w_187 : Cond.selects RX12 yX12_holds yX12_holds ∈ tb := sel_12 (q := (yX12_holds, 105)) 11 (by decide +kernel)
theorem w_189 : Cond.selects RX12 yX12_pointHere yX12_pointHere ∈ tb := sel_12 (q := (yX12_pointHere, 105)) 13 (by decide +kernel)
theorem w_190 : Cond.selects RX12 yX12_isValue yX12_isValue ∈ tb := sel_12 (q := (yX12_isValue, 105)) 14 (by decide +kernel)
theorem w_192 : Cond.selects RX12 yX12_isPoint yX12_isPoint ∈ tb := sel_13 (q := (yX12_isPoint, 105)) 0 (by decide +kernel)
theorem w_193 : Cond.selects RX12 yX12_isAlong yX12_isAlong ∈ tb := sel_13 (q := (yX12_isAlong, 105)) 1 (by decide +kernel)
theorem w_194 : Cond.selects RX12 yX12_trees yX12_trees ∈ tb := sel_13 (q := (yX12_trees, 105)) 2 (by decide +kernel)
theorem w_2716 : Cond.methodLink RX12 709 yX12_tokenizeProof ∈ tb := tbc_11 113 (by decide +kernel) rfl
theorem w_2718 : Cond.instanceMethod yX12_tokenizeProof ∈ tb := tbc_11 115 (by decide +kernel) rfl
theorem w_2719 : Cond.code yX12_tokenizeProof cX12_tokenizeProof 7 none ∈ tb := tbc_11 116 (by decide +kernel) rfl
theorem w_2721 : Cond.methodLink RX12 712 yX12_proofRead ∈ tb := tbc_11 118 (by decide +kernel) rfl
theorem w_2723 : Cond.instanceMethod yX12_proofRead ∈ tb := tbc_11 120 (by decide +kernel) rfl
theorem w_2724 : Cond.code yX12_proofRead cX12_proofRead 2 none ∈ tb := tbc_11 121 (by decide +kernel) rfl
theorem w_2737 : Cond.methodLink RX12 715 yX12_holds ∈ tb := tbc_11 134 (by decide +kernel) rfl
theorem w_2739 : Cond.instanceMethod yX12_holds ∈ tb := tbc_11 136 (by decide +kernel) rfl
theorem w_2740 : Cond.code yX12_holds cX12_holds 3 none ∈ tb := tbc_11 137 (by decide +kernel) rfl
theorem w_2746 : Cond.methodLink RX12 718 yX12_pointHere ∈ tb := tbc_11 143 (by decide +kernel) rfl
theorem w_2748 : Cond.instanceMethod yX12_pointHere ∈ tb := tbc_11 145 (by decide +kernel) rfl
theorem w_2749 : Cond.code yX12_pointHere cX12_pointHere 2 none ∈ tb := tbc_11 146 (by decide +kernel) rfl
theorem w_2750 : Cond.methodLink RX12 721 yX12_isValue ∈ tb := tbc_11 147 (by decide +kernel) rfl
theorem w_2752 : Cond.instanceMethod yX12_isValue ∈ tb := tbc_11 149 (by decide +kernel) rfl
theorem w_2753 : Cond.code yX12_isValue cX12_isValue 2 (some .boolean) ∈ tb := tbc_11 150 (by decide +kernel) rfl
theorem w_2758 : Cond.methodLink RX12 724 yX12_isPoint ∈ tb := tbc_11 155 (by decide +kernel) rfl
theorem w_2760 : Cond.instanceMethod yX12_isPoint ∈ tb := tbc_11 157 (by decide +kernel) rfl
theorem w_2761 : Cond.code yX12_isPoint cX12_isPoint 4 (some .boolean) ∈ tb := tbc_11 158 (by decide +kernel) rfl
theorem w_2762 : Cond.methodLink RX12 728 yX12_isAlong ∈ tb := tbc_11 159 (by decide +kernel) rfl
theorem w_2764 : Cond.instanceMethod yX12_isAlong ∈ tb := tbc_11 161 (by decide +kernel) rfl
theorem w_2765 : Cond.code yX12_isAlong cX12_isAlong 2 (some .boolean) ∈ tb := tbc_11 162 (by decide +kernel) rfl
theorem w_2766 : Cond.methodLink RX12 731 yX12_trees ∈ tb := tbc_11 163 (by decide +kernel) rfl
theorem w_2768 : Cond.instanceMethod yX12_trees ∈ tb := tbc_11 165 (by decide +kernel) rfl
theorem w_2769 : Cond.code yX12_trees cX12_trees 7 none ∈ tb := tbc_11 166 (by decide +kernel) rfl
section RW86
variable {p : Program} {l : Launch} {e : Env} {R : Room} {s : State} {m : MethodId} {args : Array Value} {below : List Frame} {meth : Method} {c : Code} {H : Heap} {locs : List Loc} {cells slots : Nat} {Q : State → Prop}
variable {cc : ByteArray} {pc nL : Nat} {ls : Array Slot} {rest st0 : List Value} {G : sG} {n : Nat} {S : sS}
theorem c_X12_731 (Cx : sC G p m c cc nL s args RX12) {rm : Room} {mc ms : Nat} (h1 : rm.cells = mc) (h2 : rm.slots = ms) (h3 : rm.frames + 1 ≤ R.frames ∧ 8 + (7 + 11) + rm.locals ≤ R.locals) : CallW R s args RX12 RX12 731 yX12_trees cX12_trees 7 none (.code yX12_trees cX12_trees 7 none :: tb) rm mc ms 1 :=
  sCw Cx 1 w_2766 w_2768 w_194 w_217 w_2769 (by decide +kernel) h1 h2 h3
theorem c_X12_718 (Cx : sC G p m c cc nL s args RX12) {rm : Room} {mc ms : Nat} (h1 : rm.cells = mc) (h2 : rm.slots = ms) (h3 : rm.frames + 1 ≤ R.frames ∧ 8 + (2 + 11) + rm.locals ≤ R.locals) : CallW R s args RX12 RX12 718 yX12_pointHere cX12_pointHere 2 none (.code yX12_pointHere cX12_pointHere 2 none :: tb) rm mc ms 0 :=
  sCw Cx 0 w_2746 w_2748 w_189 w_217 w_2749 (by decide +kernel) h1 h2 h3
theorem c_X12_724 (Cx : sC G p m c cc nL s args RX12) {rm : Room} {mc ms : Nat} (h1 : rm.cells = mc) (h2 : rm.slots = ms) (h3 : rm.frames + 1 ≤ R.frames ∧ 8 + (4 + 11) + rm.locals ≤ R.locals) : CallW R s args RX12 RX12 724 yX12_isPoint cX12_isPoint 4 (some .boolean) (.code yX12_isPoint cX12_isPoint 4 (some .boolean) :: tb) rm mc ms 1 :=
  sCw Cx 1 w_2758 w_2760 w_192 w_217 w_2761 (by decide +kernel) h1 h2 h3
theorem c_X12_728 (Cx : sC G p m c cc nL s args RX12) {rm : Room} {mc ms : Nat} (h1 : rm.cells = mc) (h2 : rm.slots = ms) (h3 : rm.frames + 1 ≤ R.frames ∧ 8 + (2 + 11) + rm.locals ≤ R.locals) : CallW R s args RX12 RX12 728 yX12_isAlong cX12_isAlong 2 (some .boolean) (.code yX12_isAlong cX12_isAlong 2 (some .boolean) :: tb) rm mc ms 0 :=
  sCw Cx 0 w_2762 w_2764 w_193 w_217 w_2765 (by decide +kernel) h1 h2 h3
theorem c_X12_721 (Cx : sC G p m c cc nL s args RX12) {rm : Room} {mc ms : Nat} (h1 : rm.cells = mc) (h2 : rm.slots = ms) (h3 : rm.frames + 1 ≤ R.frames ∧ 8 + (2 + 11) + rm.locals ≤ R.locals) : CallW R s args RX12 RX12 721 yX12_isValue cX12_isValue 2 (some .boolean) (.code yX12_isValue cX12_isValue 2 (some .boolean) :: tb) rm mc ms 0 :=
  sCw Cx 0 w_2750 w_2752 w_190 w_217 w_2753 (by decide +kernel) h1 h2 h3
theorem c_X12_709 (Cx : sC G p m c cc nL s args RX12) {rm : Room} {mc ms : Nat} (h1 : rm.cells = mc) (h2 : rm.slots = ms) (h3 : rm.frames + 1 ≤ R.frames ∧ 8 + (7 + 11) + rm.locals ≤ R.locals) : CallW R s args RX12 RX12 709 yX12_tokenizeProof cX12_tokenizeProof 7 none (.code yX12_tokenizeProof cX12_tokenizeProof 7 none :: tb) rm mc ms 0 :=
  sCw Cx 0 w_2716 w_2718 w_182 w_217 w_2719 (by decide +kernel) h1 h2 h3
theorem c_X12_712 (Cx : sC G p m c cc nL s args RX12) {rm : Room} {mc ms : Nat} (h1 : rm.cells = mc) (h2 : rm.slots = ms) (h3 : rm.frames + 1 ≤ R.frames ∧ 8 + (2 + 11) + rm.locals ≤ R.locals) : CallW R s args RX12 RX12 712 yX12_proofRead cX12_proofRead 2 none (.code yX12_proofRead cX12_proofRead 2 none :: tb) rm mc ms 0 :=
  sCw Cx 0 w_2721 w_2723 w_183 w_217 w_2724 (by decide +kernel) h1 h2 h3
theorem c_X12_715 (Cx : sC G p m c cc nL s args RX12) {rm : Room} {mc ms : Nat} (h1 : rm.cells = mc) (h2 : rm.slots = ms) (h3 : rm.frames + 1 ≤ R.frames ∧ 8 + (3 + 11) + rm.locals ≤ R.locals) : CallW R s args RX12 RX12 715 yX12_holds cX12_holds 3 none (.code yX12_holds cX12_holds 3 none :: tb) rm mc ms 0 :=
  sCw Cx 0 w_2737 w_2739 w_187 w_217 w_2740 (by decide +kernel) h1 h2 h3
end RW86
