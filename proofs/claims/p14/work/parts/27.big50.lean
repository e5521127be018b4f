theorem dX0_divide_0 : decode cX0_divide 0 = .ok (.aload_n 2, 1) := by decide +kernel
theorem dX0_divide_1 : decode cX0_divide 1 = .ok (.lconst 0, 1) := by decide +kernel
theorem dX0_divide_2 : decode cX0_divide 2 = .ok (.invokevirtual 62, 3) := by decide +kernel
theorem dX0_divide_5 : decode cX0_divide 5 = .ok (.aload_n 1, 1) := by decide +kernel
theorem dX0_divide_6 : decode cX0_divide 6 = .ok (.getfield 34, 3) := by decide +kernel
theorem dX0_divide_9 : decode cX0_divide 9 = .ok (.ifCond .gt 4, 3) := by decide +kernel
theorem dX0_divide_12 : decode cX0_divide 12 = .ok (.return_, 1) := by decide +kernel
theorem dX0_divide_13 : decode cX0_divide 13 = .ok (.aload_n 0, 1) := by decide +kernel
theorem dX0_divide_14 : decode cX0_divide 14 = .ok (.getfield 34, 3) := by decide +kernel
theorem dX0_divide_17 : decode cX0_divide 17 = .ok (.ifCond .ge 7, 3) := by decide +kernel
theorem dX0_divide_20 : decode cX0_divide 20 = .ok (.iconst 1, 1) := by decide +kernel
theorem dX0_divide_21 : decode cX0_divide 21 = .ok (.goto 4, 3) := by decide +kernel
theorem dX0_divide_24 : decode cX0_divide 24 = .ok (.iconst 0, 1) := by decide +kernel
theorem dX0_divide_25 : decode cX0_divide 25 = .ok (.istore 4, 2) := by decide +kernel
theorem dX0_divide_27 : decode cX0_divide 27 = .ok (.aload_n 0, 1) := by decide +kernel
theorem dX0_divide_28 : decode cX0_divide 28 = .ok (.aload_n 0, 1) := by decide +kernel
theorem dX0_divide_29 : decode cX0_divide 29 = .ok (.getfield 34, 3) := by decide +kernel
theorem dX0_divide_32 : decode cX0_divide 32 = .ok (.invokestatic 21, 3) := by decide +kernel
theorem dX0_divide_35 : decode cX0_divide 35 = .ok (.putfield 34, 3) := by decide +kernel
theorem dX0_divide_38 : decode cX0_divide 38 = .ok (.aload_n 1, 1) := by decide +kernel
theorem dX0_divide_39 : decode cX0_divide 39 = .ok (.getfield 24, 3) := by decide +kernel
theorem dX0_divide_42 : decode cX0_divide 42 = .ok (.iconst 1, 1) := by decide +kernel
theorem dX0_divide_43 : decode cX0_divide 43 = .ok (.if_icmp .ne 26, 3) := by decide +kernel
theorem dX0_divide_46 : decode cX0_divide 46 = .ok (.aload_n 2, 1) := by decide +kernel
theorem dX0_divide_47 : decode cX0_divide 47 = .ok (.aload_n 0, 1) := by decide +kernel
theorem dX0_divide_48 : decode cX0_divide 48 = .ok (.invokevirtual 72, 3) := by decide +kernel
theorem dX0_divide_51 : decode cX0_divide 51 = .ok (.aload_n 0, 1) := by decide +kernel
theorem dX0_divide_52 : decode cX0_divide 52 = .ok (.aload_n 2, 1) := by decide +kernel
theorem dX0_divide_53 : decode cX0_divide 53 = .ok (.aload_n 1, 1) := by decide +kernel
theorem dX0_divide_54 : decode cX0_divide 54 = .ok (.getfield 9, 3) := by decide +kernel
theorem dX0_divide_57 : decode cX0_divide 57 = .ok (.iconst 0, 1) := by decide +kernel
theorem dX0_divide_58 : decode cX0_divide 58 = .ok (.iaload, 1) := by decide +kernel
theorem dX0_divide_59 : decode cX0_divide 59 = .ok (.invokevirtual 91, 3) := by decide +kernel
theorem dX0_divide_62 : decode cX0_divide 62 = .ok (.i2l, 1) := by decide +kernel
theorem dX0_divide_63 : decode cX0_divide 63 = .ok (.invokevirtual 62, 3) := by decide +kernel
theorem dX0_divide_66 : decode cX0_divide 66 = .ok (.goto 18, 3) := by decide +kernel
theorem dX0_divide_69 : decode cX0_divide 69 = .ok (.aload_n 0, 1) := by decide +kernel
theorem dX0_divide_70 : decode cX0_divide 70 = .ok (.aload_n 1, 1) := by decide +kernel
theorem dX0_divide_71 : decode cX0_divide 71 = .ok (.invokevirtual 79, 3) := by decide +kernel
theorem dX0_divide_74 : decode cX0_divide 74 = .ok (.ifCond .lt 10, 3) := by decide +kernel
theorem dX0_divide_77 : decode cX0_divide 77 = .ok (.aload_n 0, 1) := by decide +kernel
theorem dX0_divide_78 : decode cX0_divide 78 = .ok (.aload_n 1, 1) := by decide +kernel
theorem dX0_divide_79 : decode cX0_divide 79 = .ok (.aload_n 2, 1) := by decide +kernel
theorem dX0_divide_80 : decode cX0_divide 80 = .ok (.aload_n 3, 1) := by decide +kernel
theorem dX0_divide_81 : decode cX0_divide 81 = .ok (.invokevirtual 94, 3) := by decide +kernel
theorem dX0_divide_84 : decode cX0_divide 84 = .ok (.iload 4, 2) := by decide +kernel
theorem dX0_divide_86 : decode cX0_divide 86 = .ok (.ifCond .eq 35, 3) := by decide +kernel
theorem dX0_divide_89 : decode cX0_divide 89 = .ok (.aload_n 2, 1) := by decide +kernel
theorem dX0_divide_90 : decode cX0_divide 90 = .ok (.invokevirtual 98, 3) := by decide +kernel
theorem dX0_divide_93 : decode cX0_divide 93 = .ok (.aload_n 0, 1) := by decide +kernel
theorem dX0_divide_94 : decode cX0_divide 94 = .ok (.getfield 34, 3) := by decide +kernel
theorem dX0_divide_97 : decode cX0_divide 97 = .ok (.ifCond .eq 24, 3) := by decide +kernel
theorem dX0_divide_100 : decode cX0_divide 100 = .ok (.aload_n 3, 1) := by decide +kernel
theorem dX0_divide_101 : decode cX0_divide 101 = .ok (.lconst 1, 1) := by decide +kernel
theorem dX0_divide_102 : decode cX0_divide 102 = .ok (.invokevirtual 62, 3) := by decide +kernel
theorem dX0_divide_105 : decode cX0_divide 105 = .ok (.aload_n 2, 1) := by decide +kernel
theorem dX0_divide_106 : decode cX0_divide 106 = .ok (.aload_n 3, 1) := by decide +kernel
theorem dX0_divide_107 : decode cX0_divide 107 = .ok (.iconst (-1), 1) := by decide +kernel
theorem dX0_divide_108 : decode cX0_divide 108 = .ok (.invokevirtual 101, 3) := by decide +kernel
theorem dX0_divide_111 : decode cX0_divide 111 = .ok (.aload_n 0, 1) := by decide +kernel
theorem dX0_divide_112 : decode cX0_divide 112 = .ok (.invokevirtual 98, 3) := by decide +kernel
theorem dX0_divide_115 : decode cX0_divide 115 = .ok (.aload_n 0, 1) := by decide +kernel
theorem dX0_divide_116 : decode cX0_divide 116 = .ok (.aload_n 1, 1) := by decide +kernel
theorem dX0_divide_117 : decode cX0_divide 117 = .ok (.iconst 1, 1) := by decide +kernel
theorem dX0_divide_118 : decode cX0_divide 118 = .ok (.invokevirtual 101, 3) := by decide +kernel
theorem dX0_divide_121 : decode cX0_divide 121 = .ok (.return_, 1) := by decide +kernel
theorem dX0_divideLong_0 : decode cX0_divideLong 0 = .ok (.aload_n 1, 1) := by decide +kernel
theorem dX0_divideLong_1 : decode cX0_divideLong 1 = .ok (.getfield 24, 3) := by decide +kernel
theorem dX0_divideLong_4 : decode cX0_divideLong 4 = .ok (.istore 4, 2) := by decide +kernel
theorem dX0_divideLong_6 : decode cX0_divideLong 6 = .ok (.aload_n 0, 1) := by decide +kernel
theorem dX0_divideLong_7 : decode cX0_divideLong 7 = .ok (.getfield 24, 3) := by decide +kernel
theorem dX0_divideLong_10 : decode cX0_divideLong 10 = .ok (.istore 5, 2) := by decide +kernel
theorem dX0_divideLong_12 : decode cX0_divideLong 12 = .ok (.iload 5, 2) := by decide +kernel
theorem dX0_divideLong_14 : decode cX0_divideLong 14 = .ok (.bipush 32, 2) := by decide +kernel
theorem dX0_divideLong_16 : decode cX0_divideLong 16 = .ok (.if_icmp .ge 9, 3) := by decide +kernel
theorem dX0_divideLong_19 : decode cX0_divideLong 19 = .ok (.iload 4, 2) := by decide +kernel
theorem dX0_divideLong_21 : decode cX0_divideLong 21 = .ok (.iconst 2, 1) := by decide +kernel
theorem dX0_divideLong_22 : decode cX0_divideLong 22 = .ok (.if_icmp .ge 4, 3) := by decide +kernel
theorem dX0_divideLong_25 : decode cX0_divideLong 25 = .ok (.return_, 1) := by decide +kernel
theorem dX0_divideLong_26 : decode cX0_divideLong 26 = .ok (.ldc 87, 2) := by decide +kernel
theorem dX0_divideLong_28 : decode cX0_divideLong 28 = .ok (.aload_n 1, 1) := by decide +kernel
theorem dX0_divideLong_29 : decode cX0_divideLong 29 = .ok (.getfield 9, 3) := by decide +kernel
theorem dX0_divideLong_32 : decode cX0_divideLong 32 = .ok (.iload 4, 2) := by decide +kernel
theorem dX0_divideLong_34 : decode cX0_divideLong 34 = .ok (.iconst 1, 1) := by decide +kernel
theorem dX0_divideLong_35 : decode cX0_divideLong 35 = .ok (.isub, 1) := by decide +kernel
theorem dX0_divideLong_36 : decode cX0_divideLong 36 = .ok (.iaload, 1) := by decide +kernel
theorem dX0_divideLong_37 : decode cX0_divideLong 37 = .ok (.iconst 1, 1) := by decide +kernel
theorem dX0_divideLong_38 : decode cX0_divideLong 38 = .ok (.iadd, 1) := by decide +kernel
theorem dX0_divideLong_39 : decode cX0_divideLong 39 = .ok (.idiv, 1) := by decide +kernel
theorem dX0_divideLong_40 : decode cX0_divideLong 40 = .ok (.istore 6, 2) := by decide +kernel
theorem dX0_divideLong_42 : decode cX0_divideLong 42 = .ok (.aload_n 3, 1) := by decide +kernel
theorem dX0_divideLong_43 : decode cX0_divideLong 43 = .ok (.aload_n 1, 1) := by decide +kernel
theorem dX0_divideLong_44 : decode cX0_divideLong 44 = .ok (.invokevirtual 72, 3) := by decide +kernel
theorem dX0_divideLong_47 : decode cX0_divideLong 47 = .ok (.aload_n 3, 1) := by decide +kernel
theorem dX0_divideLong_48 : decode cX0_divideLong 48 = .ok (.iload 6, 2) := by decide +kernel
theorem dX0_divideLong_50 : decode cX0_divideLong 50 = .ok (.invokevirtual 105, 3) := by decide +kernel
theorem dX0_divideLong_53 : decode cX0_divideLong 53 = .ok (.aload_n 0, 1) := by decide +kernel
theorem dX0_divideLong_54 : decode cX0_divideLong 54 = .ok (.iload 6, 2) := by decide +kernel
theorem dX0_divideLong_56 : decode cX0_divideLong 56 = .ok (.invokevirtual 105, 3) := by decide +kernel
theorem dX0_divideLong_59 : decode cX0_divideLong 59 = .ok (.iload 5, 2) := by decide +kernel
theorem dX0_divideLong_61 : decode cX0_divideLong 61 = .ok (.iload 4, 2) := by decide +kernel
theorem dX0_divideLong_63 : decode cX0_divideLong 63 = .ok (.isub, 1) := by decide +kernel
theorem dX0_divideLong_64 : decode cX0_divideLong 64 = .ok (.istore 7, 2) := by decide +kernel
theorem dX0_divideLong_66 : decode cX0_divideLong 66 = .ok (.iload 7, 2) := by decide +kernel
theorem dX0_divideLong_68 : decode cX0_divideLong 68 = .ok (.ifCond .lt 25, 3) := by decide +kernel
theorem dX0_divideLong_71 : decode cX0_divideLong 71 = .ok (.aload_n 2, 1) := by decide +kernel
theorem dX0_divideLong_72 : decode cX0_divideLong 72 = .ok (.getfield 9, 3) := by decide +kernel
theorem dX0_divideLong_75 : decode cX0_divideLong 75 = .ok (.iload 7, 2) := by decide +kernel
theorem dX0_divideLong_77 : decode cX0_divideLong 77 = .ok (.aload_n 0, 1) := by decide +kernel
theorem dX0_divideLong_78 : decode cX0_divideLong 78 = .ok (.iload 7, 2) := by decide +kernel
theorem dX0_divideLong_80 : decode cX0_divideLong 80 = .ok (.aload_n 3, 1) := by decide +kernel
theorem dX0_divideLong_81 : decode cX0_divideLong 81 = .ok (.iload 4, 2) := by decide +kernel
theorem dX0_divideLong_83 : decode cX0_divideLong 83 = .ok (.invokevirtual 109, 3) := by decide +kernel
theorem dX0_divideLong_86 : decode cX0_divideLong 86 = .ok (.iastore, 1) := by decide +kernel
theorem dX0_divideLong_87 : decode cX0_divideLong 87 = .ok (.iinc 7 (-1), 3) := by decide +kernel
theorem dX0_divideLong_90 : decode cX0_divideLong 90 = .ok (.goto (-24), 3) := by decide +kernel
theorem dX0_divideLong_93 : decode cX0_divideLong 93 = .ok (.aload_n 2, 1) := by decide +kernel
theorem dX0_divideLong_94 : decode cX0_divideLong 94 = .ok (.iload 5, 2) := by decide +kernel
theorem dX0_divideLong_96 : decode cX0_divideLong 96 = .ok (.iload 4, 2) := by decide +kernel
theorem dX0_divideLong_98 : decode cX0_divideLong 98 = .ok (.isub, 1) := by decide +kernel
theorem dX0_divideLong_99 : decode cX0_divideLong 99 = .ok (.iconst 1, 1) := by decide +kernel
theorem dX0_divideLong_100 : decode cX0_divideLong 100 = .ok (.iadd, 1) := by decide +kernel
theorem dX0_divideLong_101 : decode cX0_divideLong 101 = .ok (.putfield 24, 3) := by decide +kernel
theorem dX0_divideLong_104 : decode cX0_divideLong 104 = .ok (.aload_n 2, 1) := by decide +kernel
theorem dX0_divideLong_105 : decode cX0_divideLong 105 = .ok (.iconst 1, 1) := by decide +kernel
theorem dX0_divideLong_106 : decode cX0_divideLong 106 = .ok (.putfield 34, 3) := by decide +kernel
theorem dX0_divideLong_109 : decode cX0_divideLong 109 = .ok (.aload_n 2, 1) := by decide +kernel
theorem dX0_divideLong_110 : decode cX0_divideLong 110 = .ok (.invokevirtual 59, 3) := by decide +kernel
theorem dX0_divideLong_113 : decode cX0_divideLong 113 = .ok (.aload_n 0, 1) := by decide +kernel
theorem dX0_divideLong_114 : decode cX0_divideLong 114 = .ok (.iload 4, 2) := by decide +kernel
theorem dX0_divideLong_116 : decode cX0_divideLong 116 = .ok (.putfield 24, 3) := by decide +kernel
theorem dX0_divideLong_119 : decode cX0_divideLong 119 = .ok (.aload_n 0, 1) := by decide +kernel
theorem dX0_divideLong_120 : decode cX0_divideLong 120 = .ok (.invokevirtual 59, 3) := by decide +kernel
theorem dX0_divideLong_123 : decode cX0_divideLong 123 = .ok (.aload_n 0, 1) := by decide +kernel
theorem dX0_divideLong_124 : decode cX0_divideLong 124 = .ok (.iload 6, 2) := by decide +kernel
theorem dX0_divideLong_126 : decode cX0_divideLong 126 = .ok (.invokevirtual 91, 3) := by decide +kernel
theorem dX0_divideLong_129 : decode cX0_divideLong 129 = .ok (.pop, 1) := by decide +kernel
theorem dX0_divideLong_130 : decode cX0_divideLong 130 = .ok (.return_, 1) := by decide +kernel
theorem w_52 : Cond.selects RX0 yX0_reduce yX0_reduce ∈ tb := sel_4 (q := (yX0_reduce, 3)) 4 (by decide +kernel)
theorem w_53 : Cond.selects RX0 yX0_divideLong yX0_divideLong ∈ tb := sel_4 (q := (yX0_divideLong, 3)) 5 (by decide +kernel)
theorem w_54 : Cond.selects RX0 yX0_scale yX0_scale ∈ tb := sel_4 (q := (yX0_scale, 3)) 6 (by decide +kernel)
theorem w_55 : Cond.selects RX0 yX0_digitAt yX0_digitAt ∈ tb := sel_4 (q := (yX0_digitAt, 3)) 7 (by decide +kernel)
theorem w_1280 : Cond.instanceMethod yX0_add ∈ tb := tbc_5 117 (by decide +kernel) rfl
theorem w_1281 : Cond.selects RX0 yX0_add yX0_add ∈ tb := tbc_5 118 (by decide +kernel) rfl
theorem w_1282 : Cond.code yX0_add cX0_add 5 none ∈ tb := tbc_5 119 (by decide +kernel) rfl
theorem w_1309 : Cond.methodLink RX0 91 yX0_reduce ∈ tb := tbc_5 146 (by decide +kernel) rfl
theorem w_1311 : Cond.instanceMethod yX0_reduce ∈ tb := tbc_5 148 (by decide +kernel) rfl
theorem w_1312 : Cond.code yX0_reduce cX0_reduce 7 (some .int) ∈ tb := tbc_5 149 (by decide +kernel) rfl
theorem w_1313 : Cond.methodLink RX0 94 yX0_divideLong ∈ tb := tbc_5 150 (by decide +kernel) rfl
theorem w_1315 : Cond.instanceMethod yX0_divideLong ∈ tb := tbc_5 152 (by decide +kernel) rfl
theorem w_1316 : Cond.code yX0_divideLong cX0_divideLong 8 none ∈ tb := tbc_5 153 (by decide +kernel) rfl
theorem w_1317 : Cond.methodLink RX0 105 yX0_scale ∈ tb := tbc_5 154 (by decide +kernel) rfl
theorem w_1319 : Cond.instanceMethod yX0_scale ∈ tb := tbc_5 156 (by decide +kernel) rfl
theorem w_1320 : Cond.code yX0_scale cX0_scale 7 none ∈ tb := tbc_5 157 (by decide +kernel) rfl
theorem w_1321 : Cond.methodLink RX0 109 yX0_digitAt ∈ tb := tbc_5 158 (by decide +kernel) rfl
theorem w_1323 : Cond.instanceMethod yX0_digitAt ∈ tb := tbc_5 160 (by decide +kernel) rfl
theorem w_1324 : Cond.code yX0_digitAt cX0_digitAt 18 (some .int) ∈ tb := tbc_5 161 (by decide +kernel) rfl
theorem w_1325 : Cond.methodLink RX0 98 yX0_turn ∈ tb := tbc_5 162 (by decide +kernel) rfl
theorem w_1326 : Cond.instanceMethod yX0_turn ∈ tb := tbc_5 163 (by decide +kernel) rfl
theorem w_1327 : Cond.selects RX0 yX0_turn yX0_turn ∈ tb := tbc_5 164 (by decide +kernel) rfl
theorem w_1328 : Cond.code yX0_turn cX0_turn 1 none ∈ tb := tbc_5 165 (by decide +kernel) rfl
theorem w_1329 : Cond.methodLink RX0 101 yX0_add ∈ tb := tbc_5 166 (by decide +kernel) rfl
section RW27
variable {p : Program} {l : Launch} {e : Env} {R : Room} {s : State} {m : MethodId} {args : Array Value} {below : List Frame} {meth : Method} {c : Code} {H : Heap} {locs : List Loc} {cells slots : Nat} {Q : State → Prop}
variable {cc : ByteArray} {pc nL : Nat} {ls : Array Slot} {rest st0 : List Value} {G : sG} {n : Nat} {S : sS}
theorem c_X0_105 (Cx : sC G p m c cc nL s args RX0) {rm : Room} {mc ms : Nat} (h1 : rm.cells = mc) (h2 : rm.slots = ms) (h3 : rm.frames + 1 ≤ R.frames ∧ 8 + (7 + 11) + rm.locals ≤ R.locals) : CallW R s args RX0 RX0 105 yX0_scale cX0_scale 7 none (.code yX0_scale cX0_scale 7 none :: tb) rm mc ms 1 :=
  sCw Cx 1 w_1317 w_1319 w_54 w_212 w_1320 (by decide +kernel) h1 h2 h3
theorem c_X0_91 (Cx : sC G p m c cc nL s args RX0) {rm : Room} {mc ms : Nat} (h1 : rm.cells = mc) (h2 : rm.slots = ms) (h3 : rm.frames + 1 ≤ R.frames ∧ 8 + (7 + 11) + rm.locals ≤ R.locals) : CallW R s args RX0 RX0 91 yX0_reduce cX0_reduce 7 (some .int) (.code yX0_reduce cX0_reduce 7 (some .int) :: tb) rm mc ms 1 :=
  sCw Cx 1 w_1309 w_1311 w_52 w_212 w_1312 (by decide +kernel) h1 h2 h3
theorem c_X0_109 (Cx : sC G p m c cc nL s args RX0) {rm : Room} {mc ms : Nat} (h1 : rm.cells = mc) (h2 : rm.slots = ms) (h3 : rm.frames + 1 ≤ R.frames ∧ 8 + (18 + 11) + rm.locals ≤ R.locals) : CallW R s args RX0 RX0 109 yX0_digitAt cX0_digitAt 18 (some .int) (.code yX0_digitAt cX0_digitAt 18 (some .int) :: tb) rm mc ms 3 :=
  sCw Cx 3 w_1321 w_1323 w_55 w_212 w_1324 (by decide +kernel) h1 h2 h3
theorem c_X0_94 (Cx : sC G p m c cc nL s args RX0) {rm : Room} {mc ms : Nat} (h1 : rm.cells = mc) (h2 : rm.slots = ms) (h3 : rm.frames + 1 ≤ R.frames ∧ 8 + (8 + 11) + rm.locals ≤ R.locals) : CallW R s args RX0 RX0 94 yX0_divideLong cX0_divideLong 8 none (.code yX0_divideLong cX0_divideLong 8 none :: tb) rm mc ms 3 :=
  sCw Cx 3 w_1313 w_1315 w_53 w_212 w_1316 (by decide +kernel) h1 h2 h3
theorem c_X0_98 (Cx : sC G p m c cc nL s args RX0) {rm : Room} {mc ms : Nat} (h1 : rm.cells = mc) (h2 : rm.slots = ms) (h3 : rm.frames + 1 ≤ R.frames ∧ 8 + (1 + 11) + rm.locals ≤ R.locals) : CallW R s args RX0 RX0 98 yX0_turn cX0_turn 1 none (.code yX0_turn cX0_turn 1 none :: tb) rm mc ms 0 :=
  sCw Cx 0 w_1325 w_1326 w_1327 w_212 w_1328 (by decide +kernel) h1 h2 h3
theorem c_X0_101 (Cx : sC G p m c cc nL s args RX0) {rm : Room} {mc ms : Nat} (h1 : rm.cells = mc) (h2 : rm.slots = ms) (h3 : rm.frames + 1 ≤ R.frames ∧ 8 + (5 + 11) + rm.locals ≤ R.locals) : CallW R s args RX0 RX0 101 yX0_add cX0_add 5 none (.code yX0_add cX0_add 5 none :: tb) rm mc ms 2 :=
  sCw Cx 2 w_1329 w_1280 w_1281 w_212 w_1282 (by decide +kernel) h1 h2 h3
end RW27
