theorem dX0_read_0 : decode cX0_read 0 = .ok (.aload_n 0, 1) := by decide +kernel
theorem dX0_read_1 : decode cX0_read 1 = .ok (.iload_n 3, 1) := by decide +kernel
theorem dX0_read_2 : decode cX0_read 2 = .ok (.iload_n 2, 1) := by decide +kernel
theorem dX0_read_3 : decode cX0_read 3 = .ok (.isub, 1) := by decide +kernel
theorem dX0_read_4 : decode cX0_read 4 = .ok (.bipush 8, 2) := by decide +kernel
theorem dX0_read_6 : decode cX0_read 6 = .ok (.iadd, 1) := by decide +kernel
theorem dX0_read_7 : decode cX0_read 7 = .ok (.bipush 9, 2) := by decide +kernel
theorem dX0_read_9 : decode cX0_read 9 = .ok (.idiv, 1) := by decide +kernel
theorem dX0_read_10 : decode cX0_read 10 = .ok (.bipush 32, 2) := by decide +kernel
theorem dX0_read_12 : decode cX0_read 12 = .ok (.invokestatic 47, 3) := by decide +kernel
theorem dX0_read_15 : decode cX0_read 15 = .ok (.putfield 24, 3) := by decide +kernel
theorem dX0_read_18 : decode cX0_read 18 = .ok (.iconst 0, 1) := by decide +kernel
theorem dX0_read_19 : decode cX0_read 19 = .ok (.istore 4, 2) := by decide +kernel
theorem dX0_read_21 : decode cX0_read 21 = .ok (.iload 4, 2) := by decide +kernel
theorem dX0_read_23 : decode cX0_read 23 = .ok (.aload_n 0, 1) := by decide +kernel
theorem dX0_read_24 : decode cX0_read 24 = .ok (.getfield 24, 3) := by decide +kernel
theorem dX0_read_27 : decode cX0_read 27 = .ok (.if_icmp .ge 71, 3) := by decide +kernel
theorem dX0_read_30 : decode cX0_read 30 = .ok (.iconst 0, 1) := by decide +kernel
theorem dX0_read_31 : decode cX0_read 31 = .ok (.istore 5, 2) := by decide +kernel
theorem dX0_read_33 : decode cX0_read 33 = .ok (.iload_n 3, 1) := by decide +kernel
theorem dX0_read_34 : decode cX0_read 34 = .ok (.bipush 9, 2) := by decide +kernel
theorem dX0_read_36 : decode cX0_read 36 = .ok (.iload 4, 2) := by decide +kernel
theorem dX0_read_38 : decode cX0_read 38 = .ok (.imul, 1) := by decide +kernel
theorem dX0_read_39 : decode cX0_read 39 = .ok (.isub, 1) := by decide +kernel
theorem dX0_read_40 : decode cX0_read 40 = .ok (.istore 6, 2) := by decide +kernel
theorem dX0_read_42 : decode cX0_read 42 = .ok (.iload_n 2, 1) := by decide +kernel
theorem dX0_read_43 : decode cX0_read 43 = .ok (.iload 6, 2) := by decide +kernel
theorem dX0_read_45 : decode cX0_read 45 = .ok (.bipush 9, 2) := by decide +kernel
theorem dX0_read_47 : decode cX0_read 47 = .ok (.isub, 1) := by decide +kernel
theorem dX0_read_48 : decode cX0_read 48 = .ok (.invokestatic 51, 3) := by decide +kernel
theorem dX0_read_51 : decode cX0_read 51 = .ok (.istore 7, 2) := by decide +kernel
theorem dX0_read_53 : decode cX0_read 53 = .ok (.iload 7, 2) := by decide +kernel
theorem dX0_read_55 : decode cX0_read 55 = .ok (.iload 6, 2) := by decide +kernel
theorem dX0_read_57 : decode cX0_read 57 = .ok (.if_icmp .ge 26, 3) := by decide +kernel
theorem dX0_read_60 : decode cX0_read 60 = .ok (.bipush 10, 2) := by decide +kernel
theorem dX0_read_62 : decode cX0_read 62 = .ok (.iload 5, 2) := by decide +kernel
theorem dX0_read_64 : decode cX0_read 64 = .ok (.imul, 1) := by decide +kernel
theorem dX0_read_65 : decode cX0_read 65 = .ok (.aload_n 1, 1) := by decide +kernel
theorem dX0_read_66 : decode cX0_read 66 = .ok (.iload 7, 2) := by decide +kernel
theorem dX0_read_68 : decode cX0_read 68 = .ok (.invokevirtual 54, 3) := by decide +kernel
theorem dX0_read_71 : decode cX0_read 71 = .ok (.iadd, 1) := by decide +kernel
theorem dX0_read_72 : decode cX0_read 72 = .ok (.bipush 48, 2) := by decide +kernel
theorem dX0_read_74 : decode cX0_read 74 = .ok (.isub, 1) := by decide +kernel
theorem dX0_read_75 : decode cX0_read 75 = .ok (.istore 5, 2) := by decide +kernel
theorem dX0_read_77 : decode cX0_read 77 = .ok (.iinc 7 1, 3) := by decide +kernel
theorem dX0_read_80 : decode cX0_read 80 = .ok (.goto (-27), 3) := by decide +kernel
theorem dX0_read_83 : decode cX0_read 83 = .ok (.aload_n 0, 1) := by decide +kernel
theorem dX0_read_84 : decode cX0_read 84 = .ok (.getfield 9, 3) := by decide +kernel
theorem dX0_read_87 : decode cX0_read 87 = .ok (.iload 4, 2) := by decide +kernel
theorem dX0_read_89 : decode cX0_read 89 = .ok (.iload 5, 2) := by decide +kernel
theorem dX0_read_91 : decode cX0_read 91 = .ok (.iastore, 1) := by decide +kernel
theorem dX0_read_92 : decode cX0_read 92 = .ok (.iinc 4 1, 3) := by decide +kernel
theorem dX0_read_95 : decode cX0_read 95 = .ok (.goto (-74), 3) := by decide +kernel
theorem dX0_read_98 : decode cX0_read 98 = .ok (.aload_n 0, 1) := by decide +kernel
theorem dX0_read_99 : decode cX0_read 99 = .ok (.iconst 1, 1) := by decide +kernel
theorem dX0_read_100 : decode cX0_read 100 = .ok (.putfield 34, 3) := by decide +kernel
theorem dX0_read_103 : decode cX0_read 103 = .ok (.aload_n 0, 1) := by decide +kernel
theorem dX0_read_104 : decode cX0_read 104 = .ok (.invokevirtual 59, 3) := by decide +kernel
theorem dX0_read_107 : decode cX0_read 107 = .ok (.return_, 1) := by decide +kernel
theorem dX10_word_0 : decode cX10_word 0 = .ok (.aload_n 0, 1) := by decide +kernel
theorem dX10_word_1 : decode cX10_word 1 = .ok (.getfield 21, 3) := by decide +kernel
theorem dX10_word_4 : decode cX10_word 4 = .ok (.ifCond .le 9, 3) := by decide +kernel
theorem dX10_word_7 : decode cX10_word 7 = .ok (.aload_n 0, 1) := by decide +kernel
theorem dX10_word_8 : decode cX10_word 8 = .ok (.bipush 32, 2) := by decide +kernel
theorem dX10_word_10 : decode cX10_word 10 = .ok (.invokevirtual 29, 3) := by decide +kernel
theorem dX10_word_13 : decode cX10_word 13 = .ok (.iconst 0, 1) := by decide +kernel
theorem dX10_word_14 : decode cX10_word 14 = .ok (.istore_n 2, 1) := by decide +kernel
theorem dX10_word_15 : decode cX10_word 15 = .ok (.iload_n 2, 1) := by decide +kernel
theorem dX10_word_16 : decode cX10_word 16 = .ok (.aload_n 1, 1) := by decide +kernel
theorem dX10_word_17 : decode cX10_word 17 = .ok (.invokevirtual 33, 3) := by decide +kernel
theorem dX10_word_20 : decode cX10_word 20 = .ok (.if_icmp .ge 18, 3) := by decide +kernel
theorem dX10_word_23 : decode cX10_word 23 = .ok (.aload_n 0, 1) := by decide +kernel
theorem dX10_word_24 : decode cX10_word 24 = .ok (.aload_n 1, 1) := by decide +kernel
theorem dX10_word_25 : decode cX10_word 25 = .ok (.iload_n 2, 1) := by decide +kernel
theorem dX10_word_26 : decode cX10_word 26 = .ok (.invokevirtual 38, 3) := by decide +kernel
theorem dX10_word_29 : decode cX10_word 29 = .ok (.invokevirtual 29, 3) := by decide +kernel
theorem dX10_word_32 : decode cX10_word 32 = .ok (.iinc 2 1, 3) := by decide +kernel
theorem dX10_word_35 : decode cX10_word 35 = .ok (.goto (-20), 3) := by decide +kernel
theorem dX10_word_38 : decode cX10_word 38 = .ok (.return_, 1) := by decide +kernel
theorem w_784 : Cond.instanceMethod yX10_byteAt ∈ tb := tbc_3 101 (by decide +kernel) rfl
theorem w_785 : Cond.selects RX10 yX10_byteAt yX10_byteAt ∈ tb := tbc_3 102 (by decide +kernel) rfl
theorem w_786 : Cond.code yX10_byteAt cX10_byteAt 2 (some .int) ∈ tb := tbc_3 103 (by decide +kernel) rfl
theorem w_1414 : Cond.methodLink RX10 33 yJ0_length_8abf5 ∈ tb := tbc_6 11 (by decide +kernel) rfl
theorem w_1415 : Cond.methodLink RX10 38 yJ0_charAt_5068e ∈ tb := tbc_6 12 (by decide +kernel) rfl
theorem w_1416 : Cond.instanceMethod yJ0_charAt_5068e ∈ tb := tbc_6 13 (by decide +kernel) rfl
theorem w_1417 : Cond.selects RJ0 yJ0_charAt_5068e yJ0_charAt_5068e ∈ tb := tbc_6 14 (by decide +kernel) rfl
theorem w_1418 : Cond.code yJ0_charAt_5068e cJ0_charAt_5068e 2 (some .char) ∈ tb := tbc_6 15 (by decide +kernel) rfl
theorem w_1866 : Cond.methodLink RX0 54 yX10_byteAt ∈ tb := tbc_7 223 (by decide +kernel) rfl
section RW34
variable {p : Program} {l : Launch} {e : Env} {R : Room} {s : State} {m : MethodId} {args : Array Value} {below : List Frame} {meth : Method} {c : Code} {H : Heap} {locs : List Loc} {cells slots : Nat} {Q : State → Prop}
variable {cc : ByteArray} {pc nL : Nat} {ls : Array Slot} {rest st0 : List Value} {G : sG} {n : Nat} {S : sS}
theorem c_X10_33 (Cx : sC G p m c cc nL s args RX10) {rm : Room} {mc ms : Nat} (h1 : rm.cells = mc) (h2 : rm.slots = ms) (h3 : rm.frames + 1 ≤ R.frames ∧ 8 + (1 + 11) + rm.locals ≤ R.locals) : CallW R s args RX10 RJ0 33 yJ0_length_8abf5 cJ0_length_8abf5 1 (some .int) (.code yJ0_length_8abf5 cJ0_length_8abf5 1 (some .int) :: tb) rm mc ms 0 :=
  sCw Cx 0 w_1414 w_826 w_827 w_218 w_828 (by decide +kernel) h1 h2 h3
theorem c_X10_38 (Cx : sC G p m c cc nL s args RX10) {rm : Room} {mc ms : Nat} (h1 : rm.cells = mc) (h2 : rm.slots = ms) (h3 : rm.frames + 1 ≤ R.frames ∧ 8 + (2 + 11) + rm.locals ≤ R.locals) : CallW R s args RX10 RJ0 38 yJ0_charAt_5068e cJ0_charAt_5068e 2 (some .char) (.code yJ0_charAt_5068e cJ0_charAt_5068e 2 (some .char) :: tb) rm mc ms 1 :=
  sCw Cx 1 w_1415 w_1416 w_1417 w_218 w_1418 (by decide +kernel) h1 h2 h3
theorem c_X0_54 (Cx : sC G p m c cc nL s args RX0) {rm : Room} {mc ms : Nat} (h1 : rm.cells = mc) (h2 : rm.slots = ms) (h3 : rm.frames + 1 ≤ R.frames ∧ 8 + (2 + 11) + rm.locals ≤ R.locals) : CallW R s args RX0 RX10 54 yX10_byteAt cX10_byteAt 2 (some .int) (.code yX10_byteAt cX10_byteAt 2 (some .int) :: tb) rm mc ms 1 :=
  sCw Cx 1 w_1866 w_784 w_785 w_205 w_786 (by decide +kernel) h1 h2 h3
end RW34
