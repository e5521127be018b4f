theorem dX10_word_0 : decode cX10_word 0 = .ok (.aload_n 0, 1) := by decide +kernel
theorem dX10_word_1 : decode cX10_word 1 = .ok (.getfield 21, 3) := by decide +kernel
theorem dX10_word_4 : decode cX10_word 4 = .ok (.ifCond .le 9, 3) := by decide +kernel
theorem dX10_word_7 : decode cX10_word 7 = .ok (.aload_n 0, 1) := by decide +kernel
theorem dX10_word_8 : decode cX10_word 8 = .ok (.bipush 32, 2) := by decide +kernel
theorem dX10_word_10 : decode cX10_word 10 = .ok (.invokevirtual 29, 3) := by decide +kernel
theorem dX10_word_13 : decode cX10_word 13 = .ok (.iconst 0, 1) := by decide +kernel
theorem dX10_word_14 : decode cX10_word 14 = .ok (.istore_n 2, 1) := by decide +kernel
theorem dX10_word_15 : decode cX10_word 15 = .ok (.iload_n 2, 1) := by decide +kernel
theorem dX10_word_16 : decode cX10_word 16 = .ok (.aload_n 1, 1) := by decide +kernel
theorem dX10_word_17 : decode cX10_word 17 = .ok (.invokevirtual 33, 3) := by decide +kernel
theorem dX10_word_20 : decode cX10_word 20 = .ok (.if_icmp .ge 18, 3) := by decide +kernel
theorem dX10_word_23 : decode cX10_word 23 = .ok (.aload_n 0, 1) := by decide +kernel
theorem dX10_word_24 : decode cX10_word 24 = .ok (.aload_n 1, 1) := by decide +kernel
theorem dX10_word_25 : decode cX10_word 25 = .ok (.iload_n 2, 1) := by decide +kernel
theorem dX10_word_26 : decode cX10_word 26 = .ok (.invokevirtual 38, 3) := by decide +kernel
theorem dX10_word_29 : decode cX10_word 29 = .ok (.invokevirtual 29, 3) := by decide +kernel
theorem dX10_word_32 : decode cX10_word 32 = .ok (.iinc 2 1, 3) := by decide +kernel
theorem dX10_word_35 : decode cX10_word 35 = .ok (.goto (-20), 3) := by decide +kernel
theorem dX10_word_38 : decode cX10_word 38 = .ok (.return_, 1) := by decide +kernel
theorem w_1414 : Cond.methodLink RX10 33 yJ0_length_8abf5 ∈ tb := tbc_6 11 (by decide +kernel) rfl
theorem w_1415 : Cond.methodLink RX10 38 yJ0_charAt_5068e ∈ tb := tbc_6 12 (by decide +kernel) rfl
theorem w_1416 : Cond.instanceMethod yJ0_charAt_5068e ∈ tb := tbc_6 13 (by decide +kernel) rfl
theorem w_1417 : Cond.selects RJ0 yJ0_charAt_5068e yJ0_charAt_5068e ∈ tb := tbc_6 14 (by decide +kernel) rfl
theorem w_1418 : Cond.code yJ0_charAt_5068e cJ0_charAt_5068e 2 (some .char) ∈ tb := tbc_6 15 (by decide +kernel) rfl
section RW34
variable {p : Program} {l : Launch} {e : Env} {R : Room} {s : State} {m : MethodId} {args : Array Value} {below : List Frame} {meth : Method} {c : Code} {H : Heap} {locs : List Loc} {cells slots : Nat} {Q : State → Prop}
variable {cc : ByteArray} {pc nL : Nat} {ls : Array Slot} {rest st0 : List Value} {G : sG} {n : Nat} {S : sS}
theorem c_X10_33 (Cx : sC G p m c cc nL s args RX10) {rm : Room} {mc ms : Nat} (h1 : rm.cells = mc) (h2 : rm.slots = ms) (h3 : rm.frames + 1 ≤ R.frames ∧ 8 + (1 + 11) + rm.locals ≤ R.locals) : CallW R s args RX10 RJ0 33 yJ0_length_8abf5 cJ0_length_8abf5 1 (some .int) (.code yJ0_length_8abf5 cJ0_length_8abf5 1 (some .int) :: tb) rm mc ms 0 :=
  sCw Cx 0 w_1414 w_826 w_827 w_218 w_828 (by decide +kernel) h1 h2 h3
theorem c_X10_38 (Cx : sC G p m c cc nL s args RX10) {rm : Room} {mc ms : Nat} (h1 : rm.cells = mc) (h2 : rm.slots = ms) (h3 : rm.frames + 1 ≤ R.frames ∧ 8 + (2 + 11) + rm.locals ≤ R.locals) : CallW R s args RX10 RJ0 38 yJ0_charAt_5068e cJ0_charAt_5068e 2 (some .char) (.code yJ0_charAt_5068e cJ0_charAt_5068e 2 (some .char) :: tb) rm mc ms 1 :=
  sCw Cx 1 w_1415 w_1416 w_1417 w_218 w_1418 (by decide +kernel) h1 h2 h3
end RW34
