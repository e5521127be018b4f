theorem dX12_evaluate_0 : decode cX12_evaluate 0 = .ok (.aload_n 0, 1) := by decide +kernel
theorem dX12_evaluate_1 : decode cX12_evaluate 1 = .ok (.getfield 514, 3) := by decide +kernel
theorem dX12_evaluate_4 : decode cX12_evaluate 4 = .ok (.ifCond .eq 15, 3) := by decide +kernel
theorem dX12_evaluate_7 : decode cX12_evaluate 7 = .ok (.aload_n 0, 1) := by decide +kernel
theorem dX12_evaluate_8 : decode cX12_evaluate 8 = .ok (.invokevirtual 631, 3) := by decide +kernel
theorem dX12_evaluate_11 : decode cX12_evaluate 11 = .ok (.ifCond .eq 8, 3) := by decide +kernel
theorem dX12_evaluate_14 : decode cX12_evaluate 14 = .ok (.aload_n 0, 1) := by decide +kernel
theorem dX12_evaluate_15 : decode cX12_evaluate 15 = .ok (.invokevirtual 634, 3) := by decide +kernel
theorem dX12_evaluate_18 : decode cX12_evaluate 18 = .ok (.return_, 1) := by decide +kernel
theorem dX12_evaluate_19 : decode cX12_evaluate 19 = .ok (.iconst 0, 1) := by decide +kernel
theorem dX12_evaluate_20 : decode cX12_evaluate 20 = .ok (.istore_n 1, 1) := by decide +kernel
theorem dX12_evaluate_21 : decode cX12_evaluate 21 = .ok (.iconst 1, 1) := by decide +kernel
theorem dX12_evaluate_22 : decode cX12_evaluate 22 = .ok (.istore_n 2, 1) := by decide +kernel
theorem dX12_evaluate_23 : decode cX12_evaluate 23 = .ok (.iload_n 2, 1) := by decide +kernel
theorem dX12_evaluate_24 : decode cX12_evaluate 24 = .ok (.aload_n 0, 1) := by decide +kernel
theorem dX12_evaluate_25 : decode cX12_evaluate 25 = .ok (.getfield 483, 3) := by decide +kernel
theorem dX12_evaluate_28 : decode cX12_evaluate 28 = .ok (.if_icmp .gt 97, 3) := by decide +kernel
theorem dX12_evaluate_31 : decode cX12_evaluate 31 = .ok (.aload_n 0, 1) := by decide +kernel
theorem dX12_evaluate_32 : decode cX12_evaluate 32 = .ok (.getfield 112, 3) := by decide +kernel
theorem dX12_evaluate_35 : decode cX12_evaluate 35 = .ok (.iload_n 2, 1) := by decide +kernel
theorem dX12_evaluate_36 : decode cX12_evaluate 36 = .ok (.iaload, 1) := by decide +kernel
theorem dX12_evaluate_37 : decode cX12_evaluate 37 = .ok (.istore_n 3, 1) := by decide +kernel
theorem dX12_evaluate_38 : decode cX12_evaluate 38 = .ok (.iload_n 3, 1) := by decide +kernel
theorem dX12_evaluate_39 : decode cX12_evaluate 39 = .ok (.iconst 1, 1) := by decide +kernel
theorem dX12_evaluate_40 : decode cX12_evaluate 40 = .ok (.if_icmp .lt 79, 3) := by decide +kernel
theorem dX12_evaluate_43 : decode cX12_evaluate 43 = .ok (.iload_n 3, 1) := by decide +kernel
theorem dX12_evaluate_44 : decode cX12_evaluate 44 = .ok (.aload_n 0, 1) := by decide +kernel
theorem dX12_evaluate_45 : decode cX12_evaluate 45 = .ok (.getfield 465, 3) := by decide +kernel
theorem dX12_evaluate_48 : decode cX12_evaluate 48 = .ok (.if_icmp .gt 71, 3) := by decide +kernel
theorem dX12_evaluate_51 : decode cX12_evaluate 51 = .ok (.aload_n 0, 1) := by decide +kernel
theorem dX12_evaluate_52 : decode cX12_evaluate 52 = .ok (.getfield 94, 3) := by decide +kernel
theorem dX12_evaluate_55 : decode cX12_evaluate 55 = .ok (.iload_n 3, 1) := by decide +kernel
theorem dX12_evaluate_56 : decode cX12_evaluate 56 = .ok (.baload, 1) := by decide +kernel
theorem dX12_evaluate_57 : decode cX12_evaluate 57 = .ok (.ifCond .eq 62, 3) := by decide +kernel
theorem dX12_evaluate_60 : decode cX12_evaluate 60 = .ok (.iload_n 1, 1) := by decide +kernel
theorem dX12_evaluate_61 : decode cX12_evaluate 61 = .ok (.ifCond .le 16, 3) := by decide +kernel
theorem dX12_evaluate_64 : decode cX12_evaluate 64 = .ok (.aload_n 0, 1) := by decide +kernel
theorem dX12_evaluate_65 : decode cX12_evaluate 65 = .ok (.getfield 112, 3) := by decide +kernel
theorem dX12_evaluate_68 : decode cX12_evaluate 68 = .ok (.iload_n 1, 1) := by decide +kernel
theorem dX12_evaluate_69 : decode cX12_evaluate 69 = .ok (.iaload, 1) := by decide +kernel
theorem dX12_evaluate_70 : decode cX12_evaluate 70 = .ok (.iload_n 3, 1) := by decide +kernel
theorem dX12_evaluate_71 : decode cX12_evaluate 71 = .ok (.if_icmp .ge 6, 3) := by decide +kernel
theorem dX12_evaluate_74 : decode cX12_evaluate 74 = .ok (.goto 45, 3) := by decide +kernel
theorem dX12_evaluate_77 : decode cX12_evaluate 77 = .ok (.aload_n 0, 1) := by decide +kernel
theorem dX12_evaluate_78 : decode cX12_evaluate 78 = .ok (.aload_n 0, 1) := by decide +kernel
theorem dX12_evaluate_79 : decode cX12_evaluate 79 = .ok (.getfield 103, 3) := by decide +kernel
theorem dX12_evaluate_82 : decode cX12_evaluate 82 = .ok (.aload_n 0, 1) := by decide +kernel
theorem dX12_evaluate_83 : decode cX12_evaluate 83 = .ok (.iload_n 2, 1) := by decide +kernel
theorem dX12_evaluate_84 : decode cX12_evaluate 84 = .ok (.iconst 1, 1) := by decide +kernel
theorem dX12_evaluate_85 : decode cX12_evaluate 85 = .ok (.iadd, 1) := by decide +kernel
theorem dX12_evaluate_86 : decode cX12_evaluate 86 = .ok (.iconst 0, 1) := by decide +kernel
theorem dX12_evaluate_87 : decode cX12_evaluate 87 = .ok (.invokevirtual 529, 3) := by decide +kernel
theorem dX12_evaluate_90 : decode cX12_evaluate 90 = .ok (.aload_n 0, 1) := by decide +kernel
theorem dX12_evaluate_91 : decode cX12_evaluate 91 = .ok (.getfield 109, 3) := by decide +kernel
theorem dX12_evaluate_94 : decode cX12_evaluate 94 = .ok (.iconst 0, 1) := by decide +kernel
theorem dX12_evaluate_95 : decode cX12_evaluate 95 = .ok (.aload_n 0, 1) := by decide +kernel
theorem dX12_evaluate_96 : decode cX12_evaluate 96 = .ok (.getfield 26, 3) := by decide +kernel
theorem dX12_evaluate_99 : decode cX12_evaluate 99 = .ok (.iconst 0, 1) := by decide +kernel
theorem dX12_evaluate_100 : decode cX12_evaluate 100 = .ok (.aload_n 0, 1) := by decide +kernel
theorem dX12_evaluate_101 : decode cX12_evaluate 101 = .ok (.getfield 35, 3) := by decide +kernel
theorem dX12_evaluate_104 : decode cX12_evaluate 104 = .ok (.iconst 0, 1) := by decide +kernel
theorem dX12_evaluate_105 : decode cX12_evaluate 105 = .ok (.invokevirtual 266, 3) := by decide +kernel
theorem dX12_evaluate_108 : decode cX12_evaluate 108 = .ok (.aload_n 0, 1) := by decide +kernel
theorem dX12_evaluate_109 : decode cX12_evaluate 109 = .ok (.getfield 35, 3) := by decide +kernel
theorem dX12_evaluate_112 : decode cX12_evaluate 112 = .ok (.iconst 0, 1) := by decide +kernel
theorem dX12_evaluate_113 : decode cX12_evaluate 113 = .ok (.iaload, 1) := by decide +kernel
theorem dX12_evaluate_114 : decode cX12_evaluate 114 = .ok (.ifCond .eq 5, 3) := by decide +kernel
theorem dX12_evaluate_117 : decode cX12_evaluate 117 = .ok (.iload_n 2, 1) := by decide +kernel
theorem dX12_evaluate_118 : decode cX12_evaluate 118 = .ok (.istore_n 1, 1) := by decide +kernel
theorem dX12_evaluate_119 : decode cX12_evaluate 119 = .ok (.iinc 2 1, 3) := by decide +kernel
theorem dX12_evaluate_122 : decode cX12_evaluate 122 = .ok (.goto (-99), 3) := by decide +kernel
theorem dX12_evaluate_125 : decode cX12_evaluate 125 = .ok (.iload_n 1, 1) := by decide +kernel
theorem dX12_evaluate_126 : decode cX12_evaluate 126 = .ok (.ifCond .ne 14, 3) := by decide +kernel
theorem dX12_evaluate_129 : decode cX12_evaluate 129 = .ok (.aload_n 0, 1) := by decide +kernel
theorem dX12_evaluate_130 : decode cX12_evaluate 130 = .ok (.invokevirtual 637, 3) := by decide +kernel
theorem dX12_evaluate_133 : decode cX12_evaluate 133 = .ok (.aload_n 0, 1) := by decide +kernel
theorem dX12_evaluate_134 : decode cX12_evaluate 134 = .ok (.invokevirtual 634, 3) := by decide +kernel
theorem dX12_evaluate_137 : decode cX12_evaluate 137 = .ok (.goto 38, 3) := by decide +kernel
theorem dX12_evaluate_140 : decode cX12_evaluate 140 = .ok (.aload_n 0, 1) := by decide +kernel
theorem dX12_evaluate_141 : decode cX12_evaluate 141 = .ok (.getfield 471, 3) := by decide +kernel
theorem dX12_evaluate_144 : decode cX12_evaluate 144 = .ok (.aload_n 0, 1) := by decide +kernel
theorem dX12_evaluate_145 : decode cX12_evaluate 145 = .ok (.getfield 465, 3) := by decide +kernel
theorem dX12_evaluate_148 : decode cX12_evaluate 148 = .ok (.if_icmp .ne 22, 3) := by decide +kernel
theorem dX12_evaluate_151 : decode cX12_evaluate 151 = .ok (.aload_n 0, 1) := by decide +kernel
theorem dX12_evaluate_152 : decode cX12_evaluate 152 = .ok (.getfield 508, 3) := by decide +kernel
theorem dX12_evaluate_155 : decode cX12_evaluate 155 = .ok (.aload_n 0, 1) := by decide +kernel
theorem dX12_evaluate_156 : decode cX12_evaluate 156 = .ok (.getfield 493, 3) := by decide +kernel
theorem dX12_evaluate_159 : decode cX12_evaluate 159 = .ok (.if_icmp .ge 11, 3) := by decide +kernel
theorem dX12_evaluate_162 : decode cX12_evaluate 162 = .ok (.aload_n 0, 1) := by decide +kernel
theorem dX12_evaluate_163 : decode cX12_evaluate 163 = .ok (.iload_n 1, 1) := by decide +kernel
theorem dX12_evaluate_164 : decode cX12_evaluate 164 = .ok (.invokevirtual 640, 3) := by decide +kernel
theorem dX12_evaluate_167 : decode cX12_evaluate 167 = .ok (.goto 8, 3) := by decide +kernel
theorem dX12_evaluate_170 : decode cX12_evaluate 170 = .ok (.aload_n 0, 1) := by decide +kernel
theorem dX12_evaluate_171 : decode cX12_evaluate 171 = .ok (.iload_n 1, 1) := by decide +kernel
theorem dX12_evaluate_172 : decode cX12_evaluate 172 = .ok (.invokevirtual 643, 3) := by decide +kernel
theorem dX12_evaluate_175 : decode cX12_evaluate 175 = .ok (.return_, 1) := by decide +kernel
theorem w_171 : Cond.selects RX12 yX12_isNoBetter yX12_isNoBetter ∈ tb := sel_11 (q := (yX12_isNoBetter, 105)) 11 (by decide +kernel)
theorem w_173 : Cond.selects RX12 yX12_leafBound yX12_leafBound ∈ tb := sel_11 (q := (yX12_leafBound, 105)) 13 (by decide +kernel)
theorem w_174 : Cond.selects RX12 yX12_takeBest yX12_takeBest ∈ tb := sel_11 (q := (yX12_takeBest, 105)) 14 (by decide +kernel)
theorem w_175 : Cond.selects RX12 yX12_cut yX12_cut ∈ tb := sel_11 (q := (yX12_cut, 105)) 15 (by decide +kernel)
theorem w_176 : Cond.selects RX12 yX12_branch yX12_branch ∈ tb := sel_12 (q := (yX12_branch, 105)) 0 (by decide +kernel)
theorem w_2009 : Cond.fieldLink RX12 471 (TX12 48).1 (TX12 48).2.1 (TX12 48).2.2.1 ∈ tb := tbc_8 126 (by decide +kernel) rfl
theorem w_2642 : Cond.methodLink RX12 631 yX12_isNoBetter ∈ tb := tbc_11 39 (by decide +kernel) rfl
theorem w_2644 : Cond.instanceMethod yX12_isNoBetter ∈ tb := tbc_11 41 (by decide +kernel) rfl
theorem w_2645 : Cond.code yX12_isNoBetter cX12_isNoBetter 1 (some .boolean) ∈ tb := tbc_11 42 (by decide +kernel) rfl
theorem w_2650 : Cond.methodLink RX12 634 yX12_leafBound ∈ tb := tbc_11 47 (by decide +kernel) rfl
theorem w_2652 : Cond.instanceMethod yX12_leafBound ∈ tb := tbc_11 49 (by decide +kernel) rfl
theorem w_2653 : Cond.code yX12_leafBound cX12_leafBound 1 none ∈ tb := tbc_11 50 (by decide +kernel) rfl
theorem w_2655 : Cond.methodLink RX12 637 yX12_takeBest ∈ tb := tbc_11 52 (by decide +kernel) rfl
theorem w_2657 : Cond.instanceMethod yX12_takeBest ∈ tb := tbc_11 54 (by decide +kernel) rfl
theorem w_2658 : Cond.code yX12_takeBest cX12_takeBest 2 none ∈ tb := tbc_11 55 (by decide +kernel) rfl
theorem w_2659 : Cond.methodLink RX12 640 yX12_cut ∈ tb := tbc_11 56 (by decide +kernel) rfl
theorem w_2661 : Cond.instanceMethod yX12_cut ∈ tb := tbc_11 58 (by decide +kernel) rfl
theorem w_2662 : Cond.code yX12_cut cX12_cut 5 none ∈ tb := tbc_11 59 (by decide +kernel) rfl
theorem w_2664 : Cond.methodLink RX12 643 yX12_branch ∈ tb := tbc_11 61 (by decide +kernel) rfl
theorem w_2666 : Cond.instanceMethod yX12_branch ∈ tb := tbc_11 63 (by decide +kernel) rfl
theorem w_2667 : Cond.code yX12_branch cX12_branch 4 none ∈ tb := tbc_11 64 (by decide +kernel) rfl
section RW68
variable {p : Program} {l : Launch} {e : Env} {R : Room} {s : State} {m : MethodId} {args : Array Value} {below : List Frame} {meth : Method} {c : Code} {H : Heap} {locs : List Loc} {cells slots : Nat} {Q : State → Prop}
variable {cc : ByteArray} {pc nL : Nat} {ls : Array Slot} {rest st0 : List Value} {G : sG} {n : Nat} {S : sS}
theorem g_X12_471 (Cx : sC G p m c cc nL s args RX12) (hW : sW G n S H) {k : Nat} (hk : k < n) (ht : tau k = .inl 12) {v : Int} (hv : S.1 k 48 = v) (hdg : decode cc pc = .ok (.getfield 471, 3)) (kk : W p l e R s m args below meth c H locs cells slots Q (F0 m (pc + 3) ls (.int (iv v) :: rest))) : W p l e R s m args below meth c H locs cells slots Q (F0 m pc ls (.ref (G.2.2.1 + k) :: rest)) :=
  sGet Cx inX12 rfl 48 (by decide) w_2009 hW hk ht (congrArg (fun z => Value.int (iv z)) hv) hdg kk
theorem c_X12_643 (Cx : sC G p m c cc nL s args RX12) {rm : Room} {mc ms : Nat} (h1 : rm.cells = mc) (h2 : rm.slots = ms) (h3 : rm.frames + 1 ≤ R.frames ∧ 8 + (4 + 11) + rm.locals ≤ R.locals) : CallW R s args RX12 RX12 643 yX12_branch cX12_branch 4 none (.code yX12_branch cX12_branch 4 none :: tb) rm mc ms 1 :=
  sCw Cx 1 w_2664 w_2666 w_176 w_217 w_2667 (by decide +kernel) h1 h2 h3
theorem g_X12_493 (Cx : sC G p m c cc nL s args RX12) (hW : sW G n S H) {k : Nat} (hk : k < n) (ht : tau k = .inl 12) {v : Int} (hv : S.1 k 68 = v) (hdg : decode cc pc = .ok (.getfield 493, 3)) (kk : W p l e R s m args below meth c H locs cells slots Q (F0 m (pc + 3) ls (.int (iv v) :: rest))) : W p l e R s m args below meth c H locs cells slots Q (F0 m pc ls (.ref (G.2.2.1 + k) :: rest)) :=
  sGet Cx inX12 rfl 68 (by decide) w_2029 hW hk ht (congrArg (fun z => Value.int (iv z)) hv) hdg kk
theorem c_X12_640 (Cx : sC G p m c cc nL s args RX12) {rm : Room} {mc ms : Nat} (h1 : rm.cells = mc) (h2 : rm.slots = ms) (h3 : rm.frames + 1 ≤ R.frames ∧ 8 + (5 + 11) + rm.locals ≤ R.locals) : CallW R s args RX12 RX12 640 yX12_cut cX12_cut 5 none (.code yX12_cut cX12_cut 5 none :: tb) rm mc ms 1 :=
  sCw Cx 1 w_2659 w_2661 w_175 w_217 w_2662 (by decide +kernel) h1 h2 h3
theorem c_X12_637 (Cx : sC G p m c cc nL s args RX12) {rm : Room} {mc ms : Nat} (h1 : rm.cells = mc) (h2 : rm.slots = ms) (h3 : rm.frames + 1 ≤ R.frames ∧ 8 + (2 + 11) + rm.locals ≤ R.locals) : CallW R s args RX12 RX12 637 yX12_takeBest cX12_takeBest 2 none (.code yX12_takeBest cX12_takeBest 2 none :: tb) rm mc ms 0 :=
  sCw Cx 0 w_2655 w_2657 w_174 w_217 w_2658 (by decide +kernel) h1 h2 h3
theorem c_X12_634 (Cx : sC G p m c cc nL s args RX12) {rm : Room} {mc ms : Nat} (h1 : rm.cells = mc) (h2 : rm.slots = ms) (h3 : rm.frames + 1 ≤ R.frames ∧ 8 + (1 + 11) + rm.locals ≤ R.locals) : CallW R s args RX12 RX12 634 yX12_leafBound cX12_leafBound 1 none (.code yX12_leafBound cX12_leafBound 1 none :: tb) rm mc ms 0 :=
  sCw Cx 0 w_2650 w_2652 w_173 w_217 w_2653 (by decide +kernel) h1 h2 h3
theorem c_X12_631 (Cx : sC G p m c cc nL s args RX12) {rm : Room} {mc ms : Nat} (h1 : rm.cells = mc) (h2 : rm.slots = ms) (h3 : rm.frames + 1 ≤ R.frames ∧ 8 + (1 + 11) + rm.locals ≤ R.locals) : CallW R s args RX12 RX12 631 yX12_isNoBetter cX12_isNoBetter 1 (some .boolean) (.code yX12_isNoBetter cX12_isNoBetter 1 (some .boolean) :: tb) rm mc ms 0 :=
  sCw Cx 0 w_2642 w_2644 w_171 w_217 w_2645 (by decide +kernel) h1 h2 h3
end RW68
