theorem dX12_factor_0 : decode cX12_factor 0 = .ok (.aload_n 0, 1) := by decide +kernel
theorem dX12_factor_1 : decode cX12_factor 1 = .ok (.getfield 270, 3) := by decide +kernel
theorem dX12_factor_4 : decode cX12_factor 4 = .ok (.ifCond .eq 4, 3) := by decide +kernel
theorem dX12_factor_8 : decode cX12_factor 8 = .ok (.aload_n 0, 1) := by decide +kernel
theorem dX12_factor_9 : decode cX12_factor 9 = .ok (.dup, 1) := by decide +kernel
theorem dX12_factor_10 : decode cX12_factor 10 = .ok (.getfield 376, 3) := by decide +kernel
theorem dX12_factor_13 : decode cX12_factor 13 = .ok (.iconst 1, 1) := by decide +kernel
theorem dX12_factor_14 : decode cX12_factor 14 = .ok (.iadd, 1) := by decide +kernel
theorem dX12_factor_15 : decode cX12_factor 15 = .ok (.putfield 376, 3) := by decide +kernel
theorem dX12_factor_18 : decode cX12_factor 18 = .ok (.aload_n 0, 1) := by decide +kernel
theorem dX12_factor_19 : decode cX12_factor 19 = .ok (.getfield 376, 3) := by decide +kernel
theorem dX12_factor_22 : decode cX12_factor 22 = .ok (.sipush 20000, 3) := by decide +kernel
theorem dX12_factor_25 : decode cX12_factor 25 = .ok (.if_icmp .le 14, 3) := by decide +kernel
theorem dX12_factor_28 : decode cX12_factor 28 = .ok (.aload_n 0, 1) := by decide +kernel
theorem dX12_factor_29 : decode cX12_factor 29 = .ok (.bipush 7, 2) := by decide +kernel
theorem dX12_factor_31 : decode cX12_factor 31 = .ok (.aload_n 0, 1) := by decide +kernel
theorem dX12_factor_32 : decode cX12_factor 32 = .ok (.getfield 315, 3) := by decide +kernel
theorem dX12_factor_35 : decode cX12_factor 35 = .ok (.invokevirtual 321, 3) := by decide +kernel
theorem dX12_factor_38 : decode cX12_factor 38 = .ok (.return_, 1) := by decide +kernel
theorem dX12_factor_39 : decode cX12_factor 39 = .ok (.aload_n 0, 1) := by decide +kernel
theorem dX12_factor_40 : decode cX12_factor 40 = .ok (.bipush 45, 2) := by decide +kernel
theorem dX12_factor_42 : decode cX12_factor 42 = .ok (.invokevirtual 318, 3) := by decide +kernel
theorem dX12_factor_45 : decode cX12_factor 45 = .ok (.ifCond .eq 52, 3) := by decide +kernel
theorem dX12_factor_48 : decode cX12_factor 48 = .ok (.aload_n 0, 1) := by decide +kernel
theorem dX12_factor_49 : decode cX12_factor 49 = .ok (.dup, 1) := by decide +kernel
theorem dX12_factor_50 : decode cX12_factor 50 = .ok (.getfield 315, 3) := by decide +kernel
theorem dX12_factor_53 : decode cX12_factor 53 = .ok (.iconst 1, 1) := by decide +kernel
theorem dX12_factor_54 : decode cX12_factor 54 = .ok (.iadd, 1) := by decide +kernel
theorem dX12_factor_55 : decode cX12_factor 55 = .ok (.putfield 315, 3) := by decide +kernel
theorem dX12_factor_58 : decode cX12_factor 58 = .ok (.aload_n 0, 1) := by decide +kernel
theorem dX12_factor_59 : decode cX12_factor 59 = .ok (.iload_n 1, 1) := by decide +kernel
theorem dX12_factor_60 : decode cX12_factor 60 = .ok (.invokevirtual 426, 3) := by decide +kernel
theorem dX12_factor_63 : decode cX12_factor 63 = .ok (.iconst 0, 1) := by decide +kernel
theorem dX12_factor_64 : decode cX12_factor 64 = .ok (.istore_n 2, 1) := by decide +kernel
theorem dX12_factor_65 : decode cX12_factor 65 = .ok (.iload_n 2, 1) := by decide +kernel
theorem dX12_factor_66 : decode cX12_factor 66 = .ok (.bipush 12, 2) := by decide +kernel
theorem dX12_factor_68 : decode cX12_factor 68 = .ok (.if_icmp .gt 26, 3) := by decide +kernel
theorem dX12_factor_71 : decode cX12_factor 71 = .ok (.aload_n 0, 1) := by decide +kernel
theorem dX12_factor_72 : decode cX12_factor 72 = .ok (.getfield 88, 3) := by decide +kernel
theorem dX12_factor_75 : decode cX12_factor 75 = .ok (.iload_n 1, 1) := by decide +kernel
theorem dX12_factor_76 : decode cX12_factor 76 = .ok (.iload_n 2, 1) := by decide +kernel
theorem dX12_factor_77 : decode cX12_factor 77 = .ok (.iadd, 1) := by decide +kernel
theorem dX12_factor_78 : decode cX12_factor 78 = .ok (.aload_n 0, 1) := by decide +kernel
theorem dX12_factor_79 : decode cX12_factor 79 = .ok (.getfield 88, 3) := by decide +kernel
theorem dX12_factor_82 : decode cX12_factor 82 = .ok (.iload_n 1, 1) := by decide +kernel
theorem dX12_factor_83 : decode cX12_factor 83 = .ok (.iload_n 2, 1) := by decide +kernel
theorem dX12_factor_84 : decode cX12_factor 84 = .ok (.iadd, 1) := by decide +kernel
theorem dX12_factor_85 : decode cX12_factor 85 = .ok (.laload, 1) := by decide +kernel
theorem dX12_factor_86 : decode cX12_factor 86 = .ok (.lneg, 1) := by decide +kernel
theorem dX12_factor_87 : decode cX12_factor 87 = .ok (.lastore, 1) := by decide +kernel
theorem dX12_factor_88 : decode cX12_factor 88 = .ok (.iinc 2 1, 3) := by decide +kernel
theorem dX12_factor_91 : decode cX12_factor 91 = .ok (.goto (-26), 3) := by decide +kernel
theorem dX12_factor_94 : decode cX12_factor 94 = .ok (.goto 103, 3) := by decide +kernel
theorem dX12_factor_97 : decode cX12_factor 97 = .ok (.aload_n 0, 1) := by decide +kernel
theorem dX12_factor_98 : decode cX12_factor 98 = .ok (.getfield 47, 3) := by decide +kernel
theorem dX12_factor_101 : decode cX12_factor 101 = .ok (.aload_n 0, 1) := by decide +kernel
theorem dX12_factor_102 : decode cX12_factor 102 = .ok (.getfield 315, 3) := by decide +kernel
theorem dX12_factor_105 : decode cX12_factor 105 = .ok (.iaload, 1) := by decide +kernel
theorem dX12_factor_106 : decode cX12_factor 106 = .ok (.iconst 2, 1) := by decide +kernel
theorem dX12_factor_107 : decode cX12_factor 107 = .ok (.if_icmp .ne 31, 3) := by decide +kernel
theorem dX12_factor_110 : decode cX12_factor 110 = .ok (.aload_n 0, 1) := by decide +kernel
theorem dX12_factor_111 : decode cX12_factor 111 = .ok (.iload_n 1, 1) := by decide +kernel
theorem dX12_factor_112 : decode cX12_factor 112 = .ok (.aload_n 0, 1) := by decide +kernel
theorem dX12_factor_113 : decode cX12_factor 113 = .ok (.getfield 56, 3) := by decide +kernel
theorem dX12_factor_116 : decode cX12_factor 116 = .ok (.aload_n 0, 1) := by decide +kernel
theorem dX12_factor_117 : decode cX12_factor 117 = .ok (.getfield 315, 3) := by decide +kernel
theorem dX12_factor_120 : decode cX12_factor 120 = .ok (.iaload, 1) := by decide +kernel
theorem dX12_factor_121 : decode cX12_factor 121 = .ok (.i2l, 1) := by decide +kernel
theorem dX12_factor_122 : decode cX12_factor 122 = .ok (.invokevirtual 431, 3) := by decide +kernel
theorem dX12_factor_125 : decode cX12_factor 125 = .ok (.aload_n 0, 1) := by decide +kernel
theorem dX12_factor_126 : decode cX12_factor 126 = .ok (.dup, 1) := by decide +kernel
theorem dX12_factor_127 : decode cX12_factor 127 = .ok (.getfield 315, 3) := by decide +kernel
theorem dX12_factor_130 : decode cX12_factor 130 = .ok (.iconst 1, 1) := by decide +kernel
theorem dX12_factor_131 : decode cX12_factor 131 = .ok (.iadd, 1) := by decide +kernel
theorem dX12_factor_132 : decode cX12_factor 132 = .ok (.putfield 315, 3) := by decide +kernel
theorem dX12_factor_135 : decode cX12_factor 135 = .ok (.goto 62, 3) := by decide +kernel
theorem dX12_factor_138 : decode cX12_factor 138 = .ok (.aload_n 0, 1) := by decide +kernel
theorem dX12_factor_139 : decode cX12_factor 139 = .ok (.bipush 40, 2) := by decide +kernel
theorem dX12_factor_141 : decode cX12_factor 141 = .ok (.invokevirtual 318, 3) := by decide +kernel
theorem dX12_factor_144 : decode cX12_factor 144 = .ok (.ifCond .eq 31, 3) := by decide +kernel
theorem dX12_factor_147 : decode cX12_factor 147 = .ok (.aload_n 0, 1) := by decide +kernel
theorem dX12_factor_148 : decode cX12_factor 148 = .ok (.dup, 1) := by decide +kernel
theorem dX12_factor_149 : decode cX12_factor 149 = .ok (.getfield 315, 3) := by decide +kernel
theorem dX12_factor_152 : decode cX12_factor 152 = .ok (.iconst 1, 1) := by decide +kernel
theorem dX12_factor_153 : decode cX12_factor 153 = .ok (.iadd, 1) := by decide +kernel
theorem dX12_factor_154 : decode cX12_factor 154 = .ok (.putfield 315, 3) := by decide +kernel
theorem dX12_factor_157 : decode cX12_factor 157 = .ok (.aload_n 0, 1) := by decide +kernel
theorem dX12_factor_158 : decode cX12_factor 158 = .ok (.iload_n 1, 1) := by decide +kernel
theorem dX12_factor_159 : decode cX12_factor 159 = .ok (.invokevirtual 398, 3) := by decide +kernel
theorem dX12_factor_162 : decode cX12_factor 162 = .ok (.aload_n 0, 1) := by decide +kernel
theorem dX12_factor_163 : decode cX12_factor 163 = .ok (.dup, 1) := by decide +kernel
theorem dX12_factor_164 : decode cX12_factor 164 = .ok (.getfield 315, 3) := by decide +kernel
theorem dX12_factor_167 : decode cX12_factor 167 = .ok (.iconst 1, 1) := by decide +kernel
theorem dX12_factor_168 : decode cX12_factor 168 = .ok (.iadd, 1) := by decide +kernel
theorem dX12_factor_169 : decode cX12_factor 169 = .ok (.putfield 315, 3) := by decide +kernel
theorem dX12_factor_172 : decode cX12_factor 172 = .ok (.goto 25, 3) := by decide +kernel
theorem dX12_factor_175 : decode cX12_factor 175 = .ok (.aload_n 0, 1) := by decide +kernel
theorem dX12_factor_176 : decode cX12_factor 176 = .ok (.bipush 7, 2) := by decide +kernel
theorem dX12_factor_178 : decode cX12_factor 178 = .ok (.invokevirtual 325, 3) := by decide +kernel
theorem dX12_factor_181 : decode cX12_factor 181 = .ok (.ifCond .eq 11, 3) := by decide +kernel
theorem dX12_factor_184 : decode cX12_factor 184 = .ok (.aload_n 0, 1) := by decide +kernel
theorem dX12_factor_185 : decode cX12_factor 185 = .ok (.iload_n 1, 1) := by decide +kernel
theorem dX12_factor_186 : decode cX12_factor 186 = .ok (.invokevirtual 435, 3) := by decide +kernel
theorem dX12_factor_189 : decode cX12_factor 189 = .ok (.goto 8, 3) := by decide +kernel
theorem dX12_factor_192 : decode cX12_factor 192 = .ok (.aload_n 0, 1) := by decide +kernel
theorem dX12_factor_193 : decode cX12_factor 193 = .ok (.iload_n 1, 1) := by decide +kernel
theorem dX12_factor_194 : decode cX12_factor 194 = .ok (.invokevirtual 438, 3) := by decide +kernel
theorem dX12_factor_197 : decode cX12_factor 197 = .ok (.return_, 1) := by decide +kernel
theorem w_132 : Cond.selects RX12 yX12_expression yX12_expression ∈ tb := sel_9 (q := (yX12_expression, 105)) 4 (by decide +kernel)
theorem w_136 : Cond.selects RX12 yX12_sum yX12_sum ∈ tb := sel_9 (q := (yX12_sum, 105)) 8 (by decide +kernel)
theorem w_138 : Cond.selects RX12 yX12_named yX12_named ∈ tb := sel_9 (q := (yX12_named, 105)) 10 (by decide +kernel)
theorem w_2003 : Cond.fieldLink RX12 376 (TX12 42).1 (TX12 42).2.1 (TX12 42).2.2.1 ∈ tb := tbc_8 120 (by decide +kernel) rfl
theorem w_2414 : Cond.methodLink RX12 398 yX12_expression ∈ tb := tbc_10 51 (by decide +kernel) rfl
theorem w_2416 : Cond.instanceMethod yX12_expression ∈ tb := tbc_10 53 (by decide +kernel) rfl
theorem w_2417 : Cond.code yX12_expression cX12_expression 5 none ∈ tb := tbc_10 54 (by decide +kernel) rfl
theorem w_2430 : Cond.methodLink RX12 435 yX12_sum ∈ tb := tbc_10 67 (by decide +kernel) rfl
theorem w_2432 : Cond.instanceMethod yX12_sum ∈ tb := tbc_10 69 (by decide +kernel) rfl
theorem w_2433 : Cond.code yX12_sum cX12_sum 9 none ∈ tb := tbc_10 70 (by decide +kernel) rfl
theorem w_2440 : Cond.methodLink RX12 438 yX12_named ∈ tb := tbc_10 77 (by decide +kernel) rfl
theorem w_2442 : Cond.instanceMethod yX12_named ∈ tb := tbc_10 79 (by decide +kernel) rfl
theorem w_2443 : Cond.code yX12_named cX12_named 10 none ∈ tb := tbc_10 80 (by decide +kernel) rfl
section RW86997
variable {p : Program} {l : Launch} {e : Env} {R : Room} {s : State} {m : MethodId} {args : Array Value} {below : List Frame} {meth : Method} {c : Code} {H : Heap} {locs : List Loc} {cells slots : Nat} {Q : State → Prop}
variable {cc : ByteArray} {pc nL : Nat} {ls : Array Slot} {rest st0 : List Value} {G : sG} {n : Nat} {S : sS}
theorem g_X12_376 (Cx : sC G p m c cc nL s args RX12) (hW : sW G n S H) {k : Nat} (hk : k < n) (ht : tau k = .inl 12) {v : Int} (hv : S.1 k 42 = v) (hdg : decode cc pc = .ok (.getfield 376, 3)) (kk : W p l e R s m args below meth c H locs cells slots Q (F0 m (pc + 3) ls (.int (iv v) :: rest))) : W p l e R s m args below meth c H locs cells slots Q (F0 m pc ls (.ref (G.2.2.1 + k) :: rest)) :=
  sGet Cx inX12 rfl 42 (by decide) w_2003 hW hk ht (congrArg (fun z => Value.int (iv z)) hv) hdg kk
theorem p_X12_376 (Cx : sC G p m c cc nL s args RX12) (hW : sW G n S H) (hL : sL G locs) {k : Nat} (hk : k < n) (ht : tau k = .inl 12) {v : Int} (hdg : decode cc pc = .ok (.putfield 376, 3)) (kk : ∀ (H1 : Heap) (locs1 : List Loc), sW G n (uF S k 42 v) H1 → sL G locs1 → W p l e R s m args below meth c H1 locs1 cells slots Q (F0 m (pc + 3) ls rest)) : W p l e R s m args below meth c H locs cells slots Q (F0 m pc ls (.int (iv v) :: .ref (G.2.2.1 + k) :: rest)) :=
  sPut Cx inX12 tyX12 tyX12_ok nmX12 rfl 42 (by decide) w_2003 rfl hW hL hk ht rfl rfl (fun _ h => uF_same h) (fun _ h => uF_off h) (congrArg (fun z => Value.int (iv z)) uF_on) hdg kk
theorem c_X12_438 (Cx : sC G p m c cc nL s args RX12) {rm : Room} {mc ms : Nat} (h1 : rm.cells = mc) (h2 : rm.slots = ms) (h3 : rm.frames + 1 ≤ R.frames ∧ 8 + (10 + 11) + rm.locals ≤ R.locals) : CallW R s args RX12 RX12 438 yX12_named cX12_named 10 none (.code yX12_named cX12_named 10 none :: tb) rm mc ms 1 :=
  sCw Cx 1 w_2440 w_2442 w_138 w_217 w_2443 (by decide +kernel) h1 h2 h3
theorem c_X12_435 (Cx : sC G p m c cc nL s args RX12) {rm : Room} {mc ms : Nat} (h1 : rm.cells = mc) (h2 : rm.slots = ms) (h3 : rm.frames + 1 ≤ R.frames ∧ 8 + (9 + 11) + rm.locals ≤ R.locals) : CallW R s args RX12 RX12 435 yX12_sum cX12_sum 9 none (.code yX12_sum cX12_sum 9 none :: tb) rm mc ms 1 :=
  sCw Cx 1 w_2430 w_2432 w_136 w_217 w_2433 (by decide +kernel) h1 h2 h3
theorem c_X12_398 (Cx : sC G p m c cc nL s args RX12) {rm : Room} {mc ms : Nat} (h1 : rm.cells = mc) (h2 : rm.slots = ms) (h3 : rm.frames + 1 ≤ R.frames ∧ 8 + (5 + 11) + rm.locals ≤ R.locals) : CallW R s args RX12 RX12 398 yX12_expression cX12_expression 5 none (.code yX12_expression cX12_expression 5 none :: tb) rm mc ms 1 :=
  sCw Cx 1 w_2414 w_2416 w_132 w_217 w_2417 (by decide +kernel) h1 h2 h3
end RW86997
