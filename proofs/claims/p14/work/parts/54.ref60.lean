theorem dX12_letter_0 : decode cX12_letter 0 = .ok (.aload_n 0, 1) := by decide +kernel
theorem dX12_letter_1 : decode cX12_letter 1 = .ok (.getfield 23, 3) := by decide +kernel
theorem dX12_letter_4 : decode cX12_letter 4 = .ok (.aload_n 0, 1) := by decide +kernel
theorem dX12_letter_5 : decode cX12_letter 5 = .ok (.getfield 259, 3) := by decide +kernel
theorem dX12_letter_8 : decode cX12_letter 8 = .ok (.iload_n 1, 1) := by decide +kernel
theorem dX12_letter_9 : decode cX12_letter 9 = .ok (.i2b, 1) := by decide +kernel
theorem dX12_letter_10 : decode cX12_letter 10 = .ok (.bastore, 1) := by decide +kernel
theorem dX12_letter_11 : decode cX12_letter 11 = .ok (.aload_n 0, 1) := by decide +kernel
theorem dX12_letter_12 : decode cX12_letter 12 = .ok (.dup, 1) := by decide +kernel
theorem dX12_letter_13 : decode cX12_letter 13 = .ok (.getfield 259, 3) := by decide +kernel
theorem dX12_letter_16 : decode cX12_letter 16 = .ok (.iconst 1, 1) := by decide +kernel
theorem dX12_letter_17 : decode cX12_letter 17 = .ok (.iadd, 1) := by decide +kernel
theorem dX12_letter_18 : decode cX12_letter 18 = .ok (.putfield 259, 3) := by decide +kernel
theorem dX12_letter_21 : decode cX12_letter 21 = .ok (.return_, 1) := by decide +kernel
theorem dX12_spell_0 : decode cX12_spell 0 = .ok (.aload_n 1, 1) := by decide +kernel
theorem dX12_spell_1 : decode cX12_spell 1 = .ok (.iload_n 2, 1) := by decide +kernel
theorem dX12_spell_2 : decode cX12_spell 2 = .ok (.invokestatic 221, 3) := by decide +kernel
theorem dX12_spell_5 : decode cX12_spell 5 = .ok (.istore_n 3, 1) := by decide +kernel
theorem dX12_spell_6 : decode cX12_spell 6 = .ok (.aload_n 1, 1) := by decide +kernel
theorem dX12_spell_7 : decode cX12_spell 7 = .ok (.iload_n 2, 1) := by decide +kernel
theorem dX12_spell_8 : decode cX12_spell 8 = .ok (.iaload, 1) := by decide +kernel
theorem dX12_spell_9 : decode cX12_spell 9 = .ok (.ifCond .ge 9, 3) := by decide +kernel
theorem dX12_spell_12 : decode cX12_spell 12 = .ok (.aload_n 0, 1) := by decide +kernel
theorem dX12_spell_13 : decode cX12_spell 13 = .ok (.bipush 45, 2) := by decide +kernel
theorem dX12_spell_15 : decode cX12_spell 15 = .ok (.invokevirtual 262, 3) := by decide +kernel
theorem dX12_spell_18 : decode cX12_spell 18 = .ok (.iload_n 3, 1) := by decide +kernel
theorem dX12_spell_19 : decode cX12_spell 19 = .ok (.ifCond .ne 9, 3) := by decide +kernel
theorem dX12_spell_22 : decode cX12_spell 22 = .ok (.aload_n 0, 1) := by decide +kernel
theorem dX12_spell_23 : decode cX12_spell 23 = .ok (.bipush 48, 2) := by decide +kernel
theorem dX12_spell_25 : decode cX12_spell 25 = .ok (.invokevirtual 262, 3) := by decide +kernel
theorem dX12_spell_28 : decode cX12_spell 28 = .ok (.iload_n 3, 1) := by decide +kernel
theorem dX12_spell_29 : decode cX12_spell 29 = .ok (.istore 4, 2) := by decide +kernel
theorem dX12_spell_31 : decode cX12_spell 31 = .ok (.iload 4, 2) := by decide +kernel
theorem dX12_spell_33 : decode cX12_spell 33 = .ok (.ifCond .le 90, 3) := by decide +kernel
theorem dX12_spell_36 : decode cX12_spell 36 = .ok (.ldc_w 265, 3) := by decide +kernel
theorem dX12_spell_39 : decode cX12_spell 39 = .ok (.istore 5, 2) := by decide +kernel
theorem dX12_spell_41 : decode cX12_spell 41 = .ok (.iload 4, 2) := by decide +kernel
theorem dX12_spell_43 : decode cX12_spell 43 = .ok (.iload_n 3, 1) := by decide +kernel
theorem dX12_spell_44 : decode cX12_spell 44 = .ok (.if_icmp .ge 7, 3) := by decide +kernel
theorem dX12_spell_47 : decode cX12_spell 47 = .ok (.iconst 1, 1) := by decide +kernel
theorem dX12_spell_48 : decode cX12_spell 48 = .ok (.goto 4, 3) := by decide +kernel
theorem dX12_spell_51 : decode cX12_spell 51 = .ok (.iconst 0, 1) := by decide +kernel
theorem dX12_spell_52 : decode cX12_spell 52 = .ok (.istore 6, 2) := by decide +kernel
theorem dX12_spell_54 : decode cX12_spell 54 = .ok (.aload_n 1, 1) := by decide +kernel
theorem dX12_spell_55 : decode cX12_spell 55 = .ok (.iload_n 2, 1) := by decide +kernel
theorem dX12_spell_56 : decode cX12_spell 56 = .ok (.iload 4, 2) := by decide +kernel
theorem dX12_spell_58 : decode cX12_spell 58 = .ok (.iadd, 1) := by decide +kernel
theorem dX12_spell_59 : decode cX12_spell 59 = .ok (.iaload, 1) := by decide +kernel
theorem dX12_spell_60 : decode cX12_spell 60 = .ok (.istore 7, 2) := by decide +kernel
theorem dX12_spell_62 : decode cX12_spell 62 = .ok (.iload 5, 2) := by decide +kernel
theorem dX12_spell_64 : decode cX12_spell 64 = .ok (.ifCond .le 53, 3) := by decide +kernel
theorem dX12_spell_67 : decode cX12_spell 67 = .ok (.iload 6, 2) := by decide +kernel
theorem dX12_spell_69 : decode cX12_spell 69 = .ok (.ifCond .ne 11, 3) := by decide +kernel
theorem dX12_spell_72 : decode cX12_spell 72 = .ok (.iload 7, 2) := by decide +kernel
theorem dX12_spell_74 : decode cX12_spell 74 = .ok (.iload 5, 2) := by decide +kernel
theorem dX12_spell_76 : decode cX12_spell 76 = .ok (.idiv, 1) := by decide +kernel
theorem dX12_spell_77 : decode cX12_spell 77 = .ok (.ifCond .le 7, 3) := by decide +kernel
theorem dX12_spell_80 : decode cX12_spell 80 = .ok (.iconst 1, 1) := by decide +kernel
theorem dX12_spell_81 : decode cX12_spell 81 = .ok (.goto 4, 3) := by decide +kernel
theorem dX12_spell_84 : decode cX12_spell 84 = .ok (.iconst 0, 1) := by decide +kernel
theorem dX12_spell_85 : decode cX12_spell 85 = .ok (.istore 6, 2) := by decide +kernel
theorem dX12_spell_87 : decode cX12_spell 87 = .ok (.iload 6, 2) := by decide +kernel
theorem dX12_spell_89 : decode cX12_spell 89 = .ok (.ifCond .eq 18, 3) := by decide +kernel
theorem dX12_spell_92 : decode cX12_spell 92 = .ok (.aload_n 0, 1) := by decide +kernel
theorem dX12_spell_93 : decode cX12_spell 93 = .ok (.bipush 48, 2) := by decide +kernel
theorem dX12_spell_95 : decode cX12_spell 95 = .ok (.iload 7, 2) := by decide +kernel
theorem dX12_spell_97 : decode cX12_spell 97 = .ok (.iload 5, 2) := by decide +kernel
theorem dX12_spell_99 : decode cX12_spell 99 = .ok (.idiv, 1) := by decide +kernel
theorem dX12_spell_100 : decode cX12_spell 100 = .ok (.bipush 10, 2) := by decide +kernel
theorem dX12_spell_102 : decode cX12_spell 102 = .ok (.irem, 1) := by decide +kernel
theorem dX12_spell_103 : decode cX12_spell 103 = .ok (.iadd, 1) := by decide +kernel
theorem dX12_spell_104 : decode cX12_spell 104 = .ok (.invokevirtual 262, 3) := by decide +kernel
theorem dX12_spell_107 : decode cX12_spell 107 = .ok (.iload 5, 2) := by decide +kernel
theorem dX12_spell_109 : decode cX12_spell 109 = .ok (.bipush 10, 2) := by decide +kernel
theorem dX12_spell_111 : decode cX12_spell 111 = .ok (.idiv, 1) := by decide +kernel
theorem dX12_spell_112 : decode cX12_spell 112 = .ok (.istore 5, 2) := by decide +kernel
theorem dX12_spell_114 : decode cX12_spell 114 = .ok (.goto (-52), 3) := by decide +kernel
theorem dX12_spell_117 : decode cX12_spell 117 = .ok (.iinc 4 (-1), 3) := by decide +kernel
theorem dX12_spell_120 : decode cX12_spell 120 = .ok (.goto (-89), 3) := by decide +kernel
theorem dX12_spell_123 : decode cX12_spell 123 = .ok (.return_, 1) := by decide +kernel
theorem w_155 : Cond.selects RX12 yX12_letter yX12_letter ∈ tb := sel_10 (q := (yX12_letter, 105)) 11 (by decide +kernel)
theorem w_1966 : Cond.fieldLink RX12 23 (TX12 5).1 (TX12 5).2.1 (TX12 5).2.2.1 ∈ tb := tbc_8 83 (by decide +kernel) rfl
theorem w_1967 : Cond.fieldLink RX12 259 (TX12 6).1 (TX12 6).2.1 (TX12 6).2.2.1 ∈ tb := tbc_8 84 (by decide +kernel) rfl
theorem w_2557 : Cond.methodLink RX12 262 yX12_letter ∈ tb := tbc_10 194 (by decide +kernel) rfl
theorem w_2559 : Cond.instanceMethod yX12_letter ∈ tb := tbc_10 196 (by decide +kernel) rfl
theorem w_2560 : Cond.code yX12_letter cX12_letter 2 none ∈ tb := tbc_10 197 (by decide +kernel) rfl
theorem w_2561 : Cond.constant RX12 265 (iv 100000000) ∈ tb := tbc_10 198 (by decide +kernel) rfl
section RW54
variable {p : Program} {l : Launch} {e : Env} {R : Room} {s : State} {m : MethodId} {args : Array Value} {below : List Frame} {meth : Method} {c : Code} {H : Heap} {locs : List Loc} {cells slots : Nat} {Q : State → Prop}
variable {cc : ByteArray} {pc nL : Nat} {ls : Array Slot} {rest st0 : List Value} {G : sG} {n : Nat} {S : sS}
theorem g_X12_23 (Cx : sC G p m c cc nL s args RX12) (hW : sW G n S H) {k : Nat} (hk : k < n) (ht : tau k = .inl 12) {v : Value} (hv : S.2.2.2 k 5 = v) (hdg : decode cc pc = .ok (.getfield 23, 3)) (kk : W p l e R s m args below meth c H locs cells slots Q (F0 m (pc + 3) ls (v :: rest))) : W p l e R s m args below meth c H locs cells slots Q (F0 m pc ls (.ref (G.2.2.1 + k) :: rest)) :=
  sGet Cx inX12 rfl 5 (by decide) w_1966 hW hk ht hv hdg kk
theorem g_X12_259 (Cx : sC G p m c cc nL s args RX12) (hW : sW G n S H) {k : Nat} (hk : k < n) (ht : tau k = .inl 12) {v : Int} (hv : S.1 k 6 = v) (hdg : decode cc pc = .ok (.getfield 259, 3)) (kk : W p l e R s m args below meth c H locs cells slots Q (F0 m (pc + 3) ls (.int (iv v) :: rest))) : W p l e R s m args below meth c H locs cells slots Q (F0 m pc ls (.ref (G.2.2.1 + k) :: rest)) :=
  sGet Cx inX12 rfl 6 (by decide) w_1967 hW hk ht (congrArg (fun z => Value.int (iv z)) hv) hdg kk
theorem p_X12_259 (Cx : sC G p m c cc nL s args RX12) (hW : sW G n S H) (hL : sL G locs) {k : Nat} (hk : k < n) (ht : tau k = .inl 12) {v : Int} (hdg : decode cc pc = .ok (.putfield 259, 3)) (kk : ∀ (H1 : Heap) (locs1 : List Loc), sW G n (uF S k 6 v) H1 → sL G locs1 → W p l e R s m args below meth c H1 locs1 cells slots Q (F0 m (pc + 3) ls rest)) : W p l e R s m args below meth c H locs cells slots Q (F0 m pc ls (.int (iv v) :: .ref (G.2.2.1 + k) :: rest)) :=
  sPut Cx inX12 tyX12 tyX12_ok nmX12 rfl 6 (by decide) w_1967 rfl hW hL hk ht rfl rfl (fun _ h => uF_same h) (fun _ h => uF_off h) (congrArg (fun z => Value.int (iv z)) uF_on) hdg kk
theorem c_X12_262 (Cx : sC G p m c cc nL s args RX12) {rm : Room} {mc ms : Nat} (h1 : rm.cells = mc) (h2 : rm.slots = ms) (h3 : rm.frames + 1 ≤ R.frames ∧ 8 + (2 + 11) + rm.locals ≤ R.locals) : CallW R s args RX12 RX12 262 yX12_letter cX12_letter 2 none (.code yX12_letter cX12_letter 2 none :: tb) rm mc ms 1 :=
  sCw Cx 1 w_2557 w_2559 w_155 w_217 w_2560 (by decide +kernel) h1 h2 h3
end RW54
