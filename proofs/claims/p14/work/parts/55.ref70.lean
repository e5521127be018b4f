theorem dX12_asLong_0 : decode cX12_asLong 0 = .ok (.lconst 0, 1) := by decide +kernel
theorem dX12_asLong_1 : decode cX12_asLong 1 = .ok (.lstore_n 3, 1) := by decide +kernel
theorem dX12_asLong_2 : decode cX12_asLong 2 = .ok (.aload_n 1, 1) := by decide +kernel
theorem dX12_asLong_3 : decode cX12_asLong 3 = .ok (.iload_n 2, 1) := by decide +kernel
theorem dX12_asLong_4 : decode cX12_asLong 4 = .ok (.invokestatic 221, 3) := by decide +kernel
theorem dX12_asLong_7 : decode cX12_asLong 7 = .ok (.istore 5, 2) := by decide +kernel
theorem dX12_asLong_9 : decode cX12_asLong 9 = .ok (.iload 5, 2) := by decide +kernel
theorem dX12_asLong_11 : decode cX12_asLong 11 = .ok (.ifCond .le 23, 3) := by decide +kernel
theorem dX12_asLong_14 : decode cX12_asLong 14 = .ok (.lload_n 3, 1) := by decide +kernel
theorem dX12_asLong_15 : decode cX12_asLong 15 = .ok (.ldc2_w 219, 3) := by decide +kernel
theorem dX12_asLong_18 : decode cX12_asLong 18 = .ok (.lmul, 1) := by decide +kernel
theorem dX12_asLong_19 : decode cX12_asLong 19 = .ok (.aload_n 1, 1) := by decide +kernel
theorem dX12_asLong_20 : decode cX12_asLong 20 = .ok (.iload_n 2, 1) := by decide +kernel
theorem dX12_asLong_21 : decode cX12_asLong 21 = .ok (.iload 5, 2) := by decide +kernel
theorem dX12_asLong_23 : decode cX12_asLong 23 = .ok (.iadd, 1) := by decide +kernel
theorem dX12_asLong_24 : decode cX12_asLong 24 = .ok (.iaload, 1) := by decide +kernel
theorem dX12_asLong_25 : decode cX12_asLong 25 = .ok (.i2l, 1) := by decide +kernel
theorem dX12_asLong_26 : decode cX12_asLong 26 = .ok (.ladd, 1) := by decide +kernel
theorem dX12_asLong_27 : decode cX12_asLong 27 = .ok (.lstore_n 3, 1) := by decide +kernel
theorem dX12_asLong_28 : decode cX12_asLong 28 = .ok (.iinc 5 (-1), 3) := by decide +kernel
theorem dX12_asLong_31 : decode cX12_asLong 31 = .ok (.goto (-22), 3) := by decide +kernel
theorem dX12_asLong_34 : decode cX12_asLong 34 = .ok (.aload_n 1, 1) := by decide +kernel
theorem dX12_asLong_35 : decode cX12_asLong 35 = .ok (.iload_n 2, 1) := by decide +kernel
theorem dX12_asLong_36 : decode cX12_asLong 36 = .ok (.iaload, 1) := by decide +kernel
theorem dX12_asLong_37 : decode cX12_asLong 37 = .ok (.ifCond .ge 8, 3) := by decide +kernel
theorem dX12_asLong_40 : decode cX12_asLong 40 = .ok (.lload_n 3, 1) := by decide +kernel
theorem dX12_asLong_41 : decode cX12_asLong 41 = .ok (.lneg, 1) := by decide +kernel
theorem dX12_asLong_42 : decode cX12_asLong 42 = .ok (.goto 4, 3) := by decide +kernel
theorem dX12_asLong_45 : decode cX12_asLong 45 = .ok (.lload_n 3, 1) := by decide +kernel
theorem dX12_asLong_46 : decode cX12_asLong 46 = .ok (.lreturn, 1) := by decide +kernel
theorem dX12_cell_0 : decode cX12_cell 0 = .ok (.bipush 8, 2) := by decide +kernel
theorem dX12_cell_2 : decode cX12_cell 2 = .ok (.bipush 15, 2) := by decide +kernel
theorem dX12_cell_4 : decode cX12_cell 4 = .ok (.iload_n 1, 1) := by decide +kernel
theorem dX12_cell_5 : decode cX12_cell 5 = .ok (.imul, 1) := by decide +kernel
theorem dX12_cell_6 : decode cX12_cell 6 = .ok (.iload_n 2, 1) := by decide +kernel
theorem dX12_cell_7 : decode cX12_cell 7 = .ok (.iadd, 1) := by decide +kernel
theorem dX12_cell_8 : decode cX12_cell 8 = .ok (.imul, 1) := by decide +kernel
theorem dX12_cell_9 : decode cX12_cell 9 = .ok (.ireturn, 1) := by decide +kernel
theorem dX12_common_0 : decode cX12_common 0 = .ok (.aload_n 1, 1) := by decide +kernel
theorem dX12_common_1 : decode cX12_common 1 = .ok (.iload_n 2, 1) := by decide +kernel
theorem dX12_common_2 : decode cX12_common 2 = .ok (.aload_n 0, 1) := by decide +kernel
theorem dX12_common_3 : decode cX12_common 3 = .ok (.getfield 38, 3) := by decide +kernel
theorem dX12_common_6 : decode cX12_common 6 = .ok (.iconst 0, 1) := by decide +kernel
theorem dX12_common_7 : decode cX12_common 7 = .ok (.invokestatic 233, 3) := by decide +kernel
theorem dX12_common_10 : decode cX12_common 10 = .ok (.aload_n 3, 1) := by decide +kernel
theorem dX12_common_11 : decode cX12_common 11 = .ok (.iload 4, 2) := by decide +kernel
theorem dX12_common_13 : decode cX12_common 13 = .ok (.aload_n 0, 1) := by decide +kernel
theorem dX12_common_14 : decode cX12_common 14 = .ok (.getfield 41, 3) := by decide +kernel
theorem dX12_common_17 : decode cX12_common 17 = .ok (.iconst 0, 1) := by decide +kernel
theorem dX12_common_18 : decode cX12_common 18 = .ok (.invokestatic 233, 3) := by decide +kernel
theorem dX12_common_21 : decode cX12_common 21 = .ok (.aload_n 0, 1) := by decide +kernel
theorem dX12_common_22 : decode cX12_common 22 = .ok (.getfield 38, 3) := by decide +kernel
theorem dX12_common_25 : decode cX12_common 25 = .ok (.iconst 0, 1) := by decide +kernel
theorem dX12_common_26 : decode cX12_common 26 = .ok (.aload_n 0, 1) := by decide +kernel
theorem dX12_common_27 : decode cX12_common 27 = .ok (.getfield 38, 3) := by decide +kernel
theorem dX12_common_30 : decode cX12_common 30 = .ok (.iconst 0, 1) := by decide +kernel
theorem dX12_common_31 : decode cX12_common 31 = .ok (.iaload, 1) := by decide +kernel
theorem dX12_common_32 : decode cX12_common 32 = .ok (.invokestatic 210, 3) := by decide +kernel
theorem dX12_common_35 : decode cX12_common 35 = .ok (.iastore, 1) := by decide +kernel
theorem dX12_common_36 : decode cX12_common 36 = .ok (.aload_n 0, 1) := by decide +kernel
theorem dX12_common_37 : decode cX12_common 37 = .ok (.getfield 41, 3) := by decide +kernel
theorem dX12_common_40 : decode cX12_common 40 = .ok (.iconst 0, 1) := by decide +kernel
theorem dX12_common_41 : decode cX12_common 41 = .ok (.aload_n 0, 1) := by decide +kernel
theorem dX12_common_42 : decode cX12_common 42 = .ok (.getfield 41, 3) := by decide +kernel
theorem dX12_common_45 : decode cX12_common 45 = .ok (.iconst 0, 1) := by decide +kernel
theorem dX12_common_46 : decode cX12_common 46 = .ok (.iaload, 1) := by decide +kernel
theorem dX12_common_47 : decode cX12_common 47 = .ok (.invokestatic 210, 3) := by decide +kernel
theorem dX12_common_50 : decode cX12_common 50 = .ok (.iastore, 1) := by decide +kernel
theorem dX12_common_51 : decode cX12_common 51 = .ok (.aload_n 0, 1) := by decide +kernel
theorem dX12_common_52 : decode cX12_common 52 = .ok (.getfield 41, 3) := by decide +kernel
theorem dX12_common_55 : decode cX12_common 55 = .ok (.iconst 0, 1) := by decide +kernel
theorem dX12_common_56 : decode cX12_common 56 = .ok (.iaload, 1) := by decide +kernel
theorem dX12_common_57 : decode cX12_common 57 = .ok (.ifCond .eq 56, 3) := by decide +kernel
theorem dX12_common_60 : decode cX12_common 60 = .ok (.aload_n 0, 1) := by decide +kernel
theorem dX12_common_61 : decode cX12_common 61 = .ok (.aload_n 0, 1) := by decide +kernel
theorem dX12_common_62 : decode cX12_common 62 = .ok (.getfield 38, 3) := by decide +kernel
theorem dX12_common_65 : decode cX12_common 65 = .ok (.iconst 0, 1) := by decide +kernel
theorem dX12_common_66 : decode cX12_common 66 = .ok (.aload_n 0, 1) := by decide +kernel
theorem dX12_common_67 : decode cX12_common 67 = .ok (.getfield 41, 3) := by decide +kernel
theorem dX12_common_70 : decode cX12_common 70 = .ok (.iconst 0, 1) := by decide +kernel
theorem dX12_common_71 : decode cX12_common 71 = .ok (.aload_n 0, 1) := by decide +kernel
theorem dX12_common_72 : decode cX12_common 72 = .ok (.getfield 32, 3) := by decide +kernel
theorem dX12_common_75 : decode cX12_common 75 = .ok (.iconst 0, 1) := by decide +kernel
theorem dX12_common_76 : decode cX12_common 76 = .ok (.aload_n 0, 1) := by decide +kernel
theorem dX12_common_77 : decode cX12_common 77 = .ok (.getfield 35, 3) := by decide +kernel
theorem dX12_common_80 : decode cX12_common 80 = .ok (.iconst 0, 1) := by decide +kernel
theorem dX12_common_81 : decode cX12_common 81 = .ok (.invokevirtual 266, 3) := by decide +kernel
theorem dX12_common_84 : decode cX12_common 84 = .ok (.aload_n 0, 1) := by decide +kernel
theorem dX12_common_85 : decode cX12_common 85 = .ok (.getfield 41, 3) := by decide +kernel
theorem dX12_common_88 : decode cX12_common 88 = .ok (.iconst 0, 1) := by decide +kernel
theorem dX12_common_89 : decode cX12_common 89 = .ok (.aload_n 0, 1) := by decide +kernel
theorem dX12_common_90 : decode cX12_common 90 = .ok (.getfield 38, 3) := by decide +kernel
theorem dX12_common_93 : decode cX12_common 93 = .ok (.iconst 0, 1) := by decide +kernel
theorem dX12_common_94 : decode cX12_common 94 = .ok (.invokestatic 233, 3) := by decide +kernel
theorem dX12_common_97 : decode cX12_common 97 = .ok (.aload_n 0, 1) := by decide +kernel
theorem dX12_common_98 : decode cX12_common 98 = .ok (.getfield 35, 3) := by decide +kernel
theorem dX12_common_101 : decode cX12_common 101 = .ok (.iconst 0, 1) := by decide +kernel
theorem dX12_common_102 : decode cX12_common 102 = .ok (.aload_n 0, 1) := by decide +kernel
theorem dX12_common_103 : decode cX12_common 103 = .ok (.getfield 41, 3) := by decide +kernel
theorem dX12_common_106 : decode cX12_common 106 = .ok (.iconst 0, 1) := by decide +kernel
theorem dX12_common_107 : decode cX12_common 107 = .ok (.invokestatic 233, 3) := by decide +kernel
theorem dX12_common_110 : decode cX12_common 110 = .ok (.goto (-59), 3) := by decide +kernel
theorem dX12_common_113 : decode cX12_common 113 = .ok (.return_, 1) := by decide +kernel
theorem dX12_end_0 : decode cX12_end 0 = .ok (.iload_n 1, 1) := by decide +kernel
theorem dX12_end_1 : decode cX12_end 1 = .ok (.ifCond .lt 11, 3) := by decide +kernel
theorem dX12_end_4 : decode cX12_end 4 = .ok (.iload_n 1, 1) := by decide +kernel
theorem dX12_end_5 : decode cX12_end 5 = .ok (.aload_n 0, 1) := by decide +kernel
theorem dX12_end_6 : decode cX12_end 6 = .ok (.getfield 202, 3) := by decide +kernel
theorem dX12_end_9 : decode cX12_end 9 = .ok (.if_icmp .le 5, 3) := by decide +kernel
theorem dX12_end_12 : decode cX12_end 12 = .ok (.iconst 0, 1) := by decide +kernel
theorem dX12_end_13 : decode cX12_end 13 = .ok (.ireturn, 1) := by decide +kernel
theorem dX12_end_14 : decode cX12_end 14 = .ok (.aload_n 0, 1) := by decide +kernel
theorem dX12_end_15 : decode cX12_end 15 = .ok (.iload_n 1, 1) := by decide +kernel
theorem dX12_end_16 : decode cX12_end 16 = .ok (.putfield 202, 3) := by decide +kernel
theorem dX12_end_19 : decode cX12_end 19 = .ok (.iconst 1, 1) := by decide +kernel
theorem dX12_end_20 : decode cX12_end 20 = .ok (.ireturn, 1) := by decide +kernel
theorem dX12_feed_0 : decode cX12_feed 0 = .ok (.aload_n 0, 1) := by decide +kernel
theorem dX12_feed_1 : decode cX12_feed 1 = .ok (.getfield 202, 3) := by decide +kernel
theorem dX12_feed_4 : decode cX12_feed 4 = .ok (.bipush 20, 2) := by decide +kernel
theorem dX12_feed_6 : decode cX12_feed 6 = .ok (.iadd, 1) := by decide +kernel
theorem dX12_feed_7 : decode cX12_feed 7 = .ok (.sipush 30000, 3) := by decide +kernel
theorem dX12_feed_10 : decode cX12_feed 10 = .ok (.if_icmp .le 5, 3) := by decide +kernel
theorem dX12_feed_13 : decode cX12_feed 13 = .ok (.iconst (-1), 1) := by decide +kernel
theorem dX12_feed_14 : decode cX12_feed 14 = .ok (.ireturn, 1) := by decide +kernel
theorem dX12_feed_15 : decode cX12_feed 15 = .ok (.aload_n 0, 1) := by decide +kernel
theorem dX12_feed_16 : decode cX12_feed 16 = .ok (.iload_n 1, 1) := by decide +kernel
theorem dX12_feed_17 : decode cX12_feed 17 = .ok (.invokevirtual 206, 3) := by decide +kernel
theorem dX12_feed_20 : decode cX12_feed 20 = .ok (.aload_n 0, 1) := by decide +kernel
theorem dX12_feed_21 : decode cX12_feed 21 = .ok (.iload_n 2, 1) := by decide +kernel
theorem dX12_feed_22 : decode cX12_feed 22 = .ok (.invokevirtual 206, 3) := by decide +kernel
theorem dX12_feed_25 : decode cX12_feed 25 = .ok (.aload_n 0, 1) := by decide +kernel
theorem dX12_feed_26 : decode cX12_feed 26 = .ok (.iload_n 3, 1) := by decide +kernel
theorem dX12_feed_27 : decode cX12_feed 27 = .ok (.invokevirtual 206, 3) := by decide +kernel
theorem dX12_feed_30 : decode cX12_feed 30 = .ok (.aload_n 0, 1) := by decide +kernel
theorem dX12_feed_31 : decode cX12_feed 31 = .ok (.iload 4, 2) := by decide +kernel
theorem dX12_feed_33 : decode cX12_feed 33 = .ok (.invokevirtual 206, 3) := by decide +kernel
theorem dX12_feed_36 : decode cX12_feed 36 = .ok (.aload_n 0, 1) := by decide +kernel
theorem dX12_feed_37 : decode cX12_feed 37 = .ok (.iload 5, 2) := by decide +kernel
theorem dX12_feed_39 : decode cX12_feed 39 = .ok (.invokevirtual 206, 3) := by decide +kernel
theorem dX12_feed_42 : decode cX12_feed 42 = .ok (.aload_n 0, 1) := by decide +kernel
theorem dX12_feed_43 : decode cX12_feed 43 = .ok (.getfield 202, 3) := by decide +kernel
theorem dX12_feed_46 : decode cX12_feed 46 = .ok (.ireturn, 1) := by decide +kernel
theorem dX12_heldCell_0 : decode cX12_heldCell 0 = .ok (.bipush 10, 2) := by decide +kernel
theorem dX12_heldCell_2 : decode cX12_heldCell 2 = .ok (.bipush 13, 2) := by decide +kernel
theorem dX12_heldCell_4 : decode cX12_heldCell 4 = .ok (.iload_n 1, 1) := by decide +kernel
theorem dX12_heldCell_5 : decode cX12_heldCell 5 = .ok (.imul, 1) := by decide +kernel
theorem dX12_heldCell_6 : decode cX12_heldCell 6 = .ok (.iload_n 2, 1) := by decide +kernel
theorem dX12_heldCell_7 : decode cX12_heldCell 7 = .ok (.iadd, 1) := by decide +kernel
theorem dX12_heldCell_8 : decode cX12_heldCell 8 = .ok (.imul, 1) := by decide +kernel
theorem dX12_heldCell_9 : decode cX12_heldCell 9 = .ok (.ireturn, 1) := by decide +kernel
theorem dX12_lay_0 : decode cX12_lay 0 = .ok (.bipush 24, 2) := by decide +kernel
theorem dX12_lay_2 : decode cX12_lay 2 = .ok (.istore_n 2, 1) := by decide +kernel
theorem dX12_lay_3 : decode cX12_lay 3 = .ok (.iload_n 2, 1) := by decide +kernel
theorem dX12_lay_4 : decode cX12_lay 4 = .ok (.ifCond .lt 32, 3) := by decide +kernel
theorem dX12_lay_7 : decode cX12_lay 7 = .ok (.aload_n 0, 1) := by decide +kernel
theorem dX12_lay_8 : decode cX12_lay 8 = .ok (.getfield 9, 3) := by decide +kernel
theorem dX12_lay_11 : decode cX12_lay 11 = .ok (.aload_n 0, 1) := by decide +kernel
theorem dX12_lay_12 : decode cX12_lay 12 = .ok (.getfield 202, 3) := by decide +kernel
theorem dX12_lay_15 : decode cX12_lay 15 = .ok (.iload_n 1, 1) := by decide +kernel
theorem dX12_lay_16 : decode cX12_lay 16 = .ok (.iload_n 2, 1) := by decide +kernel
theorem dX12_lay_17 : decode cX12_lay 17 = .ok (.ishr, 1) := by decide +kernel
theorem dX12_lay_18 : decode cX12_lay 18 = .ok (.i2b, 1) := by decide +kernel
theorem dX12_lay_19 : decode cX12_lay 19 = .ok (.bastore, 1) := by decide +kernel
theorem dX12_lay_20 : decode cX12_lay 20 = .ok (.aload_n 0, 1) := by decide +kernel
theorem dX12_lay_21 : decode cX12_lay 21 = .ok (.dup, 1) := by decide +kernel
theorem dX12_lay_22 : decode cX12_lay 22 = .ok (.getfield 202, 3) := by decide +kernel
theorem dX12_lay_25 : decode cX12_lay 25 = .ok (.iconst 1, 1) := by decide +kernel
theorem dX12_lay_26 : decode cX12_lay 26 = .ok (.iadd, 1) := by decide +kernel
theorem dX12_lay_27 : decode cX12_lay 27 = .ok (.putfield 202, 3) := by decide +kernel
theorem dX12_lay_30 : decode cX12_lay 30 = .ok (.iinc 2 (-8), 3) := by decide +kernel
theorem dX12_lay_33 : decode cX12_lay 33 = .ok (.goto (-30), 3) := by decide +kernel
theorem dX12_lay_36 : decode cX12_lay 36 = .ok (.return_, 1) := by decide +kernel
theorem dX12_rowCell_0 : decode cX12_rowCell 0 = .ok (.bipush 8, 2) := by decide +kernel
theorem dX12_rowCell_2 : decode cX12_rowCell 2 = .ok (.bipush 13, 2) := by decide +kernel
theorem dX12_rowCell_4 : decode cX12_rowCell 4 = .ok (.iload_n 0, 1) := by decide +kernel
theorem dX12_rowCell_5 : decode cX12_rowCell 5 = .ok (.imul, 1) := by decide +kernel
theorem dX12_rowCell_6 : decode cX12_rowCell 6 = .ok (.iload_n 1, 1) := by decide +kernel
theorem dX12_rowCell_7 : decode cX12_rowCell 7 = .ok (.iadd, 1) := by decide +kernel
theorem dX12_rowCell_8 : decode cX12_rowCell 8 = .ok (.imul, 1) := by decide +kernel
theorem dX12_rowCell_9 : decode cX12_rowCell 9 = .ok (.ireturn, 1) := by decide +kernel
theorem w_103 : Cond.selects RX12 yX12_lay yX12_lay ∈ tb := sel_7 (q := (yX12_lay, 105)) 7 (by decide +kernel)
theorem w_162 : Cond.selects RX12 yX12_divide yX12_divide ∈ tb := sel_11 (q := (yX12_divide, 105)) 2 (by decide +kernel)
theorem w_1961 : Cond.fieldLink RX12 9 (TX12 0).1 (TX12 0).2.1 (TX12 0).2.2.1 ∈ tb := tbc_8 78 (by decide +kernel) rfl
theorem w_1962 : Cond.fieldLink RX12 202 (TX12 1).1 (TX12 1).2.1 (TX12 1).2.2.1 ∈ tb := tbc_8 79 (by decide +kernel) rfl
theorem w_1970 : Cond.fieldLink RX12 32 (TX12 9).1 (TX12 9).2.1 (TX12 9).2.2.1 ∈ tb := tbc_8 87 (by decide +kernel) rfl
theorem w_1971 : Cond.fieldLink RX12 35 (TX12 10).1 (TX12 10).2.1 (TX12 10).2.2.1 ∈ tb := tbc_8 88 (by decide +kernel) rfl
theorem w_1972 : Cond.fieldLink RX12 38 (TX12 11).1 (TX12 11).2.1 (TX12 11).2.2.1 ∈ tb := tbc_8 89 (by decide +kernel) rfl
theorem w_1973 : Cond.fieldLink RX12 41 (TX12 12).1 (TX12 12).2.1 (TX12 12).2.2.1 ∈ tb := tbc_8 90 (by decide +kernel) rfl
theorem w_2281 : Cond.methodLink RX12 206 yX12_lay ∈ tb := tbc_9 158 (by decide +kernel) rfl
theorem w_2283 : Cond.instanceMethod yX12_lay ∈ tb := tbc_9 160 (by decide +kernel) rfl
theorem w_2284 : Cond.code yX12_lay cX12_lay 3 none ∈ tb := tbc_9 161 (by decide +kernel) rfl
theorem w_2589 : Cond.methodLink RX12 266 yX12_divide ∈ tb := tbc_10 226 (by decide +kernel) rfl
theorem w_2591 : Cond.instanceMethod yX12_divide ∈ tb := tbc_10 228 (by decide +kernel) rfl
theorem w_2592 : Cond.code yX12_divide cX12_divide 19 none ∈ tb := tbc_10 229 (by decide +kernel) rfl
section RW55
variable {p : Program} {l : Launch} {e : Env} {R : Room} {s : State} {m : MethodId} {args : Array Value} {below : List Frame} {meth : Method} {c : Code} {H : Heap} {locs : List Loc} {cells slots : Nat} {Q : State → Prop}
variable {cc : ByteArray} {pc nL : Nat} {ls : Array Slot} {rest st0 : List Value} {G : sG} {n : Nat} {S : sS}
theorem g_X12_9 (Cx : sC G p m c cc nL s args RX12) (hW : sW G n S H) {k : Nat} (hk : k < n) (ht : tau k = .inl 12) {v : Value} (hv : S.2.2.2 k 0 = v) (hdg : decode cc pc = .ok (.getfield 9, 3)) (kk : W p l e R s m args below meth c H locs cells slots Q (F0 m (pc + 3) ls (v :: rest))) : W p l e R s m args below meth c H locs cells slots Q (F0 m pc ls (.ref (G.2.2.1 + k) :: rest)) :=
  sGet Cx inX12 rfl 0 (by decide) w_1961 hW hk ht hv hdg kk
theorem g_X12_202 (Cx : sC G p m c cc nL s args RX12) (hW : sW G n S H) {k : Nat} (hk : k < n) (ht : tau k = .inl 12) {v : Int} (hv : S.1 k 1 = v) (hdg : decode cc pc = .ok (.getfield 202, 3)) (kk : W p l e R s m args below meth c H locs cells slots Q (F0 m (pc + 3) ls (.int (iv v) :: rest))) : W p l e R s m args below meth c H locs cells slots Q (F0 m pc ls (.ref (G.2.2.1 + k) :: rest)) :=
  sGet Cx inX12 rfl 1 (by decide) w_1962 hW hk ht (congrArg (fun z => Value.int (iv z)) hv) hdg kk
theorem p_X12_202 (Cx : sC G p m c cc nL s args RX12) (hW : sW G n S H) (hL : sL G locs) {k : Nat} (hk : k < n) (ht : tau k = .inl 12) {v : Int} (hdg : decode cc pc = .ok (.putfield 202, 3)) (kk : ∀ (H1 : Heap) (locs1 : List Loc), sW G n (uF S k 1 v) H1 → sL G locs1 → W p l e R s m args below meth c H1 locs1 cells slots Q (F0 m (pc + 3) ls rest)) : W p l e R s m args below meth c H locs cells slots Q (F0 m pc ls (.int (iv v) :: .ref (G.2.2.1 + k) :: rest)) :=
  sPut Cx inX12 tyX12 tyX12_ok nmX12 rfl 1 (by decide) w_1962 rfl hW hL hk ht rfl rfl (fun _ h => uF_same h) (fun _ h => uF_off h) (congrArg (fun z => Value.int (iv z)) uF_on) hdg kk
theorem c_X12_206 (Cx : sC G p m c cc nL s args RX12) {rm : Room} {mc ms : Nat} (h1 : rm.cells = mc) (h2 : rm.slots = ms) (h3 : rm.frames + 1 ≤ R.frames ∧ 8 + (3 + 11) + rm.locals ≤ R.locals) : CallW R s args RX12 RX12 206 yX12_lay cX12_lay 3 none (.code yX12_lay cX12_lay 3 none :: tb) rm mc ms 1 :=
  sCw Cx 1 w_2281 w_2283 w_103 w_217 w_2284 (by decide +kernel) h1 h2 h3
theorem g_X12_38 (Cx : sC G p m c cc nL s args RX12) (hW : sW G n S H) {k : Nat} (hk : k < n) (ht : tau k = .inl 12) {v : Value} (hv : S.2.2.2 k 11 = v) (hdg : decode cc pc = .ok (.getfield 38, 3)) (kk : W p l e R s m args below meth c H locs cells slots Q (F0 m (pc + 3) ls (v :: rest))) : W p l e R s m args below meth c H locs cells slots Q (F0 m pc ls (.ref (G.2.2.1 + k) :: rest)) :=
  sGet Cx inX12 rfl 11 (by decide) w_1972 hW hk ht hv hdg kk
theorem g_X12_41 (Cx : sC G p m c cc nL s args RX12) (hW : sW G n S H) {k : Nat} (hk : k < n) (ht : tau k = .inl 12) {v : Value} (hv : S.2.2.2 k 12 = v) (hdg : decode cc pc = .ok (.getfield 41, 3)) (kk : W p l e R s m args below meth c H locs cells slots Q (F0 m (pc + 3) ls (v :: rest))) : W p l e R s m args below meth c H locs cells slots Q (F0 m pc ls (.ref (G.2.2.1 + k) :: rest)) :=
  sGet Cx inX12 rfl 12 (by decide) w_1973 hW hk ht hv hdg kk
theorem g_X12_32 (Cx : sC G p m c cc nL s args RX12) (hW : sW G n S H) {k : Nat} (hk : k < n) (ht : tau k = .inl 12) {v : Value} (hv : S.2.2.2 k 9 = v) (hdg : decode cc pc = .ok (.getfield 32, 3)) (kk : W p l e R s m args below meth c H locs cells slots Q (F0 m (pc + 3) ls (v :: rest))) : W p l e R s m args below meth c H locs cells slots Q (F0 m pc ls (.ref (G.2.2.1 + k) :: rest)) :=
  sGet Cx inX12 rfl 9 (by decide) w_1970 hW hk ht hv hdg kk
theorem g_X12_35 (Cx : sC G p m c cc nL s args RX12) (hW : sW G n S H) {k : Nat} (hk : k < n) (ht : tau k = .inl 12) {v : Value} (hv : S.2.2.2 k 10 = v) (hdg : decode cc pc = .ok (.getfield 35, 3)) (kk : W p l e R s m args below meth c H locs cells slots Q (F0 m (pc + 3) ls (v :: rest))) : W p l e R s m args below meth c H locs cells slots Q (F0 m pc ls (.ref (G.2.2.1 + k) :: rest)) :=
  sGet Cx inX12 rfl 10 (by decide) w_1971 hW hk ht hv hdg kk
theorem c_X12_266 (Cx : sC G p m c cc nL s args RX12) {rm : Room} {mc ms : Nat} (h1 : rm.cells = mc) (h2 : rm.slots = ms) (h3 : rm.frames + 1 ≤ R.frames ∧ 8 + (19 + 11) + rm.locals ≤ R.locals) : CallW R s args RX12 RX12 266 yX12_divide cX12_divide 19 none (.code yX12_divide cX12_divide 19 none :: tb) rm mc ms 8 :=
  sCw Cx 8 w_2589 w_2591 w_162 w_217 w_2592 (by decide +kernel) h1 h2 h3
end RW55
