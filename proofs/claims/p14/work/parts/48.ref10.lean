theorem dX12_against_0 : decode cX12_against 0 = .ok (.aload_n 0, 1) := by decide +kernel
theorem dX12_against_1 : decode cX12_against 1 = .ok (.iload_n 1, 1) := by decide +kernel
theorem dX12_against_2 : decode cX12_against 2 = .ok (.invokestatic 221, 3) := by decide +kernel
theorem dX12_against_5 : decode cX12_against 5 = .ok (.istore 4, 2) := by decide +kernel
theorem dX12_against_7 : decode cX12_against 7 = .ok (.aload_n 2, 1) := by decide +kernel
theorem dX12_against_8 : decode cX12_against 8 = .ok (.iload_n 3, 1) := by decide +kernel
theorem dX12_against_9 : decode cX12_against 9 = .ok (.invokestatic 221, 3) := by decide +kernel
theorem dX12_against_12 : decode cX12_against 12 = .ok (.istore 5, 2) := by decide +kernel
theorem dX12_against_14 : decode cX12_against 14 = .ok (.iload 4, 2) := by decide +kernel
theorem dX12_against_16 : decode cX12_against 16 = .ok (.iload 5, 2) := by decide +kernel
theorem dX12_against_18 : decode cX12_against 18 = .ok (.if_icmp .eq 16, 3) := by decide +kernel
theorem dX12_against_21 : decode cX12_against 21 = .ok (.iload 4, 2) := by decide +kernel
theorem dX12_against_23 : decode cX12_against 23 = .ok (.iload 5, 2) := by decide +kernel
theorem dX12_against_25 : decode cX12_against 25 = .ok (.if_icmp .ge 7, 3) := by decide +kernel
theorem dX12_against_28 : decode cX12_against 28 = .ok (.iconst (-1), 1) := by decide +kernel
theorem dX12_against_29 : decode cX12_against 29 = .ok (.goto 4, 3) := by decide +kernel
theorem dX12_against_32 : decode cX12_against 32 = .ok (.iconst 1, 1) := by decide +kernel
theorem dX12_against_33 : decode cX12_against 33 = .ok (.ireturn, 1) := by decide +kernel
theorem dX12_against_34 : decode cX12_against 34 = .ok (.iload 4, 2) := by decide +kernel
theorem dX12_against_36 : decode cX12_against 36 = .ok (.istore 6, 2) := by decide +kernel
theorem dX12_against_38 : decode cX12_against 38 = .ok (.iload 6, 2) := by decide +kernel
theorem dX12_against_40 : decode cX12_against 40 = .ok (.ifCond .le 45, 3) := by decide +kernel
theorem dX12_against_43 : decode cX12_against 43 = .ok (.aload_n 0, 1) := by decide +kernel
theorem dX12_against_44 : decode cX12_against 44 = .ok (.iload_n 1, 1) := by decide +kernel
theorem dX12_against_45 : decode cX12_against 45 = .ok (.iload 6, 2) := by decide +kernel
theorem dX12_against_47 : decode cX12_against 47 = .ok (.iadd, 1) := by decide +kernel
theorem dX12_against_48 : decode cX12_against 48 = .ok (.iaload, 1) := by decide +kernel
theorem dX12_against_49 : decode cX12_against 49 = .ok (.aload_n 2, 1) := by decide +kernel
theorem dX12_against_50 : decode cX12_against 50 = .ok (.iload_n 3, 1) := by decide +kernel
theorem dX12_against_51 : decode cX12_against 51 = .ok (.iload 6, 2) := by decide +kernel
theorem dX12_against_53 : decode cX12_against 53 = .ok (.iadd, 1) := by decide +kernel
theorem dX12_against_54 : decode cX12_against 54 = .ok (.iaload, 1) := by decide +kernel
theorem dX12_against_55 : decode cX12_against 55 = .ok (.if_icmp .eq 24, 3) := by decide +kernel
theorem dX12_against_58 : decode cX12_against 58 = .ok (.aload_n 0, 1) := by decide +kernel
theorem dX12_against_59 : decode cX12_against 59 = .ok (.iload_n 1, 1) := by decide +kernel
theorem dX12_against_60 : decode cX12_against 60 = .ok (.iload 6, 2) := by decide +kernel
theorem dX12_against_62 : decode cX12_against 62 = .ok (.iadd, 1) := by decide +kernel
theorem dX12_against_63 : decode cX12_against 63 = .ok (.iaload, 1) := by decide +kernel
theorem dX12_against_64 : decode cX12_against 64 = .ok (.aload_n 2, 1) := by decide +kernel
theorem dX12_against_65 : decode cX12_against 65 = .ok (.iload_n 3, 1) := by decide +kernel
theorem dX12_against_66 : decode cX12_against 66 = .ok (.iload 6, 2) := by decide +kernel
theorem dX12_against_68 : decode cX12_against 68 = .ok (.iadd, 1) := by decide +kernel
theorem dX12_against_69 : decode cX12_against 69 = .ok (.iaload, 1) := by decide +kernel
theorem dX12_against_70 : decode cX12_against 70 = .ok (.if_icmp .ge 7, 3) := by decide +kernel
theorem dX12_against_73 : decode cX12_against 73 = .ok (.iconst (-1), 1) := by decide +kernel
theorem dX12_against_74 : decode cX12_against 74 = .ok (.goto 4, 3) := by decide +kernel
theorem dX12_against_77 : decode cX12_against 77 = .ok (.iconst 1, 1) := by decide +kernel
theorem dX12_against_78 : decode cX12_against 78 = .ok (.ireturn, 1) := by decide +kernel
theorem dX12_against_79 : decode cX12_against 79 = .ok (.iinc 6 (-1), 3) := by decide +kernel
theorem dX12_against_82 : decode cX12_against 82 = .ok (.goto (-44), 3) := by decide +kernel
theorem dX12_against_85 : decode cX12_against 85 = .ok (.iconst 0, 1) := by decide +kernel
theorem dX12_against_86 : decode cX12_against 86 = .ok (.ireturn, 1) := by decide +kernel
theorem dX12_compare_0 : decode cX12_compare 0 = .ok (.aload_n 0, 1) := by decide +kernel
theorem dX12_compare_1 : decode cX12_compare 1 = .ok (.iload_n 1, 1) := by decide +kernel
theorem dX12_compare_2 : decode cX12_compare 2 = .ok (.invokestatic 225, 3) := by decide +kernel
theorem dX12_compare_5 : decode cX12_compare 5 = .ok (.istore 4, 2) := by decide +kernel
theorem dX12_compare_7 : decode cX12_compare 7 = .ok (.aload_n 2, 1) := by decide +kernel
theorem dX12_compare_8 : decode cX12_compare 8 = .ok (.iload_n 3, 1) := by decide +kernel
theorem dX12_compare_9 : decode cX12_compare 9 = .ok (.invokestatic 225, 3) := by decide +kernel
theorem dX12_compare_12 : decode cX12_compare 12 = .ok (.istore 5, 2) := by decide +kernel
theorem dX12_compare_14 : decode cX12_compare 14 = .ok (.iload 4, 2) := by decide +kernel
theorem dX12_compare_16 : decode cX12_compare 16 = .ok (.iload 5, 2) := by decide +kernel
theorem dX12_compare_18 : decode cX12_compare 18 = .ok (.if_icmp .eq 16, 3) := by decide +kernel
theorem dX12_compare_21 : decode cX12_compare 21 = .ok (.iload 4, 2) := by decide +kernel
theorem dX12_compare_23 : decode cX12_compare 23 = .ok (.iload 5, 2) := by decide +kernel
theorem dX12_compare_25 : decode cX12_compare 25 = .ok (.if_icmp .ge 7, 3) := by decide +kernel
theorem dX12_compare_28 : decode cX12_compare 28 = .ok (.iconst (-1), 1) := by decide +kernel
theorem dX12_compare_29 : decode cX12_compare 29 = .ok (.goto 4, 3) := by decide +kernel
theorem dX12_compare_32 : decode cX12_compare 32 = .ok (.iconst 1, 1) := by decide +kernel
theorem dX12_compare_33 : decode cX12_compare 33 = .ok (.ireturn, 1) := by decide +kernel
theorem dX12_compare_34 : decode cX12_compare 34 = .ok (.iload 4, 2) := by decide +kernel
theorem dX12_compare_36 : decode cX12_compare 36 = .ok (.ifCond .lt 13, 3) := by decide +kernel
theorem dX12_compare_39 : decode cX12_compare 39 = .ok (.aload_n 0, 1) := by decide +kernel
theorem dX12_compare_40 : decode cX12_compare 40 = .ok (.iload_n 1, 1) := by decide +kernel
theorem dX12_compare_41 : decode cX12_compare 41 = .ok (.aload_n 2, 1) := by decide +kernel
theorem dX12_compare_42 : decode cX12_compare 42 = .ok (.iload_n 3, 1) := by decide +kernel
theorem dX12_compare_43 : decode cX12_compare 43 = .ok (.invokestatic 228, 3) := by decide +kernel
theorem dX12_compare_46 : decode cX12_compare 46 = .ok (.goto 10, 3) := by decide +kernel
theorem dX12_compare_49 : decode cX12_compare 49 = .ok (.aload_n 2, 1) := by decide +kernel
theorem dX12_compare_50 : decode cX12_compare 50 = .ok (.iload_n 3, 1) := by decide +kernel
theorem dX12_compare_51 : decode cX12_compare 51 = .ok (.aload_n 0, 1) := by decide +kernel
theorem dX12_compare_52 : decode cX12_compare 52 = .ok (.iload_n 1, 1) := by decide +kernel
theorem dX12_compare_53 : decode cX12_compare 53 = .ok (.invokestatic 228, 3) := by decide +kernel
theorem dX12_compare_56 : decode cX12_compare 56 = .ok (.ireturn, 1) := by decide +kernel
theorem dX12_copy_0 : decode cX12_copy 0 = .ok (.aload_n 0, 1) := by decide +kernel
theorem dX12_copy_1 : decode cX12_copy 1 = .ok (.iload_n 1, 1) := by decide +kernel
theorem dX12_copy_2 : decode cX12_copy 2 = .ok (.invokestatic 221, 3) := by decide +kernel
theorem dX12_copy_5 : decode cX12_copy 5 = .ok (.istore 4, 2) := by decide +kernel
theorem dX12_copy_7 : decode cX12_copy 7 = .ok (.iconst 0, 1) := by decide +kernel
theorem dX12_copy_8 : decode cX12_copy 8 = .ok (.istore 5, 2) := by decide +kernel
theorem dX12_copy_10 : decode cX12_copy 10 = .ok (.iload 5, 2) := by decide +kernel
theorem dX12_copy_12 : decode cX12_copy 12 = .ok (.iload 4, 2) := by decide +kernel
theorem dX12_copy_14 : decode cX12_copy 14 = .ok (.if_icmp .gt 21, 3) := by decide +kernel
theorem dX12_copy_17 : decode cX12_copy 17 = .ok (.aload_n 2, 1) := by decide +kernel
theorem dX12_copy_18 : decode cX12_copy 18 = .ok (.iload_n 3, 1) := by decide +kernel
theorem dX12_copy_19 : decode cX12_copy 19 = .ok (.iload 5, 2) := by decide +kernel
theorem dX12_copy_21 : decode cX12_copy 21 = .ok (.iadd, 1) := by decide +kernel
theorem dX12_copy_22 : decode cX12_copy 22 = .ok (.aload_n 0, 1) := by decide +kernel
theorem dX12_copy_23 : decode cX12_copy 23 = .ok (.iload_n 1, 1) := by decide +kernel
theorem dX12_copy_24 : decode cX12_copy 24 = .ok (.iload 5, 2) := by decide +kernel
theorem dX12_copy_26 : decode cX12_copy 26 = .ok (.iadd, 1) := by decide +kernel
theorem dX12_copy_27 : decode cX12_copy 27 = .ok (.iaload, 1) := by decide +kernel
theorem dX12_copy_28 : decode cX12_copy 28 = .ok (.iastore, 1) := by decide +kernel
theorem dX12_copy_29 : decode cX12_copy 29 = .ok (.iinc 5 1, 3) := by decide +kernel
theorem dX12_copy_32 : decode cX12_copy 32 = .ok (.goto (-22), 3) := by decide +kernel
theorem dX12_copy_35 : decode cX12_copy 35 = .ok (.return_, 1) := by decide +kernel
theorem dX12_limbs_0 : decode cX12_limbs 0 = .ok (.aload_n 0, 1) := by decide +kernel
theorem dX12_limbs_1 : decode cX12_limbs 1 = .ok (.iload_n 1, 1) := by decide +kernel
theorem dX12_limbs_2 : decode cX12_limbs 2 = .ok (.iaload, 1) := by decide +kernel
theorem dX12_limbs_3 : decode cX12_limbs 3 = .ok (.invokestatic 210, 3) := by decide +kernel
theorem dX12_limbs_6 : decode cX12_limbs 6 = .ok (.ireturn, 1) := by decide +kernel
theorem dX12_negate_0 : decode cX12_negate 0 = .ok (.aload_n 0, 1) := by decide +kernel
theorem dX12_negate_1 : decode cX12_negate 1 = .ok (.iload_n 1, 1) := by decide +kernel
theorem dX12_negate_2 : decode cX12_negate 2 = .ok (.aload_n 0, 1) := by decide +kernel
theorem dX12_negate_3 : decode cX12_negate 3 = .ok (.iload_n 1, 1) := by decide +kernel
theorem dX12_negate_4 : decode cX12_negate 4 = .ok (.iaload, 1) := by decide +kernel
theorem dX12_negate_5 : decode cX12_negate 5 = .ok (.ineg, 1) := by decide +kernel
theorem dX12_negate_6 : decode cX12_negate 6 = .ok (.iastore, 1) := by decide +kernel
theorem dX12_negate_7 : decode cX12_negate 7 = .ok (.return_, 1) := by decide +kernel
theorem dX12_put_0 : decode cX12_put 0 = .ok (.lload_n 2, 1) := by decide +kernel
theorem dX12_put_1 : decode cX12_put 1 = .ok (.invokestatic 216, 3) := by decide +kernel
theorem dX12_put_4 : decode cX12_put 4 = .ok (.lstore 4, 2) := by decide +kernel
theorem dX12_put_6 : decode cX12_put 6 = .ok (.iconst 0, 1) := by decide +kernel
theorem dX12_put_7 : decode cX12_put 7 = .ok (.istore 6, 2) := by decide +kernel
theorem dX12_put_9 : decode cX12_put 9 = .ok (.lload 4, 2) := by decide +kernel
theorem dX12_put_11 : decode cX12_put 11 = .ok (.lconst 0, 1) := by decide +kernel
theorem dX12_put_12 : decode cX12_put 12 = .ok (.lcmp, 1) := by decide +kernel
theorem dX12_put_13 : decode cX12_put 13 = .ok (.ifCond .le 30, 3) := by decide +kernel
theorem dX12_put_16 : decode cX12_put 16 = .ok (.iinc 6 1, 3) := by decide +kernel
theorem dX12_put_19 : decode cX12_put 19 = .ok (.aload_n 0, 1) := by decide +kernel
theorem dX12_put_20 : decode cX12_put 20 = .ok (.iload_n 1, 1) := by decide +kernel
theorem dX12_put_21 : decode cX12_put 21 = .ok (.iload 6, 2) := by decide +kernel
theorem dX12_put_23 : decode cX12_put 23 = .ok (.iadd, 1) := by decide +kernel
theorem dX12_put_24 : decode cX12_put 24 = .ok (.lload 4, 2) := by decide +kernel
theorem dX12_put_26 : decode cX12_put 26 = .ok (.ldc2_w 219, 3) := by decide +kernel
theorem dX12_put_29 : decode cX12_put 29 = .ok (.lrem, 1) := by decide +kernel
theorem dX12_put_30 : decode cX12_put 30 = .ok (.l2i, 1) := by decide +kernel
theorem dX12_put_31 : decode cX12_put 31 = .ok (.iastore, 1) := by decide +kernel
theorem dX12_put_32 : decode cX12_put 32 = .ok (.lload 4, 2) := by decide +kernel
theorem dX12_put_34 : decode cX12_put 34 = .ok (.ldc2_w 219, 3) := by decide +kernel
theorem dX12_put_37 : decode cX12_put 37 = .ok (.ldiv, 1) := by decide +kernel
theorem dX12_put_38 : decode cX12_put 38 = .ok (.lstore 4, 2) := by decide +kernel
theorem dX12_put_40 : decode cX12_put 40 = .ok (.goto (-31), 3) := by decide +kernel
theorem dX12_put_43 : decode cX12_put 43 = .ok (.aload_n 0, 1) := by decide +kernel
theorem dX12_put_44 : decode cX12_put 44 = .ok (.iload_n 1, 1) := by decide +kernel
theorem dX12_put_45 : decode cX12_put 45 = .ok (.lload_n 2, 1) := by decide +kernel
theorem dX12_put_46 : decode cX12_put 46 = .ok (.lconst 0, 1) := by decide +kernel
theorem dX12_put_47 : decode cX12_put 47 = .ok (.lcmp, 1) := by decide +kernel
theorem dX12_put_48 : decode cX12_put 48 = .ok (.ifCond .ge 9, 3) := by decide +kernel
theorem dX12_put_51 : decode cX12_put 51 = .ok (.iload 6, 2) := by decide +kernel
theorem dX12_put_53 : decode cX12_put 53 = .ok (.ineg, 1) := by decide +kernel
theorem dX12_put_54 : decode cX12_put 54 = .ok (.goto 5, 3) := by decide +kernel
theorem dX12_put_57 : decode cX12_put 57 = .ok (.iload 6, 2) := by decide +kernel
theorem dX12_put_59 : decode cX12_put 59 = .ok (.iastore, 1) := by decide +kernel
theorem dX12_put_60 : decode cX12_put 60 = .ok (.return_, 1) := by decide +kernel
theorem dX12_sign_0 : decode cX12_sign 0 = .ok (.aload_n 0, 1) := by decide +kernel
theorem dX12_sign_1 : decode cX12_sign 1 = .ok (.iload_n 1, 1) := by decide +kernel
theorem dX12_sign_2 : decode cX12_sign 2 = .ok (.iaload, 1) := by decide +kernel
theorem dX12_sign_3 : decode cX12_sign 3 = .ok (.ifCond .le 7, 3) := by decide +kernel
theorem dX12_sign_6 : decode cX12_sign 6 = .ok (.iconst 1, 1) := by decide +kernel
theorem dX12_sign_7 : decode cX12_sign 7 = .ok (.goto 14, 3) := by decide +kernel
theorem dX12_sign_10 : decode cX12_sign 10 = .ok (.aload_n 0, 1) := by decide +kernel
theorem dX12_sign_11 : decode cX12_sign 11 = .ok (.iload_n 1, 1) := by decide +kernel
theorem dX12_sign_12 : decode cX12_sign 12 = .ok (.iaload, 1) := by decide +kernel
theorem dX12_sign_13 : decode cX12_sign 13 = .ok (.ifCond .ge 7, 3) := by decide +kernel
theorem dX12_sign_16 : decode cX12_sign 16 = .ok (.iconst (-1), 1) := by decide +kernel
theorem dX12_sign_17 : decode cX12_sign 17 = .ok (.goto 4, 3) := by decide +kernel
theorem dX12_sign_20 : decode cX12_sign 20 = .ok (.iconst 0, 1) := by decide +kernel
theorem dX12_sign_21 : decode cX12_sign 21 = .ok (.ireturn, 1) := by decide +kernel
theorem dX12_trim_0 : decode cX12_trim 0 = .ok (.iload_n 2, 1) := by decide +kernel
theorem dX12_trim_1 : decode cX12_trim 1 = .ok (.istore 4, 2) := by decide +kernel
theorem dX12_trim_3 : decode cX12_trim 3 = .ok (.iload 4, 2) := by decide +kernel
theorem dX12_trim_5 : decode cX12_trim 5 = .ok (.ifCond .le 18, 3) := by decide +kernel
theorem dX12_trim_8 : decode cX12_trim 8 = .ok (.aload_n 0, 1) := by decide +kernel
theorem dX12_trim_9 : decode cX12_trim 9 = .ok (.iload_n 1, 1) := by decide +kernel
theorem dX12_trim_10 : decode cX12_trim 10 = .ok (.iload 4, 2) := by decide +kernel
theorem dX12_trim_12 : decode cX12_trim 12 = .ok (.iadd, 1) := by decide +kernel
theorem dX12_trim_13 : decode cX12_trim 13 = .ok (.iaload, 1) := by decide +kernel
theorem dX12_trim_14 : decode cX12_trim 14 = .ok (.ifCond .ne 9, 3) := by decide +kernel
theorem dX12_trim_17 : decode cX12_trim 17 = .ok (.iinc 4 (-1), 3) := by decide +kernel
theorem dX12_trim_20 : decode cX12_trim 20 = .ok (.goto (-17), 3) := by decide +kernel
theorem dX12_trim_23 : decode cX12_trim 23 = .ok (.aload_n 0, 1) := by decide +kernel
theorem dX12_trim_24 : decode cX12_trim 24 = .ok (.iload_n 1, 1) := by decide +kernel
theorem dX12_trim_25 : decode cX12_trim 25 = .ok (.iload_n 3, 1) := by decide +kernel
theorem dX12_trim_26 : decode cX12_trim 26 = .ok (.iload 4, 2) := by decide +kernel
theorem dX12_trim_28 : decode cX12_trim 28 = .ok (.imul, 1) := by decide +kernel
theorem dX12_trim_29 : decode cX12_trim 29 = .ok (.iastore, 1) := by decide +kernel
theorem dX12_trim_30 : decode cX12_trim 30 = .ok (.return_, 1) := by decide +kernel
theorem w_217 : Cond.initialized RX12 ∈ tb := tbc_1 14 (by decide +kernel) rfl
theorem w_2463 : Cond.methodLink RX12 216 Lib.MathLoose.abs_long.x ∈ tb := tbc_10 100 (by decide +kernel) rfl
theorem w_2464 : Cond.constantLong RX12 219 (jv 1000000000) ∈ tb := tbc_10 101 (by decide +kernel) rfl
theorem w_2484 : Cond.methodLink RX12 221 yX12_limbs ∈ tb := tbc_10 121 (by decide +kernel) rfl
theorem w_2485 : Cond.static yX12_limbs ∈ tb := tbc_10 122 (by decide +kernel) rfl
theorem w_2486 : Cond.code yX12_limbs cX12_limbs 2 (some .int) ∈ tb := tbc_10 123 (by decide +kernel) rfl
theorem w_2487 : Cond.methodLink RX12 210 Lib.Math.abs.name ∈ tb := tbc_10 124 (by decide +kernel) rfl
theorem w_2508 : Cond.methodLink RX12 225 yX12_sign ∈ tb := tbc_10 145 (by decide +kernel) rfl
theorem w_2509 : Cond.static yX12_sign ∈ tb := tbc_10 146 (by decide +kernel) rfl
theorem w_2510 : Cond.code yX12_sign cX12_sign 2 (some .int) ∈ tb := tbc_10 147 (by decide +kernel) rfl
theorem w_2511 : Cond.methodLink RX12 228 yX12_against ∈ tb := tbc_10 148 (by decide +kernel) rfl
theorem w_2512 : Cond.static yX12_against ∈ tb := tbc_10 149 (by decide +kernel) rfl
theorem w_2513 : Cond.code yX12_against cX12_against 7 (some .int) ∈ tb := tbc_10 150 (by decide +kernel) rfl
section RW48
variable {p : Program} {l : Launch} {e : Env} {R : Room} {s : State} {m : MethodId} {args : Array Value} {below : List Frame} {meth : Method} {c : Code} {H : Heap} {locs : List Loc} {cells slots : Nat} {Q : State → Prop}
variable {cc : ByteArray} {pc nL : Nat} {ls : Array Slot} {rest st0 : List Value} {G : sG} {n : Nat} {S : sS}
theorem c_X12_221 (Cx : sC G p m c cc nL s args RX12) {rm : Room} {mc ms : Nat} (h1 : rm.cells = mc) (h2 : rm.slots = ms) (h3 : rm.frames + 1 ≤ R.frames ∧ 8 + (2 + 11) + rm.locals ≤ R.locals) : CallB R s args RX12 221 yX12_limbs cX12_limbs 2 (some .int) (.code yX12_limbs cX12_limbs 2 (some .int) :: tb) rm mc ms 2 ∧ (Cond.static yX12_limbs).before args s = true :=
  sCS Cx 2 w_2484 w_2485 w_217 w_2486 (by decide +kernel) h1 h2 h3
theorem c_X12_225 (Cx : sC G p m c cc nL s args RX12) {rm : Room} {mc ms : Nat} (h1 : rm.cells = mc) (h2 : rm.slots = ms) (h3 : rm.frames + 1 ≤ R.frames ∧ 8 + (2 + 11) + rm.locals ≤ R.locals) : CallB R s args RX12 225 yX12_sign cX12_sign 2 (some .int) (.code yX12_sign cX12_sign 2 (some .int) :: tb) rm mc ms 2 ∧ (Cond.static yX12_sign).before args s = true :=
  sCS Cx 2 w_2508 w_2509 w_217 w_2510 (by decide +kernel) h1 h2 h3
theorem c_X12_228 (Cx : sC G p m c cc nL s args RX12) {rm : Room} {mc ms : Nat} (h1 : rm.cells = mc) (h2 : rm.slots = ms) (h3 : rm.frames + 1 ≤ R.frames ∧ 8 + (7 + 11) + rm.locals ≤ R.locals) : CallB R s args RX12 228 yX12_against cX12_against 7 (some .int) (.code yX12_against cX12_against 7 (some .int) :: tb) rm mc ms 4 ∧ (Cond.static yX12_against).before args s = true :=
  sCS Cx 4 w_2511 w_2512 w_217 w_2513 (by decide +kernel) h1 h2 h3
end RW48
