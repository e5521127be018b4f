theorem dX3_addRow_0 : decode cX3_addRow 0 = .ok (.aload_n 0, 1) := by decide +kernel
theorem dX3_addRow_1 : decode cX3_addRow 1 = .ok (.getfield 23, 3) := by decide +kernel
theorem dX3_addRow_4 : decode cX3_addRow 4 = .ok (.bipush 16, 2) := by decide +kernel
theorem dX3_addRow_6 : decode cX3_addRow 6 = .ok (.if_icmp .lt 4, 3) := by decide +kernel
theorem dX3_addRow_10 : decode cX3_addRow 10 = .ok (.aload_n 0, 1) := by decide +kernel
theorem dX3_addRow_11 : decode cX3_addRow 11 = .ok (.dup, 1) := by decide +kernel
theorem dX3_addRow_12 : decode cX3_addRow 12 = .ok (.getfield 23, 3) := by decide +kernel
theorem dX3_addRow_15 : decode cX3_addRow 15 = .ok (.iconst 1, 1) := by decide +kernel
theorem dX3_addRow_16 : decode cX3_addRow 16 = .ok (.iadd, 1) := by decide +kernel
theorem dX3_addRow_17 : decode cX3_addRow 17 = .ok (.putfield 23, 3) := by decide +kernel
theorem dX3_addRow_20 : decode cX3_addRow 20 = .ok (.aload_n 0, 1) := by decide +kernel
theorem dX3_addRow_21 : decode cX3_addRow 21 = .ok (.aload_n 0, 1) := by decide +kernel
theorem dX3_addRow_22 : decode cX3_addRow 22 = .ok (.getfield 23, 3) := by decide +kernel
theorem dX3_addRow_25 : decode cX3_addRow 25 = .ok (.iconst 0, 1) := by decide +kernel
theorem dX3_addRow_26 : decode cX3_addRow 26 = .ok (.iload_n 2, 1) := by decide +kernel
theorem dX3_addRow_27 : decode cX3_addRow 27 = .ok (.ineg, 1) := by decide +kernel
theorem dX3_addRow_28 : decode cX3_addRow 28 = .ok (.i2l, 1) := by decide +kernel
theorem dX3_addRow_29 : decode cX3_addRow 29 = .ok (.aload_n 1, 1) := by decide +kernel
theorem dX3_addRow_30 : decode cX3_addRow 30 = .ok (.iconst 0, 1) := by decide +kernel
theorem dX3_addRow_31 : decode cX3_addRow 31 = .ok (.laload, 1) := by decide +kernel
theorem dX3_addRow_32 : decode cX3_addRow 32 = .ok (.lmul, 1) := by decide +kernel
theorem dX3_addRow_33 : decode cX3_addRow 33 = .ok (.invokevirtual 30, 3) := by decide +kernel
theorem dX3_addRow_36 : decode cX3_addRow 36 = .ok (.iconst 1, 1) := by decide +kernel
theorem dX3_addRow_37 : decode cX3_addRow 37 = .ok (.istore_n 3, 1) := by decide +kernel
theorem dX3_addRow_38 : decode cX3_addRow 38 = .ok (.iload_n 3, 1) := by decide +kernel
theorem dX3_addRow_39 : decode cX3_addRow 39 = .ok (.aload_n 0, 1) := by decide +kernel
theorem dX3_addRow_40 : decode cX3_addRow 40 = .ok (.getfield 19, 3) := by decide +kernel
theorem dX3_addRow_43 : decode cX3_addRow 43 = .ok (.if_icmp .gt 24, 3) := by decide +kernel
theorem dX3_addRow_46 : decode cX3_addRow 46 = .ok (.aload_n 0, 1) := by decide +kernel
theorem dX3_addRow_47 : decode cX3_addRow 47 = .ok (.aload_n 0, 1) := by decide +kernel
theorem dX3_addRow_48 : decode cX3_addRow 48 = .ok (.getfield 23, 3) := by decide +kernel
theorem dX3_addRow_51 : decode cX3_addRow 51 = .ok (.iload_n 3, 1) := by decide +kernel
theorem dX3_addRow_52 : decode cX3_addRow 52 = .ok (.iload_n 2, 1) := by decide +kernel
theorem dX3_addRow_53 : decode cX3_addRow 53 = .ok (.i2l, 1) := by decide +kernel
theorem dX3_addRow_54 : decode cX3_addRow 54 = .ok (.aload_n 1, 1) := by decide +kernel
theorem dX3_addRow_55 : decode cX3_addRow 55 = .ok (.iload_n 3, 1) := by decide +kernel
theorem dX3_addRow_56 : decode cX3_addRow 56 = .ok (.laload, 1) := by decide +kernel
theorem dX3_addRow_57 : decode cX3_addRow 57 = .ok (.lmul, 1) := by decide +kernel
theorem dX3_addRow_58 : decode cX3_addRow 58 = .ok (.invokevirtual 30, 3) := by decide +kernel
theorem dX3_addRow_61 : decode cX3_addRow 61 = .ok (.iinc 3 1, 3) := by decide +kernel
theorem dX3_addRow_64 : decode cX3_addRow 64 = .ok (.goto (-26), 3) := by decide +kernel
theorem dX3_addRow_67 : decode cX3_addRow 67 = .ok (.return_, 1) := by decide +kernel
theorem dX3_addVariables_0 : decode cX3_addVariables 0 = .ok (.iconst 0, 1) := by decide +kernel
theorem dX3_addVariables_1 : decode cX3_addVariables 1 = .ok (.istore_n 3, 1) := by decide +kernel
theorem dX3_addVariables_2 : decode cX3_addVariables 2 = .ok (.iload_n 3, 1) := by decide +kernel
theorem dX3_addVariables_3 : decode cX3_addVariables 3 = .ok (.iload_n 1, 1) := by decide +kernel
theorem dX3_addVariables_4 : decode cX3_addVariables 4 = .ok (.if_icmp .ge 38, 3) := by decide +kernel
theorem dX3_addVariables_7 : decode cX3_addVariables 7 = .ok (.aload_n 0, 1) := by decide +kernel
theorem dX3_addVariables_8 : decode cX3_addVariables 8 = .ok (.getfield 19, 3) := by decide +kernel
theorem dX3_addVariables_11 : decode cX3_addVariables 11 = .ok (.bipush 12, 2) := by decide +kernel
theorem dX3_addVariables_13 : decode cX3_addVariables 13 = .ok (.if_icmp .ge 29, 3) := by decide +kernel
theorem dX3_addVariables_16 : decode cX3_addVariables 16 = .ok (.aload_n 0, 1) := by decide +kernel
theorem dX3_addVariables_17 : decode cX3_addVariables 17 = .ok (.dup, 1) := by decide +kernel
theorem dX3_addVariables_18 : decode cX3_addVariables 18 = .ok (.getfield 19, 3) := by decide +kernel
theorem dX3_addVariables_21 : decode cX3_addVariables 21 = .ok (.iconst 1, 1) := by decide +kernel
theorem dX3_addVariables_22 : decode cX3_addVariables 22 = .ok (.iadd, 1) := by decide +kernel
theorem dX3_addVariables_23 : decode cX3_addVariables 23 = .ok (.putfield 19, 3) := by decide +kernel
theorem dX3_addVariables_26 : decode cX3_addVariables 26 = .ok (.aload_n 0, 1) := by decide +kernel
theorem dX3_addVariables_27 : decode cX3_addVariables 27 = .ok (.getfield 15, 3) := by decide +kernel
theorem dX3_addVariables_30 : decode cX3_addVariables 30 = .ok (.aload_n 0, 1) := by decide +kernel
theorem dX3_addVariables_31 : decode cX3_addVariables 31 = .ok (.getfield 19, 3) := by decide +kernel
theorem dX3_addVariables_34 : decode cX3_addVariables 34 = .ok (.iload_n 2, 1) := by decide +kernel
theorem dX3_addVariables_35 : decode cX3_addVariables 35 = .ok (.bastore, 1) := by decide +kernel
theorem dX3_addVariables_36 : decode cX3_addVariables 36 = .ok (.iinc 3 1, 3) := by decide +kernel
theorem dX3_addVariables_39 : decode cX3_addVariables 39 = .ok (.goto (-37), 3) := by decide +kernel
theorem dX3_addVariables_42 : decode cX3_addVariables 42 = .ok (.return_, 1) := by decide +kernel
theorem dX3_clear_0 : decode cX3_clear 0 = .ok (.aload_n 0, 1) := by decide +kernel
theorem dX3_clear_1 : decode cX3_clear 1 = .ok (.iconst 0, 1) := by decide +kernel
theorem dX3_clear_2 : decode cX3_clear 2 = .ok (.putfield 19, 3) := by decide +kernel
theorem dX3_clear_5 : decode cX3_clear 5 = .ok (.aload_n 0, 1) := by decide +kernel
theorem dX3_clear_6 : decode cX3_clear 6 = .ok (.iconst 0, 1) := by decide +kernel
theorem dX3_clear_7 : decode cX3_clear 7 = .ok (.putfield 23, 3) := by decide +kernel
theorem dX3_clear_10 : decode cX3_clear 10 = .ok (.aload_n 0, 1) := by decide +kernel
theorem dX3_clear_11 : decode cX3_clear 11 = .ok (.iconst 0, 1) := by decide +kernel
theorem dX3_clear_12 : decode cX3_clear 12 = .ok (.putfield 26, 3) := by decide +kernel
theorem dX3_clear_15 : decode cX3_clear 15 = .ok (.return_, 1) := by decide +kernel
theorem dX3_isAllWhole_0 : decode cX3_isAllWhole 0 = .ok (.aload_n 0, 1) := by decide +kernel
theorem dX3_isAllWhole_1 : decode cX3_isAllWhole 1 = .ok (.invokevirtual 34, 3) := by decide +kernel
theorem dX3_isAllWhole_4 : decode cX3_isAllWhole 4 = .ok (.aload_n 0, 1) := by decide +kernel
theorem dX3_isAllWhole_5 : decode cX3_isAllWhole 5 = .ok (.getfield 19, 3) := by decide +kernel
theorem dX3_isAllWhole_8 : decode cX3_isAllWhole 8 = .ok (.if_icmp .ne 7, 3) := by decide +kernel
theorem dX3_isAllWhole_11 : decode cX3_isAllWhole 11 = .ok (.iconst 1, 1) := by decide +kernel
theorem dX3_isAllWhole_12 : decode cX3_isAllWhole 12 = .ok (.goto 4, 3) := by decide +kernel
theorem dX3_isAllWhole_15 : decode cX3_isAllWhole 15 = .ok (.iconst 0, 1) := by decide +kernel
theorem dX3_isAllWhole_16 : decode cX3_isAllWhole 16 = .ok (.ireturn, 1) := by decide +kernel
theorem dX3_isGoalWhole_0 : decode cX3_isGoalWhole 0 = .ok (.iconst 1, 1) := by decide +kernel
theorem dX3_isGoalWhole_1 : decode cX3_isGoalWhole 1 = .ok (.istore_n 1, 1) := by decide +kernel
theorem dX3_isGoalWhole_2 : decode cX3_isGoalWhole 2 = .ok (.iload_n 1, 1) := by decide +kernel
theorem dX3_isGoalWhole_3 : decode cX3_isGoalWhole 3 = .ok (.aload_n 0, 1) := by decide +kernel
theorem dX3_isGoalWhole_4 : decode cX3_isGoalWhole 4 = .ok (.getfield 19, 3) := by decide +kernel
theorem dX3_isGoalWhole_7 : decode cX3_isGoalWhole 7 = .ok (.if_icmp .gt 29, 3) := by decide +kernel
theorem dX3_isGoalWhole_10 : decode cX3_isGoalWhole 10 = .ok (.aload_n 0, 1) := by decide +kernel
theorem dX3_isGoalWhole_11 : decode cX3_isGoalWhole 11 = .ok (.iconst 0, 1) := by decide +kernel
theorem dX3_isGoalWhole_12 : decode cX3_isGoalWhole 12 = .ok (.iload_n 1, 1) := by decide +kernel
theorem dX3_isGoalWhole_13 : decode cX3_isGoalWhole 13 = .ok (.invokevirtual 38, 3) := by decide +kernel
theorem dX3_isGoalWhole_16 : decode cX3_isGoalWhole 16 = .ok (.ifCond .eq 14, 3) := by decide +kernel
theorem dX3_isGoalWhole_19 : decode cX3_isGoalWhole 19 = .ok (.aload_n 0, 1) := by decide +kernel
theorem dX3_isGoalWhole_20 : decode cX3_isGoalWhole 20 = .ok (.getfield 15, 3) := by decide +kernel
theorem dX3_isGoalWhole_23 : decode cX3_isGoalWhole 23 = .ok (.iload_n 1, 1) := by decide +kernel
theorem dX3_isGoalWhole_24 : decode cX3_isGoalWhole 24 = .ok (.baload, 1) := by decide +kernel
theorem dX3_isGoalWhole_25 : decode cX3_isGoalWhole 25 = .ok (.ifCond .ne 5, 3) := by decide +kernel
theorem dX3_isGoalWhole_28 : decode cX3_isGoalWhole 28 = .ok (.iconst 0, 1) := by decide +kernel
theorem dX3_isGoalWhole_29 : decode cX3_isGoalWhole 29 = .ok (.ireturn, 1) := by decide +kernel
theorem dX3_isGoalWhole_30 : decode cX3_isGoalWhole 30 = .ok (.iinc 1 1, 3) := by decide +kernel
theorem dX3_isGoalWhole_33 : decode cX3_isGoalWhole 33 = .ok (.goto (-31), 3) := by decide +kernel
theorem dX3_isGoalWhole_36 : decode cX3_isGoalWhole 36 = .ok (.iconst 1, 1) := by decide +kernel
theorem dX3_isGoalWhole_37 : decode cX3_isGoalWhole 37 = .ok (.ireturn, 1) := by decide +kernel
theorem dX3_isWhole_0 : decode cX3_isWhole 0 = .ok (.iload_n 1, 1) := by decide +kernel
theorem dX3_isWhole_1 : decode cX3_isWhole 1 = .ok (.iconst 1, 1) := by decide +kernel
theorem dX3_isWhole_2 : decode cX3_isWhole 2 = .ok (.if_icmp .lt 24, 3) := by decide +kernel
theorem dX3_isWhole_5 : decode cX3_isWhole 5 = .ok (.iload_n 1, 1) := by decide +kernel
theorem dX3_isWhole_6 : decode cX3_isWhole 6 = .ok (.aload_n 0, 1) := by decide +kernel
theorem dX3_isWhole_7 : decode cX3_isWhole 7 = .ok (.getfield 19, 3) := by decide +kernel
theorem dX3_isWhole_10 : decode cX3_isWhole 10 = .ok (.if_icmp .gt 16, 3) := by decide +kernel
theorem dX3_isWhole_13 : decode cX3_isWhole 13 = .ok (.aload_n 0, 1) := by decide +kernel
theorem dX3_isWhole_14 : decode cX3_isWhole 14 = .ok (.getfield 15, 3) := by decide +kernel
theorem dX3_isWhole_17 : decode cX3_isWhole 17 = .ok (.iload_n 1, 1) := by decide +kernel
theorem dX3_isWhole_18 : decode cX3_isWhole 18 = .ok (.baload, 1) := by decide +kernel
theorem dX3_isWhole_19 : decode cX3_isWhole 19 = .ok (.ifCond .eq 7, 3) := by decide +kernel
theorem dX3_isWhole_22 : decode cX3_isWhole 22 = .ok (.iconst 1, 1) := by decide +kernel
theorem dX3_isWhole_23 : decode cX3_isWhole 23 = .ok (.goto 4, 3) := by decide +kernel
theorem dX3_isWhole_26 : decode cX3_isWhole 26 = .ok (.iconst 0, 1) := by decide +kernel
theorem dX3_isWhole_27 : decode cX3_isWhole 27 = .ok (.ireturn, 1) := by decide +kernel
theorem dX3_number_0 : decode cX3_number 0 = .ok (.aload_n 0, 1) := by decide +kernel
theorem dX3_number_1 : decode cX3_number 1 = .ok (.getfield 11, 3) := by decide +kernel
theorem dX3_number_4 : decode cX3_number 4 = .ok (.iload_n 1, 1) := by decide +kernel
theorem dX3_number_5 : decode cX3_number 5 = .ok (.bipush 13, 2) := by decide +kernel
theorem dX3_number_7 : decode cX3_number 7 = .ok (.imul, 1) := by decide +kernel
theorem dX3_number_8 : decode cX3_number 8 = .ok (.iload_n 2, 1) := by decide +kernel
theorem dX3_number_9 : decode cX3_number 9 = .ok (.iadd, 1) := by decide +kernel
theorem dX3_number_10 : decode cX3_number 10 = .ok (.iaload, 1) := by decide +kernel
theorem dX3_number_11 : decode cX3_number 11 = .ok (.ireturn, 1) := by decide +kernel
theorem dX3_setGoal_0 : decode cX3_setGoal 0 = .ok (.aload_n 0, 1) := by decide +kernel
theorem dX3_setGoal_1 : decode cX3_setGoal 1 = .ok (.iload_n 2, 1) := by decide +kernel
theorem dX3_setGoal_2 : decode cX3_setGoal 2 = .ok (.putfield 26, 3) := by decide +kernel
theorem dX3_setGoal_5 : decode cX3_setGoal 5 = .ok (.iconst 0, 1) := by decide +kernel
theorem dX3_setGoal_6 : decode cX3_setGoal 6 = .ok (.istore_n 3, 1) := by decide +kernel
theorem dX3_setGoal_7 : decode cX3_setGoal 7 = .ok (.iload_n 3, 1) := by decide +kernel
theorem dX3_setGoal_8 : decode cX3_setGoal 8 = .ok (.aload_n 0, 1) := by decide +kernel
theorem dX3_setGoal_9 : decode cX3_setGoal 9 = .ok (.getfield 19, 3) := by decide +kernel
theorem dX3_setGoal_12 : decode cX3_setGoal 12 = .ok (.if_icmp .gt 29, 3) := by decide +kernel
theorem dX3_setGoal_15 : decode cX3_setGoal 15 = .ok (.aload_n 0, 1) := by decide +kernel
theorem dX3_setGoal_16 : decode cX3_setGoal 16 = .ok (.iconst 0, 1) := by decide +kernel
theorem dX3_setGoal_17 : decode cX3_setGoal 17 = .ok (.iload_n 3, 1) := by decide +kernel
theorem dX3_setGoal_18 : decode cX3_setGoal 18 = .ok (.iload_n 2, 1) := by decide +kernel
theorem dX3_setGoal_19 : decode cX3_setGoal 19 = .ok (.ifCond .eq 9, 3) := by decide +kernel
theorem dX3_setGoal_22 : decode cX3_setGoal 22 = .ok (.aload_n 1, 1) := by decide +kernel
theorem dX3_setGoal_23 : decode cX3_setGoal 23 = .ok (.iload_n 3, 1) := by decide +kernel
theorem dX3_setGoal_24 : decode cX3_setGoal 24 = .ok (.laload, 1) := by decide +kernel
theorem dX3_setGoal_25 : decode cX3_setGoal 25 = .ok (.goto 7, 3) := by decide +kernel
theorem dX3_setGoal_28 : decode cX3_setGoal 28 = .ok (.aload_n 1, 1) := by decide +kernel
theorem dX3_setGoal_29 : decode cX3_setGoal 29 = .ok (.iload_n 3, 1) := by decide +kernel
theorem dX3_setGoal_30 : decode cX3_setGoal 30 = .ok (.laload, 1) := by decide +kernel
theorem dX3_setGoal_31 : decode cX3_setGoal 31 = .ok (.lneg, 1) := by decide +kernel
theorem dX3_setGoal_32 : decode cX3_setGoal 32 = .ok (.invokevirtual 30, 3) := by decide +kernel
theorem dX3_setGoal_35 : decode cX3_setGoal 35 = .ok (.iinc 3 1, 3) := by decide +kernel
theorem dX3_setGoal_38 : decode cX3_setGoal 38 = .ok (.goto (-31), 3) := by decide +kernel
theorem dX3_setGoal_41 : decode cX3_setGoal 41 = .ok (.return_, 1) := by decide +kernel
theorem dX3_setNumber_0 : decode cX3_setNumber 0 = .ok (.aload_n 0, 1) := by decide +kernel
theorem dX3_setNumber_1 : decode cX3_setNumber 1 = .ok (.getfield 11, 3) := by decide +kernel
theorem dX3_setNumber_4 : decode cX3_setNumber 4 = .ok (.iload_n 1, 1) := by decide +kernel
theorem dX3_setNumber_5 : decode cX3_setNumber 5 = .ok (.bipush 13, 2) := by decide +kernel
theorem dX3_setNumber_7 : decode cX3_setNumber 7 = .ok (.imul, 1) := by decide +kernel
theorem dX3_setNumber_8 : decode cX3_setNumber 8 = .ok (.iload_n 2, 1) := by decide +kernel
theorem dX3_setNumber_9 : decode cX3_setNumber 9 = .ok (.iadd, 1) := by decide +kernel
theorem dX3_setNumber_10 : decode cX3_setNumber 10 = .ok (.lload_n 3, 1) := by decide +kernel
theorem dX3_setNumber_11 : decode cX3_setNumber 11 = .ok (.l2i, 1) := by decide +kernel
theorem dX3_setNumber_12 : decode cX3_setNumber 12 = .ok (.iastore, 1) := by decide +kernel
theorem dX3_setNumber_13 : decode cX3_setNumber 13 = .ok (.return_, 1) := by decide +kernel
theorem dX3_wholes_0 : decode cX3_wholes 0 = .ok (.iconst 0, 1) := by decide +kernel
theorem dX3_wholes_1 : decode cX3_wholes 1 = .ok (.istore_n 1, 1) := by decide +kernel
theorem dX3_wholes_2 : decode cX3_wholes 2 = .ok (.iconst 1, 1) := by decide +kernel
theorem dX3_wholes_3 : decode cX3_wholes 3 = .ok (.istore_n 2, 1) := by decide +kernel
theorem dX3_wholes_4 : decode cX3_wholes 4 = .ok (.iload_n 2, 1) := by decide +kernel
theorem dX3_wholes_5 : decode cX3_wholes 5 = .ok (.aload_n 0, 1) := by decide +kernel
theorem dX3_wholes_6 : decode cX3_wholes 6 = .ok (.getfield 19, 3) := by decide +kernel
theorem dX3_wholes_9 : decode cX3_wholes 9 = .ok (.if_icmp .gt 21, 3) := by decide +kernel
theorem dX3_wholes_12 : decode cX3_wholes 12 = .ok (.aload_n 0, 1) := by decide +kernel
theorem dX3_wholes_13 : decode cX3_wholes 13 = .ok (.getfield 15, 3) := by decide +kernel
theorem dX3_wholes_16 : decode cX3_wholes 16 = .ok (.iload_n 2, 1) := by decide +kernel
theorem dX3_wholes_17 : decode cX3_wholes 17 = .ok (.baload, 1) := by decide +kernel
theorem dX3_wholes_18 : decode cX3_wholes 18 = .ok (.ifCond .eq 6, 3) := by decide +kernel
theorem dX3_wholes_21 : decode cX3_wholes 21 = .ok (.iinc 1 1, 3) := by decide +kernel
theorem dX3_wholes_24 : decode cX3_wholes 24 = .ok (.iinc 2 1, 3) := by decide +kernel
theorem dX3_wholes_27 : decode cX3_wholes 27 = .ok (.goto (-23), 3) := by decide +kernel
theorem dX3_wholes_30 : decode cX3_wholes 30 = .ok (.iload_n 1, 1) := by decide +kernel
theorem dX3_wholes_31 : decode cX3_wholes 31 = .ok (.ireturn, 1) := by decide +kernel
theorem w_207 : Cond.initialized RX3 ∈ tb := tbc_1 4 (by decide +kernel) rfl
theorem w_261 : Cond.fieldLink RX3 11 (TX3 0).1 (TX3 0).2.1 (TX3 0).2.2.1 ∈ tb := tbc_1 58 (by decide +kernel) rfl
theorem w_262 : Cond.fieldLink RX3 15 (TX3 1).1 (TX3 1).2.1 (TX3 1).2.2.1 ∈ tb := tbc_1 59 (by decide +kernel) rfl
theorem w_263 : Cond.fieldLink RX3 19 (TX3 2).1 (TX3 2).2.1 (TX3 2).2.2.1 ∈ tb := tbc_1 60 (by decide +kernel) rfl
theorem w_271 : Cond.fieldLink RX3 23 (TX3 3).1 (TX3 3).2.1 (TX3 3).2.2.1 ∈ tb := tbc_1 68 (by decide +kernel) rfl
theorem w_278 : Cond.fieldLink RX3 26 (TX3 4).1 (TX3 4).2.1 (TX3 4).2.2.1 ∈ tb := tbc_1 75 (by decide +kernel) rfl
theorem w_283 : u_lay RX3 TX3 0 ∈ tb := tbc_1 80 (by decide +kernel) rfl
theorem w_285 : u_lay RX3 TX3 1 ∈ tb := tbc_1 82 (by decide +kernel) rfl
theorem w_287 : u_lay RX3 TX3 2 ∈ tb := tbc_1 84 (by decide +kernel) rfl
theorem w_289 : u_lay RX3 TX3 3 ∈ tb := tbc_1 86 (by decide +kernel) rfl
theorem w_291 : u_lay RX3 TX3 4 ∈ tb := tbc_1 88 (by decide +kernel) rfl
theorem w_1100 : Cond.methodLink RX3 30 yX3_setNumber ∈ tb := tbc_4 177 (by decide +kernel) rfl
theorem w_1101 : Cond.instanceMethod yX3_setNumber ∈ tb := tbc_4 178 (by decide +kernel) rfl
theorem w_1102 : Cond.selects RX3 yX3_setNumber yX3_setNumber ∈ tb := tbc_4 179 (by decide +kernel) rfl
theorem w_1103 : Cond.code yX3_setNumber cX3_setNumber 5 none ∈ tb := tbc_4 180 (by decide +kernel) rfl
theorem w_1130 : Cond.instanceMethod yX3_wholes ∈ tb := tbc_4 207 (by decide +kernel) rfl
theorem w_1131 : Cond.selects RX3 yX3_wholes yX3_wholes ∈ tb := tbc_4 208 (by decide +kernel) rfl
theorem w_1132 : Cond.code yX3_wholes cX3_wholes 3 (some .int) ∈ tb := tbc_4 209 (by decide +kernel) rfl
theorem w_1165 : Cond.instanceMethod yX3_number ∈ tb := tbc_5 2 (by decide +kernel) rfl
theorem w_1166 : Cond.selects RX3 yX3_number yX3_number ∈ tb := tbc_5 3 (by decide +kernel) rfl
theorem w_1167 : Cond.code yX3_number cX3_number 3 (some .int) ∈ tb := tbc_5 4 (by decide +kernel) rfl
theorem w_1351 : Cond.methodLink RX3 38 yX3_number ∈ tb := tbc_5 188 (by decide +kernel) rfl
theorem w_1399 : Cond.methodLink RX3 34 yX3_wholes ∈ tb := tbc_5 236 (by decide +kernel) rfl
theorem inX3 : ∀ w ∈ u_ws RX3 TX3 5, w ∈ tb := by
  show ∀ w ∈ [u_lay RX3 TX3 0, u_lay RX3 TX3 1, u_lay RX3 TX3 2, u_lay RX3 TX3 3, u_lay RX3 TX3 4], w ∈ tb
  exact List.forall_mem_cons.mpr ⟨w_283, List.forall_mem_cons.mpr ⟨w_285, List.forall_mem_cons.mpr ⟨w_287, List.forall_mem_cons.mpr ⟨w_289, List.forall_mem_cons.mpr ⟨w_291, fun _ h => absurd h List.not_mem_nil⟩⟩⟩⟩⟩
section RW11
variable {p : Program} {l : Launch} {e : Env} {R : Room} {s : State} {m : MethodId} {args : Array Value} {below : List Frame} {meth : Method} {c : Code} {H : Heap} {locs : List Loc} {cells slots : Nat} {Q : State → Prop}
variable {cc : ByteArray} {pc nL : Nat} {ls : Array Slot} {rest st0 : List Value} {G : sG} {n : Nat} {S : sS}
theorem p_X3_19 (Cx : sC G p m c cc nL s args RX3) (hW : sW G n S H) (hL : sL G locs) {k : Nat} (hk : k < n) (ht : tau k = .inl 3) {v : Int} (hdg : decode cc pc = .ok (.putfield 19, 3)) (kk : ∀ (H1 : Heap) (locs1 : List Loc), sW G n (uF S k 2 v) H1 → sL G locs1 → W p l e R s m args below meth c H1 locs1 cells slots Q (F0 m (pc + 3) ls rest)) : W p l e R s m args below meth c H locs cells slots Q (F0 m pc ls (.int (iv v) :: .ref (G.2.2.1 + k) :: rest)) :=
  sPut Cx inX3 tyX3 tyX3_ok nmX3 rfl 2 (by decide) w_263 rfl hW hL hk ht rfl rfl (fun _ h => uF_same h) (fun _ h => uF_off h) (congrArg (fun z => Value.int (iv z)) uF_on) hdg kk
theorem p_X3_23 (Cx : sC G p m c cc nL s args RX3) (hW : sW G n S H) (hL : sL G locs) {k : Nat} (hk : k < n) (ht : tau k = .inl 3) {v : Int} (hdg : decode cc pc = .ok (.putfield 23, 3)) (kk : ∀ (H1 : Heap) (locs1 : List Loc), sW G n (uF S k 3 v) H1 → sL G locs1 → W p l e R s m args below meth c H1 locs1 cells slots Q (F0 m (pc + 3) ls rest)) : W p l e R s m args below meth c H locs cells slots Q (F0 m pc ls (.int (iv v) :: .ref (G.2.2.1 + k) :: rest)) :=
  sPut Cx inX3 tyX3 tyX3_ok nmX3 rfl 3 (by decide) w_271 rfl hW hL hk ht rfl rfl (fun _ h => uF_same h) (fun _ h => uF_off h) (congrArg (fun z => Value.int (iv z)) uF_on) hdg kk
theorem p_X3_26 (Cx : sC G p m c cc nL s args RX3) (hW : sW G n S H) (hL : sL G locs) {k : Nat} (hk : k < n) (ht : tau k = .inl 3) {v : Int} (hv : v = 0 ∨ v = 1) (hdg : decode cc pc = .ok (.putfield 26, 3)) (kk : ∀ (H1 : Heap) (locs1 : List Loc), sW G n (uF S k 4 v) H1 → sL G locs1 → W p l e R s m args below meth c H1 locs1 cells slots Q (F0 m (pc + 3) ls rest)) : W p l e R s m args below meth c H locs cells slots Q (F0 m pc ls (.int (iv v) :: .ref (G.2.2.1 + k) :: rest)) :=
  sPut Cx inX3 tyX3 tyX3_ok nmX3 rfl 4 (by decide) w_278 rfl hW hL hk ht (by rcases hv with rfl | rfl <;> rfl) (by rcases hv with rfl | rfl <;> rfl) (fun _ h => uF_same h) (fun _ h => uF_off h) (congrArg (fun z => Value.int (iv z)) uF_on) hdg kk
theorem g_X3_11 (Cx : sC G p m c cc nL s args RX3) (hW : sW G n S H) {k : Nat} (hk : k < n) (ht : tau k = .inl 3) {v : Value} (hv : S.2.2.2 k 0 = v) (hdg : decode cc pc = .ok (.getfield 11, 3)) (kk : W p l e R s m args below meth c H locs cells slots Q (F0 m (pc + 3) ls (v :: rest))) : W p l e R s m args below meth c H locs cells slots Q (F0 m pc ls (.ref (G.2.2.1 + k) :: rest)) :=
  sGet Cx inX3 rfl 0 (by decide) w_261 hW hk ht hv hdg kk
theorem g_X3_19 (Cx : sC G p m c cc nL s args RX3) (hW : sW G n S H) {k : Nat} (hk : k < n) (ht : tau k = .inl 3) {v : Int} (hv : S.1 k 2 = v) (hdg : decode cc pc = .ok (.getfield 19, 3)) (kk : W p l e R s m args below meth c H locs cells slots Q (F0 m (pc + 3) ls (.int (iv v) :: rest))) : W p l e R s m args below meth c H locs cells slots Q (F0 m pc ls (.ref (G.2.2.1 + k) :: rest)) :=
  sGet Cx inX3 rfl 2 (by decide) w_263 hW hk ht (congrArg (fun z => Value.int (iv z)) hv) hdg kk
theorem g_X3_15 (Cx : sC G p m c cc nL s args RX3) (hW : sW G n S H) {k : Nat} (hk : k < n) (ht : tau k = .inl 3) {v : Value} (hv : S.2.2.2 k 1 = v) (hdg : decode cc pc = .ok (.getfield 15, 3)) (kk : W p l e R s m args below meth c H locs cells slots Q (F0 m (pc + 3) ls (v :: rest))) : W p l e R s m args below meth c H locs cells slots Q (F0 m pc ls (.ref (G.2.2.1 + k) :: rest)) :=
  sGet Cx inX3 rfl 1 (by decide) w_262 hW hk ht hv hdg kk
theorem c_X3_34 (Cx : sC G p m c cc nL s args RX3) {rm : Room} {mc ms : Nat} (h1 : rm.cells = mc) (h2 : rm.slots = ms) (h3 : rm.frames + 1 ≤ R.frames ∧ 8 + (3 + 11) + rm.locals ≤ R.locals) : CallW R s args RX3 RX3 34 yX3_wholes cX3_wholes 3 (some .int) (.code yX3_wholes cX3_wholes 3 (some .int) :: tb) rm mc ms 0 :=
  sCw Cx 0 w_1399 w_1130 w_1131 w_207 w_1132 (by decide +kernel) h1 h2 h3
theorem c_X3_38 (Cx : sC G p m c cc nL s args RX3) {rm : Room} {mc ms : Nat} (h1 : rm.cells = mc) (h2 : rm.slots = ms) (h3 : rm.frames + 1 ≤ R.frames ∧ 8 + (3 + 11) + rm.locals ≤ R.locals) : CallW R s args RX3 RX3 38 yX3_number cX3_number 3 (some .int) (.code yX3_number cX3_number 3 (some .int) :: tb) rm mc ms 2 :=
  sCw Cx 2 w_1351 w_1165 w_1166 w_207 w_1167 (by decide +kernel) h1 h2 h3
theorem g_X3_23 (Cx : sC G p m c cc nL s args RX3) (hW : sW G n S H) {k : Nat} (hk : k < n) (ht : tau k = .inl 3) {v : Int} (hv : S.1 k 3 = v) (hdg : decode cc pc = .ok (.getfield 23, 3)) (kk : W p l e R s m args below meth c H locs cells slots Q (F0 m (pc + 3) ls (.int (iv v) :: rest))) : W p l e R s m args below meth c H locs cells slots Q (F0 m pc ls (.ref (G.2.2.1 + k) :: rest)) :=
  sGet Cx inX3 rfl 3 (by decide) w_271 hW hk ht (congrArg (fun z => Value.int (iv z)) hv) hdg kk
theorem c_X3_30 (Cx : sC G p m c cc nL s args RX3) {rm : Room} {mc ms : Nat} (h1 : rm.cells = mc) (h2 : rm.slots = ms) (h3 : rm.frames + 1 ≤ R.frames ∧ 8 + (5 + 11) + rm.locals ≤ R.locals) : CallW R s args RX3 RX3 30 yX3_setNumber cX3_setNumber 5 none (.code yX3_setNumber cX3_setNumber 5 none :: tb) rm mc ms 3 :=
  sCw Cx 3 w_1100 w_1101 w_1102 w_207 w_1103 (by decide +kernel) h1 h2 h3
end RW11
