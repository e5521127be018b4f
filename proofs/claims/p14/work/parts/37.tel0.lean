theorem dX9_asked_0 : decode cX9_asked 0 = .ok (.aload_n 0, 1) := by decide +kernel
theorem dX9_asked_1 : decode cX9_asked 1 = .ok (.aload_n 0, 1) := by decide +kernel
theorem dX9_asked_2 : decode cX9_asked 2 = .ok (.iload_n 1, 1) := by decide +kernel
theorem dX9_asked_3 : decode cX9_asked 3 = .ok (.iconst 3, 1) := by decide +kernel
theorem dX9_asked_4 : decode cX9_asked 4 = .ok (.invokevirtual 120, 3) := by decide +kernel
theorem dX9_asked_7 : decode cX9_asked 7 = .ok (.invokevirtual 149, 3) := by decide +kernel
theorem dX9_asked_10 : decode cX9_asked 10 = .ok (.aload_n 0, 1) := by decide +kernel
theorem dX9_asked_11 : decode cX9_asked 11 = .ok (.aload_n 0, 1) := by decide +kernel
theorem dX9_asked_12 : decode cX9_asked 12 = .ok (.iload_n 1, 1) := by decide +kernel
theorem dX9_asked_13 : decode cX9_asked 13 = .ok (.iconst 4, 1) := by decide +kernel
theorem dX9_asked_14 : decode cX9_asked 14 = .ok (.invokevirtual 120, 3) := by decide +kernel
theorem dX9_asked_17 : decode cX9_asked 17 = .ok (.invokevirtual 149, 3) := by decide +kernel
theorem dX9_asked_20 : decode cX9_asked 20 = .ok (.imul, 1) := by decide +kernel
theorem dX9_asked_21 : decode cX9_asked 21 = .ok (.ireturn, 1) := by decide +kernel
theorem dX9_fact_0 : decode cX9_fact 0 = .ok (.aload_n 0, 1) := by decide +kernel
theorem dX9_fact_1 : decode cX9_fact 1 = .ok (.getfield 22, 3) := by decide +kernel
theorem dX9_fact_4 : decode cX9_fact 4 = .ok (.iload_n 1, 1) := by decide +kernel
theorem dX9_fact_5 : decode cX9_fact 5 = .ok (.bipush 6, 2) := by decide +kernel
theorem dX9_fact_7 : decode cX9_fact 7 = .ok (.imul, 1) := by decide +kernel
theorem dX9_fact_8 : decode cX9_fact 8 = .ok (.iload_n 2, 1) := by decide +kernel
theorem dX9_fact_9 : decode cX9_fact 9 = .ok (.iadd, 1) := by decide +kernel
theorem dX9_fact_10 : decode cX9_fact 10 = .ok (.iaload, 1) := by decide +kernel
theorem dX9_fact_11 : decode cX9_fact 11 = .ok (.ireturn, 1) := by decide +kernel
theorem dX9_fail_0 : decode cX9_fail 0 = .ok (.aload_n 0, 1) := by decide +kernel
theorem dX9_fail_1 : decode cX9_fail 1 = .ok (.iload_n 1, 1) := by decide +kernel
theorem dX9_fail_2 : decode cX9_fail 2 = .ok (.putfield 54, 3) := by decide +kernel
theorem dX9_fail_5 : decode cX9_fail 5 = .ok (.aload_n 0, 1) := by decide +kernel
theorem dX9_fail_6 : decode cX9_fail 6 = .ok (.iload_n 2, 1) := by decide +kernel
theorem dX9_fail_7 : decode cX9_fail 7 = .ok (.putfield 114, 3) := by decide +kernel
theorem dX9_fail_10 : decode cX9_fail 10 = .ok (.iconst 0, 1) := by decide +kernel
theorem dX9_fail_11 : decode cX9_fail 11 = .ok (.ireturn, 1) := by decide +kernel
theorem dX9_faultPlace_0 : decode cX9_faultPlace 0 = .ok (.aload_n 0, 1) := by decide +kernel
theorem dX9_faultPlace_1 : decode cX9_faultPlace 1 = .ok (.getfield 50, 3) := by decide +kernel
theorem dX9_faultPlace_4 : decode cX9_faultPlace 4 = .ok (.ireturn, 1) := by decide +kernel
theorem dX9_find_0 : decode cX9_find 0 = .ok (.iconst 0, 1) := by decide +kernel
theorem dX9_find_1 : decode cX9_find 1 = .ok (.istore_n 3, 1) := by decide +kernel
theorem dX9_find_2 : decode cX9_find 2 = .ok (.iload_n 3, 1) := by decide +kernel
theorem dX9_find_3 : decode cX9_find 3 = .ok (.aload_n 0, 1) := by decide +kernel
theorem dX9_find_4 : decode cX9_find 4 = .ok (.getfield 77, 3) := by decide +kernel
theorem dX9_find_7 : decode cX9_find 7 = .ok (.if_icmp .ge 22, 3) := by decide +kernel
theorem dX9_find_10 : decode cX9_find 10 = .ok (.aload_n 0, 1) := by decide +kernel
theorem dX9_find_11 : decode cX9_find 11 = .ok (.getfield 18, 3) := by decide +kernel
theorem dX9_find_14 : decode cX9_find 14 = .ok (.iload_n 3, 1) := by decide +kernel
theorem dX9_find_15 : decode cX9_find 15 = .ok (.laload, 1) := by decide +kernel
theorem dX9_find_16 : decode cX9_find 16 = .ok (.lload_n 1, 1) := by decide +kernel
theorem dX9_find_17 : decode cX9_find 17 = .ok (.lcmp, 1) := by decide +kernel
theorem dX9_find_18 : decode cX9_find 18 = .ok (.ifCond .ne 5, 3) := by decide +kernel
theorem dX9_find_21 : decode cX9_find 21 = .ok (.iload_n 3, 1) := by decide +kernel
theorem dX9_find_22 : decode cX9_find 22 = .ok (.ireturn, 1) := by decide +kernel
theorem dX9_find_23 : decode cX9_find 23 = .ok (.iinc 3 1, 3) := by decide +kernel
theorem dX9_find_26 : decode cX9_find 26 = .ok (.goto (-24), 3) := by decide +kernel
theorem dX9_find_29 : decode cX9_find 29 = .ok (.iconst (-1), 1) := by decide +kernel
theorem dX9_find_30 : decode cX9_find 30 = .ok (.ireturn, 1) := by decide +kernel
theorem dX9_forgetLast_0 : decode cX9_forgetLast 0 = .ok (.aload_n 0, 1) := by decide +kernel
theorem dX9_forgetLast_1 : decode cX9_forgetLast 1 = .ok (.dup, 1) := by decide +kernel
theorem dX9_forgetLast_2 : decode cX9_forgetLast 2 = .ok (.getfield 77, 3) := by decide +kernel
theorem dX9_forgetLast_5 : decode cX9_forgetLast 5 = .ok (.iconst 1, 1) := by decide +kernel
theorem dX9_forgetLast_6 : decode cX9_forgetLast 6 = .ok (.isub, 1) := by decide +kernel
theorem dX9_forgetLast_7 : decode cX9_forgetLast 7 = .ok (.putfield 77, 3) := by decide +kernel
theorem dX9_forgetLast_10 : decode cX9_forgetLast 10 = .ok (.return_, 1) := by decide +kernel
theorem dX9_isSort_0 : decode cX9_isSort 0 = .ok (.iload_n 1, 1) := by decide +kernel
theorem dX9_isSort_1 : decode cX9_isSort 1 = .ok (.ifCond .lt 17, 3) := by decide +kernel
theorem dX9_isSort_4 : decode cX9_isSort 4 = .ok (.aload_n 0, 1) := by decide +kernel
theorem dX9_isSort_5 : decode cX9_isSort 5 = .ok (.iload_n 1, 1) := by decide +kernel
theorem dX9_isSort_6 : decode cX9_isSort 6 = .ok (.iconst 0, 1) := by decide +kernel
theorem dX9_isSort_7 : decode cX9_isSort 7 = .ok (.invokevirtual 120, 3) := by decide +kernel
theorem dX9_isSort_10 : decode cX9_isSort 10 = .ok (.iload_n 2, 1) := by decide +kernel
theorem dX9_isSort_11 : decode cX9_isSort 11 = .ok (.if_icmp .ne 7, 3) := by decide +kernel
theorem dX9_isSort_14 : decode cX9_isSort 14 = .ok (.iconst 1, 1) := by decide +kernel
theorem dX9_isSort_15 : decode cX9_isSort 15 = .ok (.goto 4, 3) := by decide +kernel
theorem dX9_isSort_18 : decode cX9_isSort 18 = .ok (.iconst 0, 1) := by decide +kernel
theorem dX9_isSort_19 : decode cX9_isSort 19 = .ok (.ireturn, 1) := by decide +kernel
theorem dX9_learn_0 : decode cX9_learn 0 = .ok (.aload_n 0, 1) := by decide +kernel
theorem dX9_learn_1 : decode cX9_learn 1 = .ok (.aload_n 0, 1) := by decide +kernel
theorem dX9_learn_2 : decode cX9_learn 2 = .ok (.getfield 14, 3) := by decide +kernel
theorem dX9_learn_5 : decode cX9_learn 5 = .ok (.iload_n 1, 1) := by decide +kernel
theorem dX9_learn_6 : decode cX9_learn 6 = .ok (.invokevirtual 124, 3) := by decide +kernel
theorem dX9_learn_9 : decode cX9_learn 9 = .ok (.invokevirtual 128, 3) := by decide +kernel
theorem dX9_learn_12 : decode cX9_learn 12 = .ok (.ifCond .ge 13, 3) := by decide +kernel
theorem dX9_learn_15 : decode cX9_learn 15 = .ok (.aload_n 0, 1) := by decide +kernel
theorem dX9_learn_16 : decode cX9_learn 16 = .ok (.getfield 77, 3) := by decide +kernel
theorem dX9_learn_19 : decode cX9_learn 19 = .ok (.sipush 128, 3) := by decide +kernel
theorem dX9_learn_22 : decode cX9_learn 22 = .ok (.if_icmp .lt 12, 3) := by decide +kernel
theorem dX9_learn_25 : decode cX9_learn 25 = .ok (.aload_n 0, 1) := by decide +kernel
theorem dX9_learn_26 : decode cX9_learn 26 = .ok (.iconst 2, 1) := by decide +kernel
theorem dX9_learn_27 : decode cX9_learn 27 = .ok (.iload_n 1, 1) := by decide +kernel
theorem dX9_learn_28 : decode cX9_learn 28 = .ok (.invokevirtual 132, 3) := by decide +kernel
theorem dX9_learn_31 : decode cX9_learn 31 = .ok (.pop, 1) := by decide +kernel
theorem dX9_learn_32 : decode cX9_learn 32 = .ok (.iconst (-1), 1) := by decide +kernel
theorem dX9_learn_33 : decode cX9_learn 33 = .ok (.ireturn, 1) := by decide +kernel
theorem dX9_learn_34 : decode cX9_learn 34 = .ok (.aload_n 0, 1) := by decide +kernel
theorem dX9_learn_35 : decode cX9_learn 35 = .ok (.getfield 77, 3) := by decide +kernel
theorem dX9_learn_38 : decode cX9_learn 38 = .ok (.istore_n 3, 1) := by decide +kernel
theorem dX9_learn_39 : decode cX9_learn 39 = .ok (.aload_n 0, 1) := by decide +kernel
theorem dX9_learn_40 : decode cX9_learn 40 = .ok (.dup, 1) := by decide +kernel
theorem dX9_learn_41 : decode cX9_learn 41 = .ok (.getfield 77, 3) := by decide +kernel
theorem dX9_learn_44 : decode cX9_learn 44 = .ok (.iconst 1, 1) := by decide +kernel
theorem dX9_learn_45 : decode cX9_learn 45 = .ok (.iadd, 1) := by decide +kernel
theorem dX9_learn_46 : decode cX9_learn 46 = .ok (.putfield 77, 3) := by decide +kernel
theorem dX9_learn_49 : decode cX9_learn 49 = .ok (.aload_n 0, 1) := by decide +kernel
theorem dX9_learn_50 : decode cX9_learn 50 = .ok (.getfield 18, 3) := by decide +kernel
theorem dX9_learn_53 : decode cX9_learn 53 = .ok (.iload_n 3, 1) := by decide +kernel
theorem dX9_learn_54 : decode cX9_learn 54 = .ok (.aload_n 0, 1) := by decide +kernel
theorem dX9_learn_55 : decode cX9_learn 55 = .ok (.getfield 14, 3) := by decide +kernel
theorem dX9_learn_58 : decode cX9_learn 58 = .ok (.iload_n 1, 1) := by decide +kernel
theorem dX9_learn_59 : decode cX9_learn 59 = .ok (.invokevirtual 124, 3) := by decide +kernel
theorem dX9_learn_62 : decode cX9_learn 62 = .ok (.lastore, 1) := by decide +kernel
theorem dX9_learn_63 : decode cX9_learn 63 = .ok (.aload_n 0, 1) := by decide +kernel
theorem dX9_learn_64 : decode cX9_learn 64 = .ok (.iload_n 3, 1) := by decide +kernel
theorem dX9_learn_65 : decode cX9_learn 65 = .ok (.iconst 0, 1) := by decide +kernel
theorem dX9_learn_66 : decode cX9_learn 66 = .ok (.iload_n 2, 1) := by decide +kernel
theorem dX9_learn_67 : decode cX9_learn 67 = .ok (.invokevirtual 136, 3) := by decide +kernel
theorem dX9_learn_70 : decode cX9_learn 70 = .ok (.aload_n 0, 1) := by decide +kernel
theorem dX9_learn_71 : decode cX9_learn 71 = .ok (.iload_n 3, 1) := by decide +kernel
theorem dX9_learn_72 : decode cX9_learn 72 = .ok (.iconst 3, 1) := by decide +kernel
theorem dX9_learn_73 : decode cX9_learn 73 = .ok (.iconst (-1), 1) := by decide +kernel
theorem dX9_learn_74 : decode cX9_learn 74 = .ok (.invokevirtual 136, 3) := by decide +kernel
theorem dX9_learn_77 : decode cX9_learn 77 = .ok (.aload_n 0, 1) := by decide +kernel
theorem dX9_learn_78 : decode cX9_learn 78 = .ok (.iload_n 3, 1) := by decide +kernel
theorem dX9_learn_79 : decode cX9_learn 79 = .ok (.iconst 4, 1) := by decide +kernel
theorem dX9_learn_80 : decode cX9_learn 80 = .ok (.iconst (-1), 1) := by decide +kernel
theorem dX9_learn_81 : decode cX9_learn 81 = .ok (.invokevirtual 136, 3) := by decide +kernel
theorem dX9_learn_84 : decode cX9_learn 84 = .ok (.iload_n 3, 1) := by decide +kernel
theorem dX9_learn_85 : decode cX9_learn 85 = .ok (.ireturn, 1) := by decide +kernel
theorem dX9_number_0 : decode cX9_number 0 = .ok (.aload_n 0, 1) := by decide +kernel
theorem dX9_number_1 : decode cX9_number 1 = .ok (.getfield 14, 3) := by decide +kernel
theorem dX9_number_4 : decode cX9_number 4 = .ok (.iload_n 1, 1) := by decide +kernel
theorem dX9_number_5 : decode cX9_number 5 = .ok (.invokevirtual 124, 3) := by decide +kernel
theorem dX9_number_8 : decode cX9_number 8 = .ok (.l2i, 1) := by decide +kernel
theorem dX9_number_9 : decode cX9_number 9 = .ok (.ireturn, 1) := by decide +kernel
theorem dX9_setFact_0 : decode cX9_setFact 0 = .ok (.aload_n 0, 1) := by decide +kernel
theorem dX9_setFact_1 : decode cX9_setFact 1 = .ok (.getfield 22, 3) := by decide +kernel
theorem dX9_setFact_4 : decode cX9_setFact 4 = .ok (.iload_n 1, 1) := by decide +kernel
theorem dX9_setFact_5 : decode cX9_setFact 5 = .ok (.bipush 6, 2) := by decide +kernel
theorem dX9_setFact_7 : decode cX9_setFact 7 = .ok (.imul, 1) := by decide +kernel
theorem dX9_setFact_8 : decode cX9_setFact 8 = .ok (.iload_n 2, 1) := by decide +kernel
theorem dX9_setFact_9 : decode cX9_setFact 9 = .ok (.iadd, 1) := by decide +kernel
theorem dX9_setFact_10 : decode cX9_setFact 10 = .ok (.iload_n 3, 1) := by decide +kernel
theorem dX9_setFact_11 : decode cX9_setFact 11 = .ok (.iastore, 1) := by decide +kernel
theorem dX9_setFact_12 : decode cX9_setFact 12 = .ok (.return_, 1) := by decide +kernel
theorem dX9_setSize_0 : decode cX9_setSize 0 = .ok (.iload_n 1, 1) := by decide +kernel
theorem dX9_setSize_1 : decode cX9_setSize 1 = .ok (.ifCond .ge 7, 3) := by decide +kernel
theorem dX9_setSize_4 : decode cX9_setSize 4 = .ok (.iconst 1, 1) := by decide +kernel
theorem dX9_setSize_5 : decode cX9_setSize 5 = .ok (.goto 18, 3) := by decide +kernel
theorem dX9_setSize_8 : decode cX9_setSize 8 = .ok (.aload_n 0, 1) := by decide +kernel
theorem dX9_setSize_9 : decode cX9_setSize 9 = .ok (.iload_n 1, 1) := by decide +kernel
theorem dX9_setSize_10 : decode cX9_setSize 10 = .ok (.iconst 2, 1) := by decide +kernel
theorem dX9_setSize_11 : decode cX9_setSize 11 = .ok (.invokevirtual 120, 3) := by decide +kernel
theorem dX9_setSize_14 : decode cX9_setSize 14 = .ok (.aload_n 0, 1) := by decide +kernel
theorem dX9_setSize_15 : decode cX9_setSize 15 = .ok (.iload_n 1, 1) := by decide +kernel
theorem dX9_setSize_16 : decode cX9_setSize 16 = .ok (.iconst 1, 1) := by decide +kernel
theorem dX9_setSize_17 : decode cX9_setSize 17 = .ok (.invokevirtual 120, 3) := by decide +kernel
theorem dX9_setSize_20 : decode cX9_setSize 20 = .ok (.isub, 1) := by decide +kernel
theorem dX9_setSize_21 : decode cX9_setSize 21 = .ok (.iconst 1, 1) := by decide +kernel
theorem dX9_setSize_22 : decode cX9_setSize 22 = .ok (.iadd, 1) := by decide +kernel
theorem dX9_setSize_23 : decode cX9_setSize 23 = .ok (.ireturn, 1) := by decide +kernel
theorem dX9_tellIndexes_0 : decode cX9_tellIndexes 0 = .ok (.aload_n 0, 1) := by decide +kernel
theorem dX9_tellIndexes_1 : decode cX9_tellIndexes 1 = .ok (.getfield 14, 3) := by decide +kernel
theorem dX9_tellIndexes_4 : decode cX9_tellIndexes 4 = .ok (.aload_n 0, 1) := by decide +kernel
theorem dX9_tellIndexes_5 : decode cX9_tellIndexes 5 = .ok (.getfield 89, 3) := by decide +kernel
theorem dX9_tellIndexes_8 : decode cX9_tellIndexes 8 = .ok (.invokevirtual 95, 3) := by decide +kernel
theorem dX9_tellIndexes_11 : decode cX9_tellIndexes 11 = .ok (.bipush 17, 2) := by decide +kernel
theorem dX9_tellIndexes_13 : decode cX9_tellIndexes 13 = .ok (.if_icmp .eq 5, 3) := by decide +kernel
theorem dX9_tellIndexes_16 : decode cX9_tellIndexes 16 = .ok (.iconst 1, 1) := by decide +kernel
theorem dX9_tellIndexes_17 : decode cX9_tellIndexes 17 = .ok (.ireturn, 1) := by decide +kernel
theorem dX9_tellIndexes_18 : decode cX9_tellIndexes 18 = .ok (.iconst 3, 1) := by decide +kernel
theorem dX9_tellIndexes_19 : decode cX9_tellIndexes 19 = .ok (.istore_n 2, 1) := by decide +kernel
theorem dX9_tellIndexes_20 : decode cX9_tellIndexes 20 = .ok (.iload_n 2, 1) := by decide +kernel
theorem dX9_tellIndexes_21 : decode cX9_tellIndexes 21 = .ok (.iconst 4, 1) := by decide +kernel
theorem dX9_tellIndexes_22 : decode cX9_tellIndexes 22 = .ok (.if_icmp .gt 85, 3) := by decide +kernel
theorem dX9_tellIndexes_25 : decode cX9_tellIndexes 25 = .ok (.aload_n 0, 1) := by decide +kernel
theorem dX9_tellIndexes_26 : decode cX9_tellIndexes 26 = .ok (.aload_n 0, 1) := by decide +kernel
theorem dX9_tellIndexes_27 : decode cX9_tellIndexes 27 = .ok (.getfield 14, 3) := by decide +kernel
theorem dX9_tellIndexes_30 : decode cX9_tellIndexes 30 = .ok (.aload_n 0, 1) := by decide +kernel
theorem dX9_tellIndexes_31 : decode cX9_tellIndexes 31 = .ok (.getfield 89, 3) := by decide +kernel
theorem dX9_tellIndexes_34 : decode cX9_tellIndexes 34 = .ok (.iconst 1, 1) := by decide +kernel
theorem dX9_tellIndexes_35 : decode cX9_tellIndexes 35 = .ok (.iadd, 1) := by decide +kernel
theorem dX9_tellIndexes_36 : decode cX9_tellIndexes 36 = .ok (.invokevirtual 124, 3) := by decide +kernel
theorem dX9_tellIndexes_39 : decode cX9_tellIndexes 39 = .ok (.invokevirtual 128, 3) := by decide +kernel
theorem dX9_tellIndexes_42 : decode cX9_tellIndexes 42 = .ok (.istore_n 3, 1) := by decide +kernel
theorem dX9_tellIndexes_43 : decode cX9_tellIndexes 43 = .ok (.aload_n 0, 1) := by decide +kernel
theorem dX9_tellIndexes_44 : decode cX9_tellIndexes 44 = .ok (.iload_n 3, 1) := by decide +kernel
theorem dX9_tellIndexes_45 : decode cX9_tellIndexes 45 = .ok (.bipush 6, 2) := by decide +kernel
theorem dX9_tellIndexes_47 : decode cX9_tellIndexes 47 = .ok (.invokevirtual 146, 3) := by decide +kernel
theorem dX9_tellIndexes_50 : decode cX9_tellIndexes 50 = .ok (.ifCond .ne 15, 3) := by decide +kernel
theorem dX9_tellIndexes_53 : decode cX9_tellIndexes 53 = .ok (.aload_n 0, 1) := by decide +kernel
theorem dX9_tellIndexes_54 : decode cX9_tellIndexes 54 = .ok (.iconst 2, 1) := by decide +kernel
theorem dX9_tellIndexes_55 : decode cX9_tellIndexes 55 = .ok (.aload_n 0, 1) := by decide +kernel
theorem dX9_tellIndexes_56 : decode cX9_tellIndexes 56 = .ok (.getfield 89, 3) := by decide +kernel
theorem dX9_tellIndexes_59 : decode cX9_tellIndexes 59 = .ok (.iconst 1, 1) := by decide +kernel
theorem dX9_tellIndexes_60 : decode cX9_tellIndexes 60 = .ok (.iadd, 1) := by decide +kernel
theorem dX9_tellIndexes_61 : decode cX9_tellIndexes 61 = .ok (.invokevirtual 132, 3) := by decide +kernel
theorem dX9_tellIndexes_64 : decode cX9_tellIndexes 64 = .ok (.ireturn, 1) := by decide +kernel
theorem dX9_tellIndexes_65 : decode cX9_tellIndexes 65 = .ok (.aload_n 0, 1) := by decide +kernel
theorem dX9_tellIndexes_66 : decode cX9_tellIndexes 66 = .ok (.iload_n 1, 1) := by decide +kernel
theorem dX9_tellIndexes_67 : decode cX9_tellIndexes 67 = .ok (.iload_n 2, 1) := by decide +kernel
theorem dX9_tellIndexes_68 : decode cX9_tellIndexes 68 = .ok (.iload_n 3, 1) := by decide +kernel
theorem dX9_tellIndexes_69 : decode cX9_tellIndexes 69 = .ok (.invokevirtual 136, 3) := by decide +kernel
theorem dX9_tellIndexes_72 : decode cX9_tellIndexes 72 = .ok (.aload_n 0, 1) := by decide +kernel
theorem dX9_tellIndexes_73 : decode cX9_tellIndexes 73 = .ok (.dup, 1) := by decide +kernel
theorem dX9_tellIndexes_74 : decode cX9_tellIndexes 74 = .ok (.getfield 89, 3) := by decide +kernel
theorem dX9_tellIndexes_77 : decode cX9_tellIndexes 77 = .ok (.iconst 2, 1) := by decide +kernel
theorem dX9_tellIndexes_78 : decode cX9_tellIndexes 78 = .ok (.iadd, 1) := by decide +kernel
theorem dX9_tellIndexes_79 : decode cX9_tellIndexes 79 = .ok (.putfield 89, 3) := by decide +kernel
theorem dX9_tellIndexes_82 : decode cX9_tellIndexes 82 = .ok (.aload_n 0, 1) := by decide +kernel
theorem dX9_tellIndexes_83 : decode cX9_tellIndexes 83 = .ok (.getfield 14, 3) := by decide +kernel
theorem dX9_tellIndexes_86 : decode cX9_tellIndexes 86 = .ok (.aload_n 0, 1) := by decide +kernel
theorem dX9_tellIndexes_87 : decode cX9_tellIndexes 87 = .ok (.getfield 89, 3) := by decide +kernel
theorem dX9_tellIndexes_90 : decode cX9_tellIndexes 90 = .ok (.invokevirtual 95, 3) := by decide +kernel
theorem dX9_tellIndexes_93 : decode cX9_tellIndexes 93 = .ok (.bipush 16, 2) := by decide +kernel
theorem dX9_tellIndexes_95 : decode cX9_tellIndexes 95 = .ok (.if_icmp .eq 6, 3) := by decide +kernel
theorem dX9_tellIndexes_98 : decode cX9_tellIndexes 98 = .ok (.goto 9, 3) := by decide +kernel
theorem dX9_tellIndexes_101 : decode cX9_tellIndexes 101 = .ok (.iinc 2 1, 3) := by decide +kernel
theorem dX9_tellIndexes_104 : decode cX9_tellIndexes 104 = .ok (.goto (-84), 3) := by decide +kernel
theorem dX9_tellIndexes_107 : decode cX9_tellIndexes 107 = .ok (.aload_n 0, 1) := by decide +kernel
theorem dX9_tellIndexes_108 : decode cX9_tellIndexes 108 = .ok (.dup, 1) := by decide +kernel
theorem dX9_tellIndexes_109 : decode cX9_tellIndexes 109 = .ok (.getfield 89, 3) := by decide +kernel
theorem dX9_tellIndexes_112 : decode cX9_tellIndexes 112 = .ok (.iconst 1, 1) := by decide +kernel
theorem dX9_tellIndexes_113 : decode cX9_tellIndexes 113 = .ok (.iadd, 1) := by decide +kernel
theorem dX9_tellIndexes_114 : decode cX9_tellIndexes 114 = .ok (.putfield 89, 3) := by decide +kernel
theorem dX9_tellIndexes_117 : decode cX9_tellIndexes 117 = .ok (.iconst 1, 1) := by decide +kernel
theorem dX9_tellIndexes_118 : decode cX9_tellIndexes 118 = .ok (.ireturn, 1) := by decide +kernel
theorem dX9_tellSet_0 : decode cX9_tellSet 0 = .ok (.aload_n 0, 1) := by decide +kernel
theorem dX9_tellSet_1 : decode cX9_tellSet 1 = .ok (.getfield 89, 3) := by decide +kernel
theorem dX9_tellSet_4 : decode cX9_tellSet 4 = .ok (.iconst 1, 1) := by decide +kernel
theorem dX9_tellSet_5 : decode cX9_tellSet 5 = .ok (.iadd, 1) := by decide +kernel
theorem dX9_tellSet_6 : decode cX9_tellSet 6 = .ok (.istore_n 1, 1) := by decide +kernel
theorem dX9_tellSet_7 : decode cX9_tellSet 7 = .ok (.aload_n 0, 1) := by decide +kernel
theorem dX9_tellSet_8 : decode cX9_tellSet 8 = .ok (.iload_n 1, 1) := by decide +kernel
theorem dX9_tellSet_9 : decode cX9_tellSet 9 = .ok (.bipush 6, 2) := by decide +kernel
theorem dX9_tellSet_11 : decode cX9_tellSet 11 = .ok (.invokevirtual 140, 3) := by decide +kernel
theorem dX9_tellSet_14 : decode cX9_tellSet 14 = .ok (.istore_n 2, 1) := by decide +kernel
theorem dX9_tellSet_15 : decode cX9_tellSet 15 = .ok (.iload_n 2, 1) := by decide +kernel
theorem dX9_tellSet_16 : decode cX9_tellSet 16 = .ok (.ifCond .ge 5, 3) := by decide +kernel
theorem dX9_tellSet_19 : decode cX9_tellSet 19 = .ok (.iconst 0, 1) := by decide +kernel
theorem dX9_tellSet_20 : decode cX9_tellSet 20 = .ok (.ireturn, 1) := by decide +kernel
theorem dX9_tellSet_21 : decode cX9_tellSet 21 = .ok (.aload_n 0, 1) := by decide +kernel
theorem dX9_tellSet_22 : decode cX9_tellSet 22 = .ok (.aload_n 0, 1) := by decide +kernel
theorem dX9_tellSet_23 : decode cX9_tellSet 23 = .ok (.getfield 89, 3) := by decide +kernel
theorem dX9_tellSet_26 : decode cX9_tellSet 26 = .ok (.iconst 3, 1) := by decide +kernel
theorem dX9_tellSet_27 : decode cX9_tellSet 27 = .ok (.iadd, 1) := by decide +kernel
theorem dX9_tellSet_28 : decode cX9_tellSet 28 = .ok (.invokevirtual 143, 3) := by decide +kernel
theorem dX9_tellSet_31 : decode cX9_tellSet 31 = .ok (.istore_n 3, 1) := by decide +kernel
theorem dX9_tellSet_32 : decode cX9_tellSet 32 = .ok (.aload_n 0, 1) := by decide +kernel
theorem dX9_tellSet_33 : decode cX9_tellSet 33 = .ok (.aload_n 0, 1) := by decide +kernel
theorem dX9_tellSet_34 : decode cX9_tellSet 34 = .ok (.getfield 89, 3) := by decide +kernel
theorem dX9_tellSet_37 : decode cX9_tellSet 37 = .ok (.iconst 5, 1) := by decide +kernel
theorem dX9_tellSet_38 : decode cX9_tellSet 38 = .ok (.iadd, 1) := by decide +kernel
theorem dX9_tellSet_39 : decode cX9_tellSet 39 = .ok (.invokevirtual 143, 3) := by decide +kernel
theorem dX9_tellSet_42 : decode cX9_tellSet 42 = .ok (.istore 4, 2) := by decide +kernel
theorem dX9_tellSet_44 : decode cX9_tellSet 44 = .ok (.iload_n 3, 1) := by decide +kernel
theorem dX9_tellSet_45 : decode cX9_tellSet 45 = .ok (.iload 4, 2) := by decide +kernel
theorem dX9_tellSet_47 : decode cX9_tellSet 47 = .ok (.if_icmp .gt 12, 3) := by decide +kernel
theorem dX9_tellSet_50 : decode cX9_tellSet 50 = .ok (.iload 4, 2) := by decide +kernel
theorem dX9_tellSet_52 : decode cX9_tellSet 52 = .ok (.iload_n 3, 1) := by decide +kernel
theorem dX9_tellSet_53 : decode cX9_tellSet 53 = .ok (.isub, 1) := by decide +kernel
theorem dX9_tellSet_54 : decode cX9_tellSet 54 = .ok (.bipush 12, 2) := by decide +kernel
theorem dX9_tellSet_56 : decode cX9_tellSet 56 = .ok (.if_icmp .lt 10, 3) := by decide +kernel
theorem dX9_tellSet_59 : decode cX9_tellSet 59 = .ok (.aload_n 0, 1) := by decide +kernel
theorem dX9_tellSet_60 : decode cX9_tellSet 60 = .ok (.iconst 3, 1) := by decide +kernel
theorem dX9_tellSet_61 : decode cX9_tellSet 61 = .ok (.iload_n 1, 1) := by decide +kernel
theorem dX9_tellSet_62 : decode cX9_tellSet 62 = .ok (.invokevirtual 132, 3) := by decide +kernel
theorem dX9_tellSet_65 : decode cX9_tellSet 65 = .ok (.ireturn, 1) := by decide +kernel
theorem dX9_tellSet_66 : decode cX9_tellSet 66 = .ok (.aload_n 0, 1) := by decide +kernel
theorem dX9_tellSet_67 : decode cX9_tellSet 67 = .ok (.getfield 80, 3) := by decide +kernel
theorem dX9_tellSet_70 : decode cX9_tellSet 70 = .ok (.bipush 8, 2) := by decide +kernel
theorem dX9_tellSet_72 : decode cX9_tellSet 72 = .ok (.if_icmp .lt 11, 3) := by decide +kernel
theorem dX9_tellSet_75 : decode cX9_tellSet 75 = .ok (.aload_n 0, 1) := by decide +kernel
theorem dX9_tellSet_76 : decode cX9_tellSet 76 = .ok (.bipush 7, 2) := by decide +kernel
theorem dX9_tellSet_78 : decode cX9_tellSet 78 = .ok (.iload_n 1, 1) := by decide +kernel
theorem dX9_tellSet_79 : decode cX9_tellSet 79 = .ok (.invokevirtual 132, 3) := by decide +kernel
theorem dX9_tellSet_82 : decode cX9_tellSet 82 = .ok (.ireturn, 1) := by decide +kernel
theorem dX9_tellSet_83 : decode cX9_tellSet 83 = .ok (.aload_n 0, 1) := by decide +kernel
theorem dX9_tellSet_84 : decode cX9_tellSet 84 = .ok (.dup, 1) := by decide +kernel
theorem dX9_tellSet_85 : decode cX9_tellSet 85 = .ok (.getfield 80, 3) := by decide +kernel
theorem dX9_tellSet_88 : decode cX9_tellSet 88 = .ok (.iconst 1, 1) := by decide +kernel
theorem dX9_tellSet_89 : decode cX9_tellSet 89 = .ok (.iadd, 1) := by decide +kernel
theorem dX9_tellSet_90 : decode cX9_tellSet 90 = .ok (.putfield 80, 3) := by decide +kernel
theorem dX9_tellSet_93 : decode cX9_tellSet 93 = .ok (.aload_n 0, 1) := by decide +kernel
theorem dX9_tellSet_94 : decode cX9_tellSet 94 = .ok (.iload_n 2, 1) := by decide +kernel
theorem dX9_tellSet_95 : decode cX9_tellSet 95 = .ok (.iconst 1, 1) := by decide +kernel
theorem dX9_tellSet_96 : decode cX9_tellSet 96 = .ok (.iload_n 3, 1) := by decide +kernel
theorem dX9_tellSet_97 : decode cX9_tellSet 97 = .ok (.invokevirtual 136, 3) := by decide +kernel
theorem dX9_tellSet_100 : decode cX9_tellSet 100 = .ok (.aload_n 0, 1) := by decide +kernel
theorem dX9_tellSet_101 : decode cX9_tellSet 101 = .ok (.iload_n 2, 1) := by decide +kernel
theorem dX9_tellSet_102 : decode cX9_tellSet 102 = .ok (.iconst 2, 1) := by decide +kernel
theorem dX9_tellSet_103 : decode cX9_tellSet 103 = .ok (.iload 4, 2) := by decide +kernel
theorem dX9_tellSet_105 : decode cX9_tellSet 105 = .ok (.invokevirtual 136, 3) := by decide +kernel
theorem dX9_tellSet_108 : decode cX9_tellSet 108 = .ok (.aload_n 0, 1) := by decide +kernel
theorem dX9_tellSet_109 : decode cX9_tellSet 109 = .ok (.dup, 1) := by decide +kernel
theorem dX9_tellSet_110 : decode cX9_tellSet 110 = .ok (.getfield 89, 3) := by decide +kernel
theorem dX9_tellSet_113 : decode cX9_tellSet 113 = .ok (.bipush 7, 2) := by decide +kernel
theorem dX9_tellSet_115 : decode cX9_tellSet 115 = .ok (.iadd, 1) := by decide +kernel
theorem dX9_tellSet_116 : decode cX9_tellSet 116 = .ok (.putfield 89, 3) := by decide +kernel
theorem dX9_tellSet_119 : decode cX9_tellSet 119 = .ok (.iconst 1, 1) := by decide +kernel
theorem dX9_tellSet_120 : decode cX9_tellSet 120 = .ok (.ireturn, 1) := by decide +kernel
theorem w_16 : Cond.selects RX9 yX9_learn yX9_learn ∈ tb := sel_2 (q := (yX9_learn, 17)) 0 (by decide +kernel)
theorem w_17 : Cond.selects RX9 yX9_find yX9_find ∈ tb := sel_2 (q := (yX9_find, 17)) 1 (by decide +kernel)
theorem w_18 : Cond.selects RX9 yX9_fail yX9_fail ∈ tb := sel_2 (q := (yX9_fail, 17)) 2 (by decide +kernel)
theorem w_19 : Cond.selects RX9 yX9_setFact yX9_setFact ∈ tb := sel_2 (q := (yX9_setFact, 17)) 3 (by decide +kernel)
theorem w_20 : Cond.selects RX9 yX9_number yX9_number ∈ tb := sel_2 (q := (yX9_number, 17)) 4 (by decide +kernel)
theorem w_23 : Cond.selects RX9 yX9_isSort yX9_isSort ∈ tb := sel_2 (q := (yX9_isSort, 17)) 7 (by decide +kernel)
theorem w_24 : Cond.selects RX9 yX9_fact yX9_fact ∈ tb := sel_2 (q := (yX9_fact, 17)) 8 (by decide +kernel)
theorem w_26 : Cond.selects RX9 yX9_setSize yX9_setSize ∈ tb := sel_2 (q := (yX9_setSize, 17)) 10 (by decide +kernel)
theorem w_208 : Cond.initialized RX9 ∈ tb := tbc_1 5 (by decide +kernel) rfl
theorem w_329 : Cond.fieldLink RX9 14 (TX9 0).1 (TX9 0).2.1 (TX9 0).2.2.1 ∈ tb := tbc_1 126 (by decide +kernel) rfl
theorem w_330 : Cond.fieldLink RX9 18 (TX9 1).1 (TX9 1).2.1 (TX9 1).2.2.1 ∈ tb := tbc_1 127 (by decide +kernel) rfl
theorem w_331 : Cond.fieldLink RX9 22 (TX9 2).1 (TX9 2).2.1 (TX9 2).2.2.1 ∈ tb := tbc_1 128 (by decide +kernel) rfl
theorem w_338 : Cond.fieldLink RX9 77 (TX9 9).1 (TX9 9).2.1 (TX9 9).2.2.1 ∈ tb := tbc_1 135 (by decide +kernel) rfl
theorem w_339 : Cond.fieldLink RX9 80 (TX9 10).1 (TX9 10).2.1 (TX9 10).2.2.1 ∈ tb := tbc_1 136 (by decide +kernel) rfl
theorem w_342 : Cond.fieldLink RX9 89 (TX9 13).1 (TX9 13).2.1 (TX9 13).2.2.1 ∈ tb := tbc_1 139 (by decide +kernel) rfl
theorem w_343 : Cond.fieldLink RX9 54 (TX9 14).1 (TX9 14).2.1 (TX9 14).2.2.1 ∈ tb := tbc_1 140 (by decide +kernel) rfl
theorem w_344 : Cond.fieldLink RX9 114 (TX9 15).1 (TX9 15).2.1 (TX9 15).2.2.1 ∈ tb := tbc_1 141 (by decide +kernel) rfl
theorem w_345 : Cond.fieldLink RX9 50 (TX9 16).1 (TX9 16).2.1 (TX9 16).2.2.1 ∈ tb := tbc_1 142 (by decide +kernel) rfl
theorem w_346 : u_lay RX9 TX9 0 ∈ tb := tbc_1 143 (by decide +kernel) rfl
theorem w_348 : u_lay RX9 TX9 1 ∈ tb := tbc_1 145 (by decide +kernel) rfl
theorem w_350 : u_lay RX9 TX9 2 ∈ tb := tbc_1 147 (by decide +kernel) rfl
theorem w_352 : u_lay RX9 TX9 3 ∈ tb := tbc_1 149 (by decide +kernel) rfl
theorem w_354 : u_lay RX9 TX9 4 ∈ tb := tbc_1 151 (by decide +kernel) rfl
theorem w_356 : u_lay RX9 TX9 5 ∈ tb := tbc_1 153 (by decide +kernel) rfl
theorem w_358 : u_lay RX9 TX9 6 ∈ tb := tbc_1 155 (by decide +kernel) rfl
theorem w_360 : u_lay RX9 TX9 7 ∈ tb := tbc_1 157 (by decide +kernel) rfl
theorem w_362 : u_lay RX9 TX9 8 ∈ tb := tbc_1 159 (by decide +kernel) rfl
theorem w_364 : u_lay RX9 TX9 9 ∈ tb := tbc_1 161 (by decide +kernel) rfl
theorem w_366 : u_lay RX9 TX9 10 ∈ tb := tbc_1 163 (by decide +kernel) rfl
theorem w_368 : u_lay RX9 TX9 11 ∈ tb := tbc_1 165 (by decide +kernel) rfl
theorem w_370 : u_lay RX9 TX9 12 ∈ tb := tbc_1 167 (by decide +kernel) rfl
theorem w_372 : u_lay RX9 TX9 13 ∈ tb := tbc_1 169 (by decide +kernel) rfl
theorem w_374 : u_lay RX9 TX9 14 ∈ tb := tbc_1 171 (by decide +kernel) rfl
theorem w_376 : u_lay RX9 TX9 15 ∈ tb := tbc_1 173 (by decide +kernel) rfl
theorem w_378 : u_lay RX9 TX9 16 ∈ tb := tbc_1 175 (by decide +kernel) rfl
theorem w_961 : Cond.methodLink RX9 95 yX8_kind ∈ tb := tbc_4 38 (by decide +kernel) rfl
theorem w_966 : Cond.methodLink RX9 140 yX9_learn ∈ tb := tbc_4 43 (by decide +kernel) rfl
theorem w_968 : Cond.instanceMethod yX9_learn ∈ tb := tbc_4 45 (by decide +kernel) rfl
theorem w_969 : Cond.code yX9_learn cX9_learn 4 (some .int) ∈ tb := tbc_4 46 (by decide +kernel) rfl
theorem w_970 : Cond.methodLink RX9 124 yX8_value ∈ tb := tbc_4 47 (by decide +kernel) rfl
theorem w_971 : Cond.instanceMethod yX8_value ∈ tb := tbc_4 48 (by decide +kernel) rfl
theorem w_972 : Cond.selects RX8 yX8_value yX8_value ∈ tb := tbc_4 49 (by decide +kernel) rfl
theorem w_973 : Cond.code yX8_value cX8_value 2 (some .long) ∈ tb := tbc_4 50 (by decide +kernel) rfl
theorem w_974 : Cond.methodLink RX9 128 yX9_find ∈ tb := tbc_4 51 (by decide +kernel) rfl
theorem w_976 : Cond.instanceMethod yX9_find ∈ tb := tbc_4 53 (by decide +kernel) rfl
theorem w_977 : Cond.code yX9_find cX9_find 4 (some .int) ∈ tb := tbc_4 54 (by decide +kernel) rfl
theorem w_978 : Cond.methodLink RX9 132 yX9_fail ∈ tb := tbc_4 55 (by decide +kernel) rfl
theorem w_980 : Cond.instanceMethod yX9_fail ∈ tb := tbc_4 57 (by decide +kernel) rfl
theorem w_981 : Cond.code yX9_fail cX9_fail 3 (some .boolean) ∈ tb := tbc_4 58 (by decide +kernel) rfl
theorem w_982 : Cond.methodLink RX9 136 yX9_setFact ∈ tb := tbc_4 59 (by decide +kernel) rfl
theorem w_984 : Cond.instanceMethod yX9_setFact ∈ tb := tbc_4 61 (by decide +kernel) rfl
theorem w_985 : Cond.code yX9_setFact cX9_setFact 4 none ∈ tb := tbc_4 62 (by decide +kernel) rfl
theorem w_986 : Cond.methodLink RX9 143 yX9_number ∈ tb := tbc_4 63 (by decide +kernel) rfl
theorem w_988 : Cond.instanceMethod yX9_number ∈ tb := tbc_4 65 (by decide +kernel) rfl
theorem w_989 : Cond.code yX9_number cX9_number 2 (some .int) ∈ tb := tbc_4 66 (by decide +kernel) rfl
theorem w_998 : Cond.methodLink RX9 146 yX9_isSort ∈ tb := tbc_4 75 (by decide +kernel) rfl
theorem w_1000 : Cond.instanceMethod yX9_isSort ∈ tb := tbc_4 77 (by decide +kernel) rfl
theorem w_1001 : Cond.code yX9_isSort cX9_isSort 3 (some .boolean) ∈ tb := tbc_4 78 (by decide +kernel) rfl
theorem w_1002 : Cond.methodLink RX9 120 yX9_fact ∈ tb := tbc_4 79 (by decide +kernel) rfl
theorem w_1004 : Cond.instanceMethod yX9_fact ∈ tb := tbc_4 81 (by decide +kernel) rfl
theorem w_1005 : Cond.code yX9_fact cX9_fact 3 (some .int) ∈ tb := tbc_4 82 (by decide +kernel) rfl
theorem w_1010 : Cond.methodLink RX9 149 yX9_setSize ∈ tb := tbc_4 87 (by decide +kernel) rfl
theorem w_1012 : Cond.instanceMethod yX9_setSize ∈ tb := tbc_4 89 (by decide +kernel) rfl
theorem w_1013 : Cond.code yX9_setSize cX9_setSize 2 (some .int) ∈ tb := tbc_4 90 (by decide +kernel) rfl
theorem inX9 : ∀ w ∈ u_ws RX9 TX9 17, w ∈ tb := by
  show ∀ w ∈ [u_lay RX9 TX9 0, u_lay RX9 TX9 1, u_lay RX9 TX9 2, u_lay RX9 TX9 3, u_lay RX9 TX9 4, u_lay RX9 TX9 5, u_lay RX9 TX9 6, u_lay RX9 TX9 7, u_lay RX9 TX9 8, u_lay RX9 TX9 9, u_lay RX9 TX9 10, u_lay RX9 TX9 11, u_lay RX9 TX9 12, u_lay RX9 TX9 13, u_lay RX9 TX9 14, u_lay RX9 TX9 15, u_lay RX9 TX9 16], w ∈ tb
  exact List.forall_mem_cons.mpr ⟨w_346, List.forall_mem_cons.mpr ⟨w_348, List.forall_mem_cons.mpr ⟨w_350, List.forall_mem_cons.mpr ⟨w_352, List.forall_mem_cons.mpr ⟨w_354, List.forall_mem_cons.mpr ⟨w_356, List.forall_mem_cons.mpr ⟨w_358, List.forall_mem_cons.mpr ⟨w_360, List.forall_mem_cons.mpr ⟨w_362, List.forall_mem_cons.mpr ⟨w_364, List.forall_mem_cons.mpr ⟨w_366, List.forall_mem_cons.mpr ⟨w_368, List.forall_mem_cons.mpr ⟨w_370, List.forall_mem_cons.mpr ⟨w_372, List.forall_mem_cons.mpr ⟨w_374, List.forall_mem_cons.mpr ⟨w_376, List.forall_mem_cons.mpr ⟨w_378, fun _ h => absurd h List.not_mem_nil⟩⟩⟩⟩⟩⟩⟩⟩⟩⟩⟩⟩⟩⟩⟩⟩⟩
section RW37
variable {p : Program} {l : Launch} {e : Env} {R : Room} {s : State} {m : MethodId} {args : Array Value} {below : List Frame} {meth : Method} {c : Code} {H : Heap} {locs : List Loc} {cells slots : Nat} {Q : State → Prop}
variable {cc : ByteArray} {pc nL : Nat} {ls : Array Slot} {rest st0 : List Value} {G : sG} {n : Nat} {S : sS}
theorem g_X9_50 (Cx : sC G p m c cc nL s args RX9) (hW : sW G n S H) {k : Nat} (hk : k < n) (ht : tau k = .inl 9) {v : Int} (hv : S.1 k 16 = v) (hdg : decode cc pc = .ok (.getfield 50, 3)) (kk : W p l e R s m args below meth c H locs cells slots Q (F0 m (pc + 3) ls (.int (iv v) :: rest))) : W p l e R s m args below meth c H locs cells slots Q (F0 m pc ls (.ref (G.2.2.1 + k) :: rest)) :=
  sGet Cx inX9 rfl 16 (by decide) w_345 hW hk ht (congrArg (fun z => Value.int (iv z)) hv) hdg kk
theorem p_X9_54 (Cx : sC G p m c cc nL s args RX9) (hW : sW G n S H) (hL : sL G locs) {k : Nat} (hk : k < n) (ht : tau k = .inl 9) {v : Int} (hdg : decode cc pc = .ok (.putfield 54, 3)) (kk : ∀ (H1 : Heap) (locs1 : List Loc), sW G n (uF S k 14 v) H1 → sL G locs1 → W p l e R s m args below meth c H1 locs1 cells slots Q (F0 m (pc + 3) ls rest)) : W p l e R s m args below meth c H locs cells slots Q (F0 m pc ls (.int (iv v) :: .ref (G.2.2.1 + k) :: rest)) :=
  sPut Cx inX9 tyX9 tyX9_ok nmX9 rfl 14 (by decide) w_343 rfl hW hL hk ht rfl rfl (fun _ h => uF_same h) (fun _ h => uF_off h) (congrArg (fun z => Value.int (iv z)) uF_on) hdg kk
theorem p_X9_114 (Cx : sC G p m c cc nL s args RX9) (hW : sW G n S H) (hL : sL G locs) {k : Nat} (hk : k < n) (ht : tau k = .inl 9) {v : Int} (hdg : decode cc pc = .ok (.putfield 114, 3)) (kk : ∀ (H1 : Heap) (locs1 : List Loc), sW G n (uF S k 15 v) H1 → sL G locs1 → W p l e R s m args below meth c H1 locs1 cells slots Q (F0 m (pc + 3) ls rest)) : W p l e R s m args below meth c H locs cells slots Q (F0 m pc ls (.int (iv v) :: .ref (G.2.2.1 + k) :: rest)) :=
  sPut Cx inX9 tyX9 tyX9_ok nmX9 rfl 15 (by decide) w_344 rfl hW hL hk ht rfl rfl (fun _ h => uF_same h) (fun _ h => uF_off h) (congrArg (fun z => Value.int (iv z)) uF_on) hdg kk
theorem g_X9_77 (Cx : sC G p m c cc nL s args RX9) (hW : sW G n S H) {k : Nat} (hk : k < n) (ht : tau k = .inl 9) {v : Int} (hv : S.1 k 9 = v) (hdg : decode cc pc = .ok (.getfield 77, 3)) (kk : W p l e R s m args below meth c H locs cells slots Q (F0 m (pc + 3) ls (.int (iv v) :: rest))) : W p l e R s m args below meth c H locs cells slots Q (F0 m pc ls (.ref (G.2.2.1 + k) :: rest)) :=
  sGet Cx inX9 rfl 9 (by decide) w_338 hW hk ht (congrArg (fun z => Value.int (iv z)) hv) hdg kk
theorem g_X9_18 (Cx : sC G p m c cc nL s args RX9) (hW : sW G n S H) {k : Nat} (hk : k < n) (ht : tau k = .inl 9) {v : Value} (hv : S.2.2.2 k 1 = v) (hdg : decode cc pc = .ok (.getfield 18, 3)) (kk : W p l e R s m args below meth c H locs cells slots Q (F0 m (pc + 3) ls (v :: rest))) : W p l e R s m args below meth c H locs cells slots Q (F0 m pc ls (.ref (G.2.2.1 + k) :: rest)) :=
  sGet Cx inX9 rfl 1 (by decide) w_330 hW hk ht hv hdg kk
theorem g_X9_22 (Cx : sC G p m c cc nL s args RX9) (hW : sW G n S H) {k : Nat} (hk : k < n) (ht : tau k = .inl 9) {v : Value} (hv : S.2.2.2 k 2 = v) (hdg : decode cc pc = .ok (.getfield 22, 3)) (kk : W p l e R s m args below meth c H locs cells slots Q (F0 m (pc + 3) ls (v :: rest))) : W p l e R s m args below meth c H locs cells slots Q (F0 m pc ls (.ref (G.2.2.1 + k) :: rest)) :=
  sGet Cx inX9 rfl 2 (by decide) w_331 hW hk ht hv hdg kk
theorem c_X9_120 (Cx : sC G p m c cc nL s args RX9) {rm : Room} {mc ms : Nat} (h1 : rm.cells = mc) (h2 : rm.slots = ms) (h3 : rm.frames + 1 ≤ R.frames ∧ 8 + (3 + 11) + rm.locals ≤ R.locals) : CallW R s args RX9 RX9 120 yX9_fact cX9_fact 3 (some .int) (.code yX9_fact cX9_fact 3 (some .int) :: tb) rm mc ms 2 :=
  sCw Cx 2 w_1002 w_1004 w_24 w_208 w_1005 (by decide +kernel) h1 h2 h3
theorem p_X9_77 (Cx : sC G p m c cc nL s args RX9) (hW : sW G n S H) (hL : sL G locs) {k : Nat} (hk : k < n) (ht : tau k = .inl 9) {v : Int} (hdg : decode cc pc = .ok (.putfield 77, 3)) (kk : ∀ (H1 : Heap) (locs1 : List Loc), sW G n (uF S k 9 v) H1 → sL G locs1 → W p l e R s m args below meth c H1 locs1 cells slots Q (F0 m (pc + 3) ls rest)) : W p l e R s m args below meth c H locs cells slots Q (F0 m pc ls (.int (iv v) :: .ref (G.2.2.1 + k) :: rest)) :=
  sPut Cx inX9 tyX9 tyX9_ok nmX9 rfl 9 (by decide) w_338 rfl hW hL hk ht rfl rfl (fun _ h => uF_same h) (fun _ h => uF_off h) (congrArg (fun z => Value.int (iv z)) uF_on) hdg kk
theorem g_X9_14 (Cx : sC G p m c cc nL s args RX9) (hW : sW G n S H) {k : Nat} (hk : k < n) (ht : tau k = .inl 9) {v : Value} (hv : S.2.2.2 k 0 = v) (hdg : decode cc pc = .ok (.getfield 14, 3)) (kk : W p l e R s m args below meth c H locs cells slots Q (F0 m (pc + 3) ls (v :: rest))) : W p l e R s m args below meth c H locs cells slots Q (F0 m pc ls (.ref (G.2.2.1 + k) :: rest)) :=
  sGet Cx inX9 rfl 0 (by decide) w_329 hW hk ht hv hdg kk
theorem c_X9_124 (Cx : sC G p m c cc nL s args RX9) {rm : Room} {mc ms : Nat} (h1 : rm.cells = mc) (h2 : rm.slots = ms) (h3 : rm.frames + 1 ≤ R.frames ∧ 8 + (2 + 11) + rm.locals ≤ R.locals) : CallW R s args RX9 RX8 124 yX8_value cX8_value 2 (some .long) (.code yX8_value cX8_value 2 (some .long) :: tb) rm mc ms 1 :=
  sCw Cx 1 w_970 w_971 w_972 w_209 w_973 (by decide +kernel) h1 h2 h3
theorem c_X9_128 (Cx : sC G p m c cc nL s args RX9) {rm : Room} {mc ms : Nat} (h1 : rm.cells = mc) (h2 : rm.slots = ms) (h3 : rm.frames + 1 ≤ R.frames ∧ 8 + (4 + 11) + rm.locals ≤ R.locals) : CallW R s args RX9 RX9 128 yX9_find cX9_find 4 (some .int) (.code yX9_find cX9_find 4 (some .int) :: tb) rm mc ms 1 :=
  sCw Cx 1 w_974 w_976 w_17 w_208 w_977 (by decide +kernel) h1 h2 h3
theorem c_X9_132 (Cx : sC G p m c cc nL s args RX9) {rm : Room} {mc ms : Nat} (h1 : rm.cells = mc) (h2 : rm.slots = ms) (h3 : rm.frames + 1 ≤ R.frames ∧ 8 + (3 + 11) + rm.locals ≤ R.locals) : CallW R s args RX9 RX9 132 yX9_fail cX9_fail 3 (some .boolean) (.code yX9_fail cX9_fail 3 (some .boolean) :: tb) rm mc ms 2 :=
  sCw Cx 2 w_978 w_980 w_18 w_208 w_981 (by decide +kernel) h1 h2 h3
theorem c_X9_136 (Cx : sC G p m c cc nL s args RX9) {rm : Room} {mc ms : Nat} (h1 : rm.cells = mc) (h2 : rm.slots = ms) (h3 : rm.frames + 1 ≤ R.frames ∧ 8 + (4 + 11) + rm.locals ≤ R.locals) : CallW R s args RX9 RX9 136 yX9_setFact cX9_setFact 4 none (.code yX9_setFact cX9_setFact 4 none :: tb) rm mc ms 3 :=
  sCw Cx 3 w_982 w_984 w_19 w_208 w_985 (by decide +kernel) h1 h2 h3
theorem c_X9_149 (Cx : sC G p m c cc nL s args RX9) {rm : Room} {mc ms : Nat} (h1 : rm.cells = mc) (h2 : rm.slots = ms) (h3 : rm.frames + 1 ≤ R.frames ∧ 8 + (2 + 11) + rm.locals ≤ R.locals) : CallW R s args RX9 RX9 149 yX9_setSize cX9_setSize 2 (some .int) (.code yX9_setSize cX9_setSize 2 (some .int) :: tb) rm mc ms 1 :=
  sCw Cx 1 w_1010 w_1012 w_26 w_208 w_1013 (by decide +kernel) h1 h2 h3
theorem g_X9_89 (Cx : sC G p m c cc nL s args RX9) (hW : sW G n S H) {k : Nat} (hk : k < n) (ht : tau k = .inl 9) {v : Int} (hv : S.1 k 13 = v) (hdg : decode cc pc = .ok (.getfield 89, 3)) (kk : W p l e R s m args below meth c H locs cells slots Q (F0 m (pc + 3) ls (.int (iv v) :: rest))) : W p l e R s m args below meth c H locs cells slots Q (F0 m pc ls (.ref (G.2.2.1 + k) :: rest)) :=
  sGet Cx inX9 rfl 13 (by decide) w_342 hW hk ht (congrArg (fun z => Value.int (iv z)) hv) hdg kk
theorem c_X9_95 (Cx : sC G p m c cc nL s args RX9) {rm : Room} {mc ms : Nat} (h1 : rm.cells = mc) (h2 : rm.slots = ms) (h3 : rm.frames + 1 ≤ R.frames ∧ 8 + (2 + 11) + rm.locals ≤ R.locals) : CallW R s args RX9 RX8 95 yX8_kind cX8_kind 2 (some .int) (.code yX8_kind cX8_kind 2 (some .int) :: tb) rm mc ms 1 :=
  sCw Cx 1 w_961 w_906 w_907 w_209 w_908 (by decide +kernel) h1 h2 h3
theorem p_X9_89 (Cx : sC G p m c cc nL s args RX9) (hW : sW G n S H) (hL : sL G locs) {k : Nat} (hk : k < n) (ht : tau k = .inl 9) {v : Int} (hdg : decode cc pc = .ok (.putfield 89, 3)) (kk : ∀ (H1 : Heap) (locs1 : List Loc), sW G n (uF S k 13 v) H1 → sL G locs1 → W p l e R s m args below meth c H1 locs1 cells slots Q (F0 m (pc + 3) ls rest)) : W p l e R s m args below meth c H locs cells slots Q (F0 m pc ls (.int (iv v) :: .ref (G.2.2.1 + k) :: rest)) :=
  sPut Cx inX9 tyX9 tyX9_ok nmX9 rfl 13 (by decide) w_342 rfl hW hL hk ht rfl rfl (fun _ h => uF_same h) (fun _ h => uF_off h) (congrArg (fun z => Value.int (iv z)) uF_on) hdg kk
theorem c_X9_146 (Cx : sC G p m c cc nL s args RX9) {rm : Room} {mc ms : Nat} (h1 : rm.cells = mc) (h2 : rm.slots = ms) (h3 : rm.frames + 1 ≤ R.frames ∧ 8 + (3 + 11) + rm.locals ≤ R.locals) : CallW R s args RX9 RX9 146 yX9_isSort cX9_isSort 3 (some .boolean) (.code yX9_isSort cX9_isSort 3 (some .boolean) :: tb) rm mc ms 2 :=
  sCw Cx 2 w_998 w_1000 w_23 w_208 w_1001 (by decide +kernel) h1 h2 h3
theorem c_X9_140 (Cx : sC G p m c cc nL s args RX9) {rm : Room} {mc ms : Nat} (h1 : rm.cells = mc) (h2 : rm.slots = ms) (h3 : rm.frames + 1 ≤ R.frames ∧ 8 + (4 + 11) + rm.locals ≤ R.locals) : CallW R s args RX9 RX9 140 yX9_learn cX9_learn 4 (some .int) (.code yX9_learn cX9_learn 4 (some .int) :: tb) rm mc ms 2 :=
  sCw Cx 2 w_966 w_968 w_16 w_208 w_969 (by decide +kernel) h1 h2 h3
theorem c_X9_143 (Cx : sC G p m c cc nL s args RX9) {rm : Room} {mc ms : Nat} (h1 : rm.cells = mc) (h2 : rm.slots = ms) (h3 : rm.frames + 1 ≤ R.frames ∧ 8 + (2 + 11) + rm.locals ≤ R.locals) : CallW R s args RX9 RX9 143 yX9_number cX9_number 2 (some .int) (.code yX9_number cX9_number 2 (some .int) :: tb) rm mc ms 1 :=
  sCw Cx 1 w_986 w_988 w_20 w_208 w_989 (by decide +kernel) h1 h2 h3
theorem g_X9_80 (Cx : sC G p m c cc nL s args RX9) (hW : sW G n S H) {k : Nat} (hk : k < n) (ht : tau k = .inl 9) {v : Int} (hv : S.1 k 10 = v) (hdg : decode cc pc = .ok (.getfield 80, 3)) (kk : W p l e R s m args below meth c H locs cells slots Q (F0 m (pc + 3) ls (.int (iv v) :: rest))) : W p l e R s m args below meth c H locs cells slots Q (F0 m pc ls (.ref (G.2.2.1 + k) :: rest)) :=
  sGet Cx inX9 rfl 10 (by decide) w_339 hW hk ht (congrArg (fun z => Value.int (iv z)) hv) hdg kk
theorem p_X9_80 (Cx : sC G p m c cc nL s args RX9) (hW : sW G n S H) (hL : sL G locs) {k : Nat} (hk : k < n) (ht : tau k = .inl 9) {v : Int} (hdg : decode cc pc = .ok (.putfield 80, 3)) (kk : ∀ (H1 : Heap) (locs1 : List Loc), sW G n (uF S k 10 v) H1 → sL G locs1 → W p l e R s m args below meth c H1 locs1 cells slots Q (F0 m (pc + 3) ls rest)) : W p l e R s m args below meth c H locs cells slots Q (F0 m pc ls (.int (iv v) :: .ref (G.2.2.1 + k) :: rest)) :=
  sPut Cx inX9 tyX9 tyX9_ok nmX9 rfl 10 (by decide) w_339 rfl hW hL hk ht rfl rfl (fun _ h => uF_same h) (fun _ h => uF_off h) (congrArg (fun z => Value.int (iv z)) uF_on) hdg kk
end RW37
