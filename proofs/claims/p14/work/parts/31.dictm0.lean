theorem dX2_addHelper_0 : decode cX2_addHelper 0 = .ok (.aload_n 0, 1) := by decide +kernel
theorem dX2_addHelper_1 : decode cX2_addHelper 1 = .ok (.iconst 1, 1) := by decide +kernel
theorem dX2_addHelper_2 : decode cX2_addHelper 2 = .ok (.putfield 70, 3) := by decide +kernel
theorem dX2_addHelper_5 : decode cX2_addHelper 5 = .ok (.aload_n 0, 1) := by decide +kernel
theorem dX2_addHelper_6 : decode cX2_addHelper 6 = .ok (.dup, 1) := by decide +kernel
theorem dX2_addHelper_7 : decode cX2_addHelper 7 = .ok (.getfield 67, 3) := by decide +kernel
theorem dX2_addHelper_10 : decode cX2_addHelper 10 = .ok (.iconst 1, 1) := by decide +kernel
theorem dX2_addHelper_11 : decode cX2_addHelper 11 = .ok (.iadd, 1) := by decide +kernel
theorem dX2_addHelper_12 : decode cX2_addHelper 12 = .ok (.putfield 67, 3) := by decide +kernel
theorem dX2_addHelper_15 : decode cX2_addHelper 15 = .ok (.aload_n 0, 1) := by decide +kernel
theorem dX2_addHelper_16 : decode cX2_addHelper 16 = .ok (.getfield 23, 3) := by decide +kernel
theorem dX2_addHelper_19 : decode cX2_addHelper 19 = .ok (.aload_n 0, 1) := by decide +kernel
theorem dX2_addHelper_20 : decode cX2_addHelper 20 = .ok (.getfield 67, 3) := by decide +kernel
theorem dX2_addHelper_23 : decode cX2_addHelper 23 = .ok (.iconst 0, 1) := by decide +kernel
theorem dX2_addHelper_24 : decode cX2_addHelper 24 = .ok (.iastore, 1) := by decide +kernel
theorem dX2_addHelper_25 : decode cX2_addHelper 25 = .ok (.iconst 0, 1) := by decide +kernel
theorem dX2_addHelper_26 : decode cX2_addHelper 26 = .ok (.istore_n 1, 1) := by decide +kernel
theorem dX2_addHelper_27 : decode cX2_addHelper 27 = .ok (.iload_n 1, 1) := by decide +kernel
theorem dX2_addHelper_28 : decode cX2_addHelper 28 = .ok (.aload_n 0, 1) := by decide +kernel
theorem dX2_addHelper_29 : decode cX2_addHelper 29 = .ok (.getfield 67, 3) := by decide +kernel
theorem dX2_addHelper_32 : decode cX2_addHelper 32 = .ok (.if_icmp .ge 22, 3) := by decide +kernel
theorem dX2_addHelper_35 : decode cX2_addHelper 35 = .ok (.aload_n 0, 1) := by decide +kernel
theorem dX2_addHelper_36 : decode cX2_addHelper 36 = .ok (.getfield 13, 3) := by decide +kernel
theorem dX2_addHelper_39 : decode cX2_addHelper 39 = .ok (.iconst (-1), 1) := by decide +kernel
theorem dX2_addHelper_40 : decode cX2_addHelper 40 = .ok (.iload_n 1, 1) := by decide +kernel
theorem dX2_addHelper_41 : decode cX2_addHelper 41 = .ok (.invokestatic 77, 3) := by decide +kernel
theorem dX2_addHelper_44 : decode cX2_addHelper 44 = .ok (.lconst 0, 1) := by decide +kernel
theorem dX2_addHelper_45 : decode cX2_addHelper 45 = .ok (.invokestatic 81, 3) := by decide +kernel
theorem dX2_addHelper_48 : decode cX2_addHelper 48 = .ok (.iinc 1 1, 3) := by decide +kernel
theorem dX2_addHelper_51 : decode cX2_addHelper 51 = .ok (.goto (-24), 3) := by decide +kernel
theorem dX2_addHelper_54 : decode cX2_addHelper 54 = .ok (.aload_n 0, 1) := by decide +kernel
theorem dX2_addHelper_55 : decode cX2_addHelper 55 = .ok (.getfield 13, 3) := by decide +kernel
theorem dX2_addHelper_58 : decode cX2_addHelper 58 = .ok (.iconst (-1), 1) := by decide +kernel
theorem dX2_addHelper_59 : decode cX2_addHelper 59 = .ok (.aload_n 0, 1) := by decide +kernel
theorem dX2_addHelper_60 : decode cX2_addHelper 60 = .ok (.getfield 67, 3) := by decide +kernel
theorem dX2_addHelper_63 : decode cX2_addHelper 63 = .ok (.invokestatic 77, 3) := by decide +kernel
theorem dX2_addHelper_66 : decode cX2_addHelper 66 = .ok (.lconst 1, 1) := by decide +kernel
theorem dX2_addHelper_67 : decode cX2_addHelper 67 = .ok (.invokestatic 81, 3) := by decide +kernel
theorem dX2_addHelper_70 : decode cX2_addHelper 70 = .ok (.aload_n 0, 1) := by decide +kernel
theorem dX2_addHelper_71 : decode cX2_addHelper 71 = .ok (.getfield 13, 3) := by decide +kernel
theorem dX2_addHelper_74 : decode cX2_addHelper 74 = .ok (.iconst 0, 1) := by decide +kernel
theorem dX2_addHelper_75 : decode cX2_addHelper 75 = .ok (.aload_n 0, 1) := by decide +kernel
theorem dX2_addHelper_76 : decode cX2_addHelper 76 = .ok (.getfield 67, 3) := by decide +kernel
theorem dX2_addHelper_79 : decode cX2_addHelper 79 = .ok (.invokestatic 77, 3) := by decide +kernel
theorem dX2_addHelper_82 : decode cX2_addHelper 82 = .ok (.lconst 0, 1) := by decide +kernel
theorem dX2_addHelper_83 : decode cX2_addHelper 83 = .ok (.invokestatic 81, 3) := by decide +kernel
theorem dX2_addHelper_86 : decode cX2_addHelper 86 = .ok (.iconst 1, 1) := by decide +kernel
theorem dX2_addHelper_87 : decode cX2_addHelper 87 = .ok (.istore_n 1, 1) := by decide +kernel
theorem dX2_addHelper_88 : decode cX2_addHelper 88 = .ok (.iload_n 1, 1) := by decide +kernel
theorem dX2_addHelper_89 : decode cX2_addHelper 89 = .ok (.aload_n 0, 1) := by decide +kernel
theorem dX2_addHelper_90 : decode cX2_addHelper 90 = .ok (.getfield 66, 3) := by decide +kernel
theorem dX2_addHelper_93 : decode cX2_addHelper 93 = .ok (.if_icmp .gt 27, 3) := by decide +kernel
theorem dX2_addHelper_96 : decode cX2_addHelper 96 = .ok (.aload_n 0, 1) := by decide +kernel
theorem dX2_addHelper_97 : decode cX2_addHelper 97 = .ok (.getfield 13, 3) := by decide +kernel
theorem dX2_addHelper_100 : decode cX2_addHelper 100 = .ok (.iload_n 1, 1) := by decide +kernel
theorem dX2_addHelper_101 : decode cX2_addHelper 101 = .ok (.aload_n 0, 1) := by decide +kernel
theorem dX2_addHelper_102 : decode cX2_addHelper 102 = .ok (.getfield 67, 3) := by decide +kernel
theorem dX2_addHelper_105 : decode cX2_addHelper 105 = .ok (.invokestatic 77, 3) := by decide +kernel
theorem dX2_addHelper_108 : decode cX2_addHelper 108 = .ok (.ldc2_w 98, 3) := by decide +kernel
theorem dX2_addHelper_111 : decode cX2_addHelper 111 = .ok (.invokestatic 81, 3) := by decide +kernel
theorem dX2_addHelper_114 : decode cX2_addHelper 114 = .ok (.iinc 1 1, 3) := by decide +kernel
theorem dX2_addHelper_117 : decode cX2_addHelper 117 = .ok (.goto (-29), 3) := by decide +kernel
theorem dX2_addHelper_120 : decode cX2_addHelper 120 = .ok (.return_, 1) := by decide +kernel
theorem dX2_addRow_0 : decode cX2_addRow 0 = .ok (.aload_n 0, 1) := by decide +kernel
theorem dX2_addRow_1 : decode cX2_addRow 1 = .ok (.dup, 1) := by decide +kernel
theorem dX2_addRow_2 : decode cX2_addRow 2 = .ok (.getfield 66, 3) := by decide +kernel
theorem dX2_addRow_5 : decode cX2_addRow 5 = .ok (.iconst 1, 1) := by decide +kernel
theorem dX2_addRow_6 : decode cX2_addRow 6 = .ok (.iadd, 1) := by decide +kernel
theorem dX2_addRow_7 : decode cX2_addRow 7 = .ok (.putfield 66, 3) := by decide +kernel
theorem dX2_addRow_10 : decode cX2_addRow 10 = .ok (.aload_n 0, 1) := by decide +kernel
theorem dX2_addRow_11 : decode cX2_addRow 11 = .ok (.getfield 20, 3) := by decide +kernel
theorem dX2_addRow_14 : decode cX2_addRow 14 = .ok (.aload_n 0, 1) := by decide +kernel
theorem dX2_addRow_15 : decode cX2_addRow 15 = .ok (.getfield 66, 3) := by decide +kernel
theorem dX2_addRow_18 : decode cX2_addRow 18 = .ok (.aload_n 0, 1) := by decide +kernel
theorem dX2_addRow_19 : decode cX2_addRow 19 = .ok (.getfield 62, 3) := by decide +kernel
theorem dX2_addRow_22 : decode cX2_addRow 22 = .ok (.aload_n 0, 1) := by decide +kernel
theorem dX2_addRow_23 : decode cX2_addRow 23 = .ok (.getfield 66, 3) := by decide +kernel
theorem dX2_addRow_26 : decode cX2_addRow 26 = .ok (.iadd, 1) := by decide +kernel
theorem dX2_addRow_27 : decode cX2_addRow 27 = .ok (.iastore, 1) := by decide +kernel
theorem dX2_addRow_28 : decode cX2_addRow 28 = .ok (.return_, 1) := by decide +kernel
theorem dX2_at_0 : decode cX2_at 0 = .ok (.iload_n 0, 1) := by decide +kernel
theorem dX2_at_1 : decode cX2_at 1 = .ok (.iconst 2, 1) := by decide +kernel
theorem dX2_at_2 : decode cX2_at 2 = .ok (.iadd, 1) := by decide +kernel
theorem dX2_at_3 : decode cX2_at 3 = .ok (.bipush 112, 2) := by decide +kernel
theorem dX2_at_5 : decode cX2_at 5 = .ok (.imul, 1) := by decide +kernel
theorem dX2_at_6 : decode cX2_at 6 = .ok (.iload_n 1, 1) := by decide +kernel
theorem dX2_at_7 : decode cX2_at 7 = .ok (.bipush 8, 2) := by decide +kernel
theorem dX2_at_9 : decode cX2_at 9 = .ok (.imul, 1) := by decide +kernel
theorem dX2_at_10 : decode cX2_at 10 = .ok (.iadd, 1) := by decide +kernel
theorem dX2_at_11 : decode cX2_at 11 = .ok (.ireturn, 1) := by decide +kernel
theorem dX2_denominator_0 : decode cX2_denominator 0 = .ok (.aload_n 1, 1) := by decide +kernel
theorem dX2_denominator_1 : decode cX2_denominator 1 = .ok (.aload_n 0, 1) := by decide +kernel
theorem dX2_denominator_2 : decode cX2_denominator 2 = .ok (.getfield 13, 3) := by decide +kernel
theorem dX2_denominator_5 : decode cX2_denominator 5 = .ok (.bipush (-2), 2) := by decide +kernel
theorem dX2_denominator_7 : decode cX2_denominator 7 = .ok (.iconst 0, 1) := by decide +kernel
theorem dX2_denominator_8 : decode cX2_denominator 8 = .ok (.invokestatic 77, 3) := by decide +kernel
theorem dX2_denominator_11 : decode cX2_denominator 11 = .ok (.invokevirtual 106, 3) := by decide +kernel
theorem dX2_denominator_14 : decode cX2_denominator 14 = .ok (.return_, 1) := by decide +kernel
theorem dX2_hasHelper_0 : decode cX2_hasHelper 0 = .ok (.aload_n 0, 1) := by decide +kernel
theorem dX2_hasHelper_1 : decode cX2_hasHelper 1 = .ok (.getfield 70, 3) := by decide +kernel
theorem dX2_hasHelper_4 : decode cX2_hasHelper 4 = .ok (.ireturn, 1) := by decide +kernel
theorem dX2_hasKept_0 : decode cX2_hasKept 0 = .ok (.aload_n 0, 1) := by decide +kernel
theorem dX2_hasKept_1 : decode cX2_hasKept 1 = .ok (.getfield 74, 3) := by decide +kernel
theorem dX2_hasKept_4 : decode cX2_hasKept 4 = .ok (.ifCond .le 7, 3) := by decide +kernel
theorem dX2_hasKept_7 : decode cX2_hasKept 7 = .ok (.iconst 1, 1) := by decide +kernel
theorem dX2_hasKept_8 : decode cX2_hasKept 8 = .ok (.goto 4, 3) := by decide +kernel
theorem dX2_hasKept_11 : decode cX2_hasKept 11 = .ok (.iconst 0, 1) := by decide +kernel
theorem dX2_hasKept_12 : decode cX2_hasKept 12 = .ok (.ireturn, 1) := by decide +kernel
theorem dX2_helperIsBasic_0 : decode cX2_helperIsBasic 0 = .ok (.aload_n 0, 1) := by decide +kernel
theorem dX2_helperIsBasic_1 : decode cX2_helperIsBasic 1 = .ok (.iconst 0, 1) := by decide +kernel
theorem dX2_helperIsBasic_2 : decode cX2_helperIsBasic 2 = .ok (.invokevirtual 128, 3) := by decide +kernel
theorem dX2_helperIsBasic_5 : decode cX2_helperIsBasic 5 = .ok (.ifCond .le 7, 3) := by decide +kernel
theorem dX2_helperIsBasic_8 : decode cX2_helperIsBasic 8 = .ok (.iconst 1, 1) := by decide +kernel
theorem dX2_helperIsBasic_9 : decode cX2_helperIsBasic 9 = .ok (.goto 4, 3) := by decide +kernel
theorem dX2_helperIsBasic_12 : decode cX2_helperIsBasic 12 = .ok (.iconst 0, 1) := by decide +kernel
theorem dX2_helperIsBasic_13 : decode cX2_helperIsBasic 13 = .ok (.ireturn, 1) := by decide +kernel
theorem dX2_multiplier_0 : decode cX2_multiplier 0 = .ok (.aload_n 0, 1) := by decide +kernel
theorem dX2_multiplier_1 : decode cX2_multiplier 1 = .ok (.iload_n 2, 1) := by decide +kernel
theorem dX2_multiplier_2 : decode cX2_multiplier 2 = .ok (.invokevirtual 118, 3) := by decide +kernel
theorem dX2_multiplier_5 : decode cX2_multiplier 5 = .ok (.istore 4, 2) := by decide +kernel
theorem dX2_multiplier_7 : decode cX2_multiplier 7 = .ok (.iload 4, 2) := by decide +kernel
theorem dX2_multiplier_9 : decode cX2_multiplier 9 = .ok (.ifCond .le 20, 3) := by decide +kernel
theorem dX2_multiplier_12 : decode cX2_multiplier 12 = .ok (.aload_n 3, 1) := by decide +kernel
theorem dX2_multiplier_13 : decode cX2_multiplier 13 = .ok (.aload_n 0, 1) := by decide +kernel
theorem dX2_multiplier_14 : decode cX2_multiplier 14 = .ok (.getfield 13, 3) := by decide +kernel
theorem dX2_multiplier_17 : decode cX2_multiplier 17 = .ok (.iload_n 1, 1) := by decide +kernel
theorem dX2_multiplier_18 : decode cX2_multiplier 18 = .ok (.iload 4, 2) := by decide +kernel
theorem dX2_multiplier_20 : decode cX2_multiplier 20 = .ok (.invokestatic 77, 3) := by decide +kernel
theorem dX2_multiplier_23 : decode cX2_multiplier 23 = .ok (.invokevirtual 106, 3) := by decide +kernel
theorem dX2_multiplier_26 : decode cX2_multiplier 26 = .ok (.goto 31, 3) := by decide +kernel
theorem dX2_multiplier_29 : decode cX2_multiplier 29 = .ok (.iload_n 1, 1) := by decide +kernel
theorem dX2_multiplier_30 : decode cX2_multiplier 30 = .ok (.iconst 1, 1) := by decide +kernel
theorem dX2_multiplier_31 : decode cX2_multiplier 31 = .ok (.if_icmp .lt 21, 3) := by decide +kernel
theorem dX2_multiplier_34 : decode cX2_multiplier 34 = .ok (.aload_n 0, 1) := by decide +kernel
theorem dX2_multiplier_35 : decode cX2_multiplier 35 = .ok (.getfield 20, 3) := by decide +kernel
theorem dX2_multiplier_38 : decode cX2_multiplier 38 = .ok (.iload_n 1, 1) := by decide +kernel
theorem dX2_multiplier_39 : decode cX2_multiplier 39 = .ok (.iaload, 1) := by decide +kernel
theorem dX2_multiplier_40 : decode cX2_multiplier 40 = .ok (.iload_n 2, 1) := by decide +kernel
theorem dX2_multiplier_41 : decode cX2_multiplier 41 = .ok (.if_icmp .ne 11, 3) := by decide +kernel
theorem dX2_multiplier_44 : decode cX2_multiplier 44 = .ok (.aload_n 0, 1) := by decide +kernel
theorem dX2_multiplier_45 : decode cX2_multiplier 45 = .ok (.aload_n 3, 1) := by decide +kernel
theorem dX2_multiplier_46 : decode cX2_multiplier 46 = .ok (.invokevirtual 121, 3) := by decide +kernel
theorem dX2_multiplier_49 : decode cX2_multiplier 49 = .ok (.goto 8, 3) := by decide +kernel
theorem dX2_multiplier_52 : decode cX2_multiplier 52 = .ok (.aload_n 3, 1) := by decide +kernel
theorem dX2_multiplier_53 : decode cX2_multiplier 53 = .ok (.lconst 0, 1) := by decide +kernel
theorem dX2_multiplier_54 : decode cX2_multiplier 54 = .ok (.invokevirtual 124, 3) := by decide +kernel
theorem dX2_multiplier_57 : decode cX2_multiplier 57 = .ok (.return_, 1) := by decide +kernel
theorem dX2_needsHelper_0 : decode cX2_needsHelper 0 = .ok (.iconst 1, 1) := by decide +kernel
theorem dX2_needsHelper_1 : decode cX2_needsHelper 1 = .ok (.istore_n 1, 1) := by decide +kernel
theorem dX2_needsHelper_2 : decode cX2_needsHelper 2 = .ok (.iload_n 1, 1) := by decide +kernel
theorem dX2_needsHelper_3 : decode cX2_needsHelper 3 = .ok (.aload_n 0, 1) := by decide +kernel
theorem dX2_needsHelper_4 : decode cX2_needsHelper 4 = .ok (.getfield 66, 3) := by decide +kernel
theorem dX2_needsHelper_7 : decode cX2_needsHelper 7 = .ok (.if_icmp .gt 20, 3) := by decide +kernel
theorem dX2_needsHelper_10 : decode cX2_needsHelper 10 = .ok (.aload_n 0, 1) := by decide +kernel
theorem dX2_needsHelper_11 : decode cX2_needsHelper 11 = .ok (.iload_n 1, 1) := by decide +kernel
theorem dX2_needsHelper_12 : decode cX2_needsHelper 12 = .ok (.iconst 0, 1) := by decide +kernel
theorem dX2_needsHelper_13 : decode cX2_needsHelper 13 = .ok (.invokevirtual 95, 3) := by decide +kernel
theorem dX2_needsHelper_16 : decode cX2_needsHelper 16 = .ok (.ifCond .ge 5, 3) := by decide +kernel
theorem dX2_needsHelper_19 : decode cX2_needsHelper 19 = .ok (.iconst 1, 1) := by decide +kernel
theorem dX2_needsHelper_20 : decode cX2_needsHelper 20 = .ok (.ireturn, 1) := by decide +kernel
theorem dX2_needsHelper_21 : decode cX2_needsHelper 21 = .ok (.iinc 1 1, 3) := by decide +kernel
theorem dX2_needsHelper_24 : decode cX2_needsHelper 24 = .ok (.goto (-22), 3) := by decide +kernel
theorem dX2_needsHelper_27 : decode cX2_needsHelper 27 = .ok (.iconst 0, 1) := by decide +kernel
theorem dX2_needsHelper_28 : decode cX2_needsHelper 28 = .ok (.ireturn, 1) := by decide +kernel
theorem dX2_number_0 : decode cX2_number 0 = .ok (.aload_n 3, 1) := by decide +kernel
theorem dX2_number_1 : decode cX2_number 1 = .ok (.aload_n 0, 1) := by decide +kernel
theorem dX2_number_2 : decode cX2_number 2 = .ok (.getfield 13, 3) := by decide +kernel
theorem dX2_number_5 : decode cX2_number 5 = .ok (.iload_n 1, 1) := by decide +kernel
theorem dX2_number_6 : decode cX2_number 6 = .ok (.iload_n 2, 1) := by decide +kernel
theorem dX2_number_7 : decode cX2_number 7 = .ok (.invokestatic 77, 3) := by decide +kernel
theorem dX2_number_10 : decode cX2_number 10 = .ok (.invokevirtual 106, 3) := by decide +kernel
theorem dX2_number_13 : decode cX2_number 13 = .ok (.return_, 1) := by decide +kernel
theorem dX2_numberAt_0 : decode cX2_numberAt 0 = .ok (.iload_n 1, 1) := by decide +kernel
theorem dX2_numberAt_1 : decode cX2_numberAt 1 = .ok (.iconst 1, 1) := by decide +kernel
theorem dX2_numberAt_2 : decode cX2_numberAt 2 = .ok (.if_icmp .lt 18, 3) := by decide +kernel
theorem dX2_numberAt_5 : decode cX2_numberAt 5 = .ok (.iload_n 1, 1) := by decide +kernel
theorem dX2_numberAt_6 : decode cX2_numberAt 6 = .ok (.aload_n 0, 1) := by decide +kernel
theorem dX2_numberAt_7 : decode cX2_numberAt 7 = .ok (.getfield 66, 3) := by decide +kernel
theorem dX2_numberAt_10 : decode cX2_numberAt 10 = .ok (.if_icmp .gt 10, 3) := by decide +kernel
theorem dX2_numberAt_13 : decode cX2_numberAt 13 = .ok (.aload_n 0, 1) := by decide +kernel
theorem dX2_numberAt_14 : decode cX2_numberAt 14 = .ok (.getfield 20, 3) := by decide +kernel
theorem dX2_numberAt_17 : decode cX2_numberAt 17 = .ok (.iload_n 1, 1) := by decide +kernel
theorem dX2_numberAt_18 : decode cX2_numberAt 18 = .ok (.iaload, 1) := by decide +kernel
theorem dX2_numberAt_19 : decode cX2_numberAt 19 = .ok (.ireturn, 1) := by decide +kernel
theorem dX2_numberAt_20 : decode cX2_numberAt 20 = .ok (.iload_n 1, 1) := by decide +kernel
theorem dX2_numberAt_21 : decode cX2_numberAt 21 = .ok (.iconst (-1), 1) := by decide +kernel
theorem dX2_numberAt_22 : decode cX2_numberAt 22 = .ok (.if_icmp .gt 22, 3) := by decide +kernel
theorem dX2_numberAt_25 : decode cX2_numberAt 25 = .ok (.iload_n 1, 1) := by decide +kernel
theorem dX2_numberAt_26 : decode cX2_numberAt 26 = .ok (.aload_n 0, 1) := by decide +kernel
theorem dX2_numberAt_27 : decode cX2_numberAt 27 = .ok (.getfield 67, 3) := by decide +kernel
theorem dX2_numberAt_30 : decode cX2_numberAt 30 = .ok (.ineg, 1) := by decide +kernel
theorem dX2_numberAt_31 : decode cX2_numberAt 31 = .ok (.if_icmp .lt 13, 3) := by decide +kernel
theorem dX2_numberAt_34 : decode cX2_numberAt 34 = .ok (.aload_n 0, 1) := by decide +kernel
theorem dX2_numberAt_35 : decode cX2_numberAt 35 = .ok (.getfield 23, 3) := by decide +kernel
theorem dX2_numberAt_38 : decode cX2_numberAt 38 = .ok (.iload_n 1, 1) := by decide +kernel
theorem dX2_numberAt_39 : decode cX2_numberAt 39 = .ok (.ineg, 1) := by decide +kernel
theorem dX2_numberAt_40 : decode cX2_numberAt 40 = .ok (.iaload, 1) := by decide +kernel
theorem dX2_numberAt_41 : decode cX2_numberAt 41 = .ok (.goto 4, 3) := by decide +kernel
theorem dX2_numberAt_44 : decode cX2_numberAt 44 = .ok (.iconst (-1), 1) := by decide +kernel
theorem dX2_numberAt_45 : decode cX2_numberAt 45 = .ok (.ireturn, 1) := by decide +kernel
theorem dX2_placeOf_0 : decode cX2_placeOf 0 = .ok (.iconst 1, 1) := by decide +kernel
theorem dX2_placeOf_1 : decode cX2_placeOf 1 = .ok (.istore_n 2, 1) := by decide +kernel
theorem dX2_placeOf_2 : decode cX2_placeOf 2 = .ok (.iload_n 2, 1) := by decide +kernel
theorem dX2_placeOf_3 : decode cX2_placeOf 3 = .ok (.aload_n 0, 1) := by decide +kernel
theorem dX2_placeOf_4 : decode cX2_placeOf 4 = .ok (.getfield 67, 3) := by decide +kernel
theorem dX2_placeOf_7 : decode cX2_placeOf 7 = .ok (.if_icmp .gt 21, 3) := by decide +kernel
theorem dX2_placeOf_10 : decode cX2_placeOf 10 = .ok (.aload_n 0, 1) := by decide +kernel
theorem dX2_placeOf_11 : decode cX2_placeOf 11 = .ok (.getfield 23, 3) := by decide +kernel
theorem dX2_placeOf_14 : decode cX2_placeOf 14 = .ok (.iload_n 2, 1) := by decide +kernel
theorem dX2_placeOf_15 : decode cX2_placeOf 15 = .ok (.iaload, 1) := by decide +kernel
theorem dX2_placeOf_16 : decode cX2_placeOf 16 = .ok (.iload_n 1, 1) := by decide +kernel
theorem dX2_placeOf_17 : decode cX2_placeOf 17 = .ok (.if_icmp .ne 5, 3) := by decide +kernel
theorem dX2_placeOf_20 : decode cX2_placeOf 20 = .ok (.iload_n 2, 1) := by decide +kernel
theorem dX2_placeOf_21 : decode cX2_placeOf 21 = .ok (.ireturn, 1) := by decide +kernel
theorem dX2_placeOf_22 : decode cX2_placeOf 22 = .ok (.iinc 2 1, 3) := by decide +kernel
theorem dX2_placeOf_25 : decode cX2_placeOf 25 = .ok (.goto (-23), 3) := by decide +kernel
theorem dX2_placeOf_28 : decode cX2_placeOf 28 = .ok (.iconst (-1), 1) := by decide +kernel
theorem dX2_placeOf_29 : decode cX2_placeOf 29 = .ok (.ireturn, 1) := by decide +kernel
theorem dX2_pointNumber_0 : decode cX2_pointNumber 0 = .ok (.aload_n 0, 1) := by decide +kernel
theorem dX2_pointNumber_1 : decode cX2_pointNumber 1 = .ok (.iload_n 1, 1) := by decide +kernel
theorem dX2_pointNumber_2 : decode cX2_pointNumber 2 = .ok (.invokevirtual 128, 3) := by decide +kernel
theorem dX2_pointNumber_5 : decode cX2_pointNumber 5 = .ok (.istore_n 3, 1) := by decide +kernel
theorem dX2_pointNumber_6 : decode cX2_pointNumber 6 = .ok (.iload_n 3, 1) := by decide +kernel
theorem dX2_pointNumber_7 : decode cX2_pointNumber 7 = .ok (.ifCond .le 19, 3) := by decide +kernel
theorem dX2_pointNumber_10 : decode cX2_pointNumber 10 = .ok (.aload_n 2, 1) := by decide +kernel
theorem dX2_pointNumber_11 : decode cX2_pointNumber 11 = .ok (.aload_n 0, 1) := by decide +kernel
theorem dX2_pointNumber_12 : decode cX2_pointNumber 12 = .ok (.getfield 13, 3) := by decide +kernel
theorem dX2_pointNumber_15 : decode cX2_pointNumber 15 = .ok (.iload_n 3, 1) := by decide +kernel
theorem dX2_pointNumber_16 : decode cX2_pointNumber 16 = .ok (.iconst 0, 1) := by decide +kernel
theorem dX2_pointNumber_17 : decode cX2_pointNumber 17 = .ok (.invokestatic 77, 3) := by decide +kernel
theorem dX2_pointNumber_20 : decode cX2_pointNumber 20 = .ok (.invokevirtual 106, 3) := by decide +kernel
theorem dX2_pointNumber_23 : decode cX2_pointNumber 23 = .ok (.goto 8, 3) := by decide +kernel
theorem dX2_pointNumber_26 : decode cX2_pointNumber 26 = .ok (.aload_n 2, 1) := by decide +kernel
theorem dX2_pointNumber_27 : decode cX2_pointNumber 27 = .ok (.lconst 0, 1) := by decide +kernel
theorem dX2_pointNumber_28 : decode cX2_pointNumber 28 = .ok (.invokevirtual 124, 3) := by decide +kernel
theorem dX2_pointNumber_31 : decode cX2_pointNumber 31 = .ok (.return_, 1) := by decide +kernel
theorem dX2_rayNumber_0 : decode cX2_rayNumber 0 = .ok (.aload_n 0, 1) := by decide +kernel
theorem dX2_rayNumber_1 : decode cX2_rayNumber 1 = .ok (.iload_n 1, 1) := by decide +kernel
theorem dX2_rayNumber_2 : decode cX2_rayNumber 2 = .ok (.invokevirtual 128, 3) := by decide +kernel
theorem dX2_rayNumber_5 : decode cX2_rayNumber 5 = .ok (.istore_n 3, 1) := by decide +kernel
theorem dX2_rayNumber_6 : decode cX2_rayNumber 6 = .ok (.iload_n 3, 1) := by decide +kernel
theorem dX2_rayNumber_7 : decode cX2_rayNumber 7 = .ok (.ifCond .le 26, 3) := by decide +kernel
theorem dX2_rayNumber_10 : decode cX2_rayNumber 10 = .ok (.aload_n 2, 1) := by decide +kernel
theorem dX2_rayNumber_11 : decode cX2_rayNumber 11 = .ok (.aload_n 0, 1) := by decide +kernel
theorem dX2_rayNumber_12 : decode cX2_rayNumber 12 = .ok (.getfield 13, 3) := by decide +kernel
theorem dX2_rayNumber_15 : decode cX2_rayNumber 15 = .ok (.iload_n 3, 1) := by decide +kernel
theorem dX2_rayNumber_16 : decode cX2_rayNumber 16 = .ok (.aload_n 0, 1) := by decide +kernel
theorem dX2_rayNumber_17 : decode cX2_rayNumber 17 = .ok (.getfield 131, 3) := by decide +kernel
theorem dX2_rayNumber_20 : decode cX2_rayNumber 20 = .ok (.invokestatic 77, 3) := by decide +kernel
theorem dX2_rayNumber_23 : decode cX2_rayNumber 23 = .ok (.invokevirtual 106, 3) := by decide +kernel
theorem dX2_rayNumber_26 : decode cX2_rayNumber 26 = .ok (.aload_n 2, 1) := by decide +kernel
theorem dX2_rayNumber_27 : decode cX2_rayNumber 27 = .ok (.invokevirtual 134, 3) := by decide +kernel
theorem dX2_rayNumber_30 : decode cX2_rayNumber 30 = .ok (.goto 29, 3) := by decide +kernel
theorem dX2_rayNumber_33 : decode cX2_rayNumber 33 = .ok (.aload_n 0, 1) := by decide +kernel
theorem dX2_rayNumber_34 : decode cX2_rayNumber 34 = .ok (.getfield 23, 3) := by decide +kernel
theorem dX2_rayNumber_37 : decode cX2_rayNumber 37 = .ok (.aload_n 0, 1) := by decide +kernel
theorem dX2_rayNumber_38 : decode cX2_rayNumber 38 = .ok (.getfield 131, 3) := by decide +kernel
theorem dX2_rayNumber_41 : decode cX2_rayNumber 41 = .ok (.iaload, 1) := by decide +kernel
theorem dX2_rayNumber_42 : decode cX2_rayNumber 42 = .ok (.iload_n 1, 1) := by decide +kernel
theorem dX2_rayNumber_43 : decode cX2_rayNumber 43 = .ok (.if_icmp .ne 11, 3) := by decide +kernel
theorem dX2_rayNumber_46 : decode cX2_rayNumber 46 = .ok (.aload_n 0, 1) := by decide +kernel
theorem dX2_rayNumber_47 : decode cX2_rayNumber 47 = .ok (.aload_n 2, 1) := by decide +kernel
theorem dX2_rayNumber_48 : decode cX2_rayNumber 48 = .ok (.invokevirtual 121, 3) := by decide +kernel
theorem dX2_rayNumber_51 : decode cX2_rayNumber 51 = .ok (.goto 8, 3) := by decide +kernel
theorem dX2_rayNumber_54 : decode cX2_rayNumber 54 = .ok (.aload_n 2, 1) := by decide +kernel
theorem dX2_rayNumber_55 : decode cX2_rayNumber 55 = .ok (.lconst 0, 1) := by decide +kernel
theorem dX2_rayNumber_56 : decode cX2_rayNumber 56 = .ok (.invokevirtual 124, 3) := by decide +kernel
theorem dX2_rayNumber_59 : decode cX2_rayNumber 59 = .ok (.return_, 1) := by decide +kernel
theorem dX2_rowCount_0 : decode cX2_rowCount 0 = .ok (.aload_n 0, 1) := by decide +kernel
theorem dX2_rowCount_1 : decode cX2_rowCount 1 = .ok (.getfield 66, 3) := by decide +kernel
theorem dX2_rowCount_4 : decode cX2_rowCount 4 = .ok (.ireturn, 1) := by decide +kernel
theorem dX2_rowOf_0 : decode cX2_rowOf 0 = .ok (.iconst 1, 1) := by decide +kernel
theorem dX2_rowOf_1 : decode cX2_rowOf 1 = .ok (.istore_n 2, 1) := by decide +kernel
theorem dX2_rowOf_2 : decode cX2_rowOf 2 = .ok (.iload_n 2, 1) := by decide +kernel
theorem dX2_rowOf_3 : decode cX2_rowOf 3 = .ok (.aload_n 0, 1) := by decide +kernel
theorem dX2_rowOf_4 : decode cX2_rowOf 4 = .ok (.getfield 66, 3) := by decide +kernel
theorem dX2_rowOf_7 : decode cX2_rowOf 7 = .ok (.if_icmp .gt 21, 3) := by decide +kernel
theorem dX2_rowOf_10 : decode cX2_rowOf 10 = .ok (.aload_n 0, 1) := by decide +kernel
theorem dX2_rowOf_11 : decode cX2_rowOf 11 = .ok (.getfield 20, 3) := by decide +kernel
theorem dX2_rowOf_14 : decode cX2_rowOf 14 = .ok (.iload_n 2, 1) := by decide +kernel
theorem dX2_rowOf_15 : decode cX2_rowOf 15 = .ok (.iaload, 1) := by decide +kernel
theorem dX2_rowOf_16 : decode cX2_rowOf 16 = .ok (.iload_n 1, 1) := by decide +kernel
theorem dX2_rowOf_17 : decode cX2_rowOf 17 = .ok (.if_icmp .ne 5, 3) := by decide +kernel
theorem dX2_rowOf_20 : decode cX2_rowOf 20 = .ok (.iload_n 2, 1) := by decide +kernel
theorem dX2_rowOf_21 : decode cX2_rowOf 21 = .ok (.ireturn, 1) := by decide +kernel
theorem dX2_rowOf_22 : decode cX2_rowOf 22 = .ok (.iinc 2 1, 3) := by decide +kernel
theorem dX2_rowOf_25 : decode cX2_rowOf 25 = .ok (.goto (-23), 3) := by decide +kernel
theorem dX2_rowOf_28 : decode cX2_rowOf 28 = .ok (.iconst (-1), 1) := by decide +kernel
theorem dX2_rowOf_29 : decode cX2_rowOf 29 = .ok (.ireturn, 1) := by decide +kernel
theorem dX2_sign_0 : decode cX2_sign 0 = .ok (.aload_n 0, 1) := by decide +kernel
theorem dX2_sign_1 : decode cX2_sign 1 = .ok (.getfield 13, 3) := by decide +kernel
theorem dX2_sign_4 : decode cX2_sign 4 = .ok (.iload_n 1, 1) := by decide +kernel
theorem dX2_sign_5 : decode cX2_sign 5 = .ok (.iload_n 2, 1) := by decide +kernel
theorem dX2_sign_6 : decode cX2_sign 6 = .ok (.invokestatic 77, 3) := by decide +kernel
theorem dX2_sign_9 : decode cX2_sign 9 = .ok (.iaload, 1) := by decide +kernel
theorem dX2_sign_10 : decode cX2_sign 10 = .ok (.invokestatic 100, 3) := by decide +kernel
theorem dX2_sign_13 : decode cX2_sign 13 = .ok (.ireturn, 1) := by decide +kernel
theorem dX2_start_0 : decode cX2_start 0 = .ok (.aload_n 0, 1) := by decide +kernel
theorem dX2_start_1 : decode cX2_start 1 = .ok (.aload_n 1, 1) := by decide +kernel
theorem dX2_start_2 : decode cX2_start 2 = .ok (.getfield 56, 3) := by decide +kernel
theorem dX2_start_5 : decode cX2_start 5 = .ok (.putfield 62, 3) := by decide +kernel
theorem dX2_start_8 : decode cX2_start 8 = .ok (.aload_n 0, 1) := by decide +kernel
theorem dX2_start_9 : decode cX2_start 9 = .ok (.aload_n 1, 1) := by decide +kernel
theorem dX2_start_10 : decode cX2_start 10 = .ok (.getfield 63, 3) := by decide +kernel
theorem dX2_start_13 : decode cX2_start 13 = .ok (.putfield 66, 3) := by decide +kernel
theorem dX2_start_16 : decode cX2_start 16 = .ok (.aload_n 0, 1) := by decide +kernel
theorem dX2_start_17 : decode cX2_start 17 = .ok (.aload_n 0, 1) := by decide +kernel
theorem dX2_start_18 : decode cX2_start 18 = .ok (.getfield 62, 3) := by decide +kernel
theorem dX2_start_21 : decode cX2_start 21 = .ok (.putfield 67, 3) := by decide +kernel
theorem dX2_start_24 : decode cX2_start 24 = .ok (.aload_n 0, 1) := by decide +kernel
theorem dX2_start_25 : decode cX2_start 25 = .ok (.iconst 0, 1) := by decide +kernel
theorem dX2_start_26 : decode cX2_start 26 = .ok (.putfield 70, 3) := by decide +kernel
theorem dX2_start_29 : decode cX2_start 29 = .ok (.aload_n 0, 1) := by decide +kernel
theorem dX2_start_30 : decode cX2_start 30 = .ok (.iconst 0, 1) := by decide +kernel
theorem dX2_start_31 : decode cX2_start 31 = .ok (.putfield 74, 3) := by decide +kernel
theorem dX2_start_34 : decode cX2_start 34 = .ok (.aload_n 0, 1) := by decide +kernel
theorem dX2_start_35 : decode cX2_start 35 = .ok (.getfield 13, 3) := by decide +kernel
theorem dX2_start_38 : decode cX2_start 38 = .ok (.bipush (-2), 2) := by decide +kernel
theorem dX2_start_40 : decode cX2_start 40 = .ok (.iconst 0, 1) := by decide +kernel
theorem dX2_start_41 : decode cX2_start 41 = .ok (.invokestatic 77, 3) := by decide +kernel
theorem dX2_start_44 : decode cX2_start 44 = .ok (.lconst 1, 1) := by decide +kernel
theorem dX2_start_45 : decode cX2_start 45 = .ok (.invokestatic 81, 3) := by decide +kernel
theorem dX2_start_48 : decode cX2_start 48 = .ok (.iconst 0, 1) := by decide +kernel
theorem dX2_start_49 : decode cX2_start 49 = .ok (.istore_n 2, 1) := by decide +kernel
theorem dX2_start_50 : decode cX2_start 50 = .ok (.iload_n 2, 1) := by decide +kernel
theorem dX2_start_51 : decode cX2_start 51 = .ok (.aload_n 0, 1) := by decide +kernel
theorem dX2_start_52 : decode cX2_start 52 = .ok (.getfield 66, 3) := by decide +kernel
theorem dX2_start_55 : decode cX2_start 55 = .ok (.if_icmp .gt 74, 3) := by decide +kernel
theorem dX2_start_58 : decode cX2_start 58 = .ok (.aload_n 0, 1) := by decide +kernel
theorem dX2_start_59 : decode cX2_start 59 = .ok (.getfield 20, 3) := by decide +kernel
theorem dX2_start_62 : decode cX2_start 62 = .ok (.iload_n 2, 1) := by decide +kernel
theorem dX2_start_63 : decode cX2_start 63 = .ok (.aload_n 0, 1) := by decide +kernel
theorem dX2_start_64 : decode cX2_start 64 = .ok (.getfield 62, 3) := by decide +kernel
theorem dX2_start_67 : decode cX2_start 67 = .ok (.iload_n 2, 1) := by decide +kernel
theorem dX2_start_68 : decode cX2_start 68 = .ok (.iadd, 1) := by decide +kernel
theorem dX2_start_69 : decode cX2_start 69 = .ok (.iastore, 1) := by decide +kernel
theorem dX2_start_70 : decode cX2_start 70 = .ok (.iconst 0, 1) := by decide +kernel
theorem dX2_start_71 : decode cX2_start 71 = .ok (.istore_n 3, 1) := by decide +kernel
theorem dX2_start_72 : decode cX2_start 72 = .ok (.iload_n 3, 1) := by decide +kernel
theorem dX2_start_73 : decode cX2_start 73 = .ok (.aload_n 0, 1) := by decide +kernel
theorem dX2_start_74 : decode cX2_start 74 = .ok (.getfield 67, 3) := by decide +kernel
theorem dX2_start_77 : decode cX2_start 77 = .ok (.if_icmp .gt 46, 3) := by decide +kernel
theorem dX2_start_80 : decode cX2_start 80 = .ok (.aload_n 1, 1) := by decide +kernel
theorem dX2_start_81 : decode cX2_start 81 = .ok (.iload_n 2, 1) := by decide +kernel
theorem dX2_start_82 : decode cX2_start 82 = .ok (.iload_n 3, 1) := by decide +kernel
theorem dX2_start_83 : decode cX2_start 83 = .ok (.invokevirtual 85, 3) := by decide +kernel
theorem dX2_start_86 : decode cX2_start 86 = .ok (.i2l, 1) := by decide +kernel
theorem dX2_start_87 : decode cX2_start 87 = .ok (.lstore 4, 2) := by decide +kernel
theorem dX2_start_89 : decode cX2_start 89 = .ok (.aload_n 0, 1) := by decide +kernel
theorem dX2_start_90 : decode cX2_start 90 = .ok (.getfield 13, 3) := by decide +kernel
theorem dX2_start_93 : decode cX2_start 93 = .ok (.iload_n 2, 1) := by decide +kernel
theorem dX2_start_94 : decode cX2_start 94 = .ok (.iload_n 3, 1) := by decide +kernel
theorem dX2_start_95 : decode cX2_start 95 = .ok (.invokestatic 77, 3) := by decide +kernel
theorem dX2_start_98 : decode cX2_start 98 = .ok (.iload_n 2, 1) := by decide +kernel
theorem dX2_start_99 : decode cX2_start 99 = .ok (.ifCond .ne 13, 3) := by decide +kernel
theorem dX2_start_102 : decode cX2_start 102 = .ok (.iload_n 3, 1) := by decide +kernel
theorem dX2_start_103 : decode cX2_start 103 = .ok (.ifCond .le 9, 3) := by decide +kernel
theorem dX2_start_106 : decode cX2_start 106 = .ok (.lload 4, 2) := by decide +kernel
theorem dX2_start_108 : decode cX2_start 108 = .ok (.lneg, 1) := by decide +kernel
theorem dX2_start_109 : decode cX2_start 109 = .ok (.goto 5, 3) := by decide +kernel
theorem dX2_start_112 : decode cX2_start 112 = .ok (.lload 4, 2) := by decide +kernel
theorem dX2_start_114 : decode cX2_start 114 = .ok (.invokestatic 81, 3) := by decide +kernel
theorem dX2_start_117 : decode cX2_start 117 = .ok (.iinc 3 1, 3) := by decide +kernel
theorem dX2_start_120 : decode cX2_start 120 = .ok (.goto (-48), 3) := by decide +kernel
theorem dX2_start_123 : decode cX2_start 123 = .ok (.iinc 2 1, 3) := by decide +kernel
theorem dX2_start_126 : decode cX2_start 126 = .ok (.goto (-76), 3) := by decide +kernel
theorem dX2_start_129 : decode cX2_start 129 = .ok (.iconst 1, 1) := by decide +kernel
theorem dX2_start_130 : decode cX2_start 130 = .ok (.istore_n 2, 1) := by decide +kernel
theorem dX2_start_131 : decode cX2_start 131 = .ok (.iload_n 2, 1) := by decide +kernel
theorem dX2_start_132 : decode cX2_start 132 = .ok (.aload_n 0, 1) := by decide +kernel
theorem dX2_start_133 : decode cX2_start 133 = .ok (.getfield 67, 3) := by decide +kernel
theorem dX2_start_136 : decode cX2_start 136 = .ok (.if_icmp .gt 16, 3) := by decide +kernel
theorem dX2_start_139 : decode cX2_start 139 = .ok (.aload_n 0, 1) := by decide +kernel
theorem dX2_start_140 : decode cX2_start 140 = .ok (.getfield 23, 3) := by decide +kernel
theorem dX2_start_143 : decode cX2_start 143 = .ok (.iload_n 2, 1) := by decide +kernel
theorem dX2_start_144 : decode cX2_start 144 = .ok (.iload_n 2, 1) := by decide +kernel
theorem dX2_start_145 : decode cX2_start 145 = .ok (.iastore, 1) := by decide +kernel
theorem dX2_start_146 : decode cX2_start 146 = .ok (.iinc 2 1, 3) := by decide +kernel
theorem dX2_start_149 : decode cX2_start 149 = .ok (.goto (-18), 3) := by decide +kernel
theorem dX2_start_152 : decode cX2_start 152 = .ok (.aload_n 0, 1) := by decide +kernel
theorem dX2_start_153 : decode cX2_start 153 = .ok (.invokevirtual 88, 3) := by decide +kernel
theorem dX2_start_156 : decode cX2_start 156 = .ok (.ifCond .eq 7, 3) := by decide +kernel
theorem dX2_start_159 : decode cX2_start 159 = .ok (.aload_n 0, 1) := by decide +kernel
theorem dX2_start_160 : decode cX2_start 160 = .ok (.invokevirtual 92, 3) := by decide +kernel
theorem dX2_start_163 : decode cX2_start 163 = .ok (.return_, 1) := by decide +kernel
theorem dX2_stuckRow_0 : decode cX2_stuckRow 0 = .ok (.aload_n 0, 1) := by decide +kernel
theorem dX2_stuckRow_1 : decode cX2_stuckRow 1 = .ok (.getfield 147, 3) := by decide +kernel
theorem dX2_stuckRow_4 : decode cX2_stuckRow 4 = .ok (.ireturn, 1) := by decide +kernel
theorem w_42 : Cond.selects RX2 yX2_needsHelper yX2_needsHelper ∈ tb := sel_3 (q := (yX2_needsHelper, 20)) 10 (by decide +kernel)
theorem w_43 : Cond.selects RX2 yX2_addHelper yX2_addHelper ∈ tb := sel_3 (q := (yX2_addHelper, 20)) 11 (by decide +kernel)
theorem w_58 : Cond.selects RX2 yX2_rowOf yX2_rowOf ∈ tb := sel_4 (q := (yX2_rowOf, 20)) 10 (by decide +kernel)
theorem w_60 : Cond.selects RX2 yX2_placeOf yX2_placeOf ∈ tb := sel_4 (q := (yX2_placeOf, 20)) 12 (by decide +kernel)
theorem w_213 : Cond.initialized RX2 ∈ tb := tbc_1 10 (by decide +kernel) rfl
theorem w_265 : Cond.fieldLinkNest RX2 56 (TX3 2).1 (TX3 2).2.1 (TX3 2).2.2.1 "OptimumHouse" ∈ nst := nsc_1 62 (by decide +kernel) rfl
theorem w_273 : Cond.fieldLinkNest RX2 63 (TX3 3).1 (TX3 3).2.1 (TX3 3).2.2.1 "OptimumHouse" ∈ nst := nsc_1 70 (by decide +kernel) rfl
theorem w_456 : Cond.fieldLink RX2 13 (TX2 0).1 (TX2 0).2.1 (TX2 0).2.2.1 ∈ tb := tbc_2 13 (by decide +kernel) rfl
theorem w_458 : Cond.fieldLink RX2 20 (TX2 2).1 (TX2 2).2.1 (TX2 2).2.2.1 ∈ tb := tbc_2 15 (by decide +kernel) rfl
theorem w_459 : Cond.fieldLink RX2 23 (TX2 3).1 (TX2 3).2.1 (TX2 3).2.2.1 ∈ tb := tbc_2 16 (by decide +kernel) rfl
theorem w_469 : Cond.fieldLink RX2 62 (TX2 13).1 (TX2 13).2.1 (TX2 13).2.2.1 ∈ tb := tbc_2 26 (by decide +kernel) rfl
theorem w_470 : Cond.fieldLink RX2 66 (TX2 14).1 (TX2 14).2.1 (TX2 14).2.2.1 ∈ tb := tbc_2 27 (by decide +kernel) rfl
theorem w_471 : Cond.fieldLink RX2 67 (TX2 15).1 (TX2 15).2.1 (TX2 15).2.2.1 ∈ tb := tbc_2 28 (by decide +kernel) rfl
theorem w_472 : Cond.fieldLink RX2 70 (TX2 16).1 (TX2 16).2.1 (TX2 16).2.2.1 ∈ tb := tbc_2 29 (by decide +kernel) rfl
theorem w_473 : Cond.fieldLink RX2 147 (TX2 17).1 (TX2 17).2.1 (TX2 17).2.2.1 ∈ tb := tbc_2 30 (by decide +kernel) rfl
theorem w_474 : Cond.fieldLink RX2 131 (TX2 18).1 (TX2 18).2.1 (TX2 18).2.2.1 ∈ tb := tbc_2 31 (by decide +kernel) rfl
theorem w_475 : Cond.fieldLink RX2 74 (TX2 19).1 (TX2 19).2.1 (TX2 19).2.2.1 ∈ tb := tbc_2 32 (by decide +kernel) rfl
theorem w_476 : u_lay RX2 TX2 0 ∈ tb := tbc_2 33 (by decide +kernel) rfl
theorem w_478 : u_lay RX2 TX2 1 ∈ tb := tbc_2 35 (by decide +kernel) rfl
theorem w_480 : u_lay RX2 TX2 2 ∈ tb := tbc_2 37 (by decide +kernel) rfl
theorem w_482 : u_lay RX2 TX2 3 ∈ tb := tbc_2 39 (by decide +kernel) rfl
theorem w_484 : u_lay RX2 TX2 4 ∈ tb := tbc_2 41 (by decide +kernel) rfl
theorem w_486 : u_lay RX2 TX2 5 ∈ tb := tbc_2 43 (by decide +kernel) rfl
theorem w_488 : u_lay RX2 TX2 6 ∈ tb := tbc_2 45 (by decide +kernel) rfl
theorem w_490 : u_lay RX2 TX2 7 ∈ tb := tbc_2 47 (by decide +kernel) rfl
theorem w_492 : u_lay RX2 TX2 8 ∈ tb := tbc_2 49 (by decide +kernel) rfl
theorem w_494 : u_lay RX2 TX2 9 ∈ tb := tbc_2 51 (by decide +kernel) rfl
theorem w_496 : u_lay RX2 TX2 10 ∈ tb := tbc_2 53 (by decide +kernel) rfl
theorem w_498 : u_lay RX2 TX2 11 ∈ tb := tbc_2 55 (by decide +kernel) rfl
theorem w_500 : u_lay RX2 TX2 12 ∈ tb := tbc_2 57 (by decide +kernel) rfl
theorem w_502 : u_lay RX2 TX2 13 ∈ tb := tbc_2 59 (by decide +kernel) rfl
theorem w_504 : u_lay RX2 TX2 14 ∈ tb := tbc_2 61 (by decide +kernel) rfl
theorem w_506 : u_lay RX2 TX2 15 ∈ tb := tbc_2 63 (by decide +kernel) rfl
theorem w_508 : u_lay RX2 TX2 16 ∈ tb := tbc_2 65 (by decide +kernel) rfl
theorem w_510 : u_lay RX2 TX2 17 ∈ tb := tbc_2 67 (by decide +kernel) rfl
theorem w_512 : u_lay RX2 TX2 18 ∈ tb := tbc_2 69 (by decide +kernel) rfl
theorem w_514 : u_lay RX2 TX2 19 ∈ tb := tbc_2 71 (by decide +kernel) rfl
theorem w_1193 : Cond.methodLink RX2 77 yX2_at ∈ tb := tbc_5 30 (by decide +kernel) rfl
theorem w_1194 : Cond.static yX2_at ∈ tb := tbc_5 31 (by decide +kernel) rfl
theorem w_1195 : Cond.code yX2_at cX2_at 2 (some .int) ∈ tb := tbc_5 32 (by decide +kernel) rfl
theorem w_1196 : Cond.methodLink RX2 81 yX0_store ∈ tb := tbc_5 33 (by decide +kernel) rfl
theorem w_1197 : Cond.methodLink RX2 85 yX3_number ∈ tb := tbc_5 34 (by decide +kernel) rfl
theorem w_1198 : Cond.methodLink RX2 88 yX2_needsHelper ∈ tb := tbc_5 35 (by decide +kernel) rfl
theorem w_1200 : Cond.instanceMethod yX2_needsHelper ∈ tb := tbc_5 37 (by decide +kernel) rfl
theorem w_1201 : Cond.code yX2_needsHelper cX2_needsHelper 2 (some .boolean) ∈ tb := tbc_5 38 (by decide +kernel) rfl
theorem w_1202 : Cond.methodLink RX2 95 yX2_sign ∈ tb := tbc_5 39 (by decide +kernel) rfl
theorem w_1203 : Cond.instanceMethod yX2_sign ∈ tb := tbc_5 40 (by decide +kernel) rfl
theorem w_1204 : Cond.selects RX2 yX2_sign yX2_sign ∈ tb := tbc_5 41 (by decide +kernel) rfl
theorem w_1205 : Cond.code yX2_sign cX2_sign 3 (some .int) ∈ tb := tbc_5 42 (by decide +kernel) rfl
theorem w_1206 : Cond.methodLink RX2 100 yJ6_signum_0f7a4 ∈ tb := tbc_5 43 (by decide +kernel) rfl
theorem w_1207 : Cond.methodLink RX2 92 yX2_addHelper ∈ tb := tbc_5 44 (by decide +kernel) rfl
theorem w_1209 : Cond.instanceMethod yX2_addHelper ∈ tb := tbc_5 46 (by decide +kernel) rfl
theorem w_1210 : Cond.code yX2_addHelper cX2_addHelper 2 none ∈ tb := tbc_5 47 (by decide +kernel) rfl
theorem w_1211 : Cond.constantLong RX2 98 (jv (-1)) ∈ tb := tbc_5 48 (by decide +kernel) rfl
theorem w_1234 : Cond.methodLink RX2 106 yX0_load ∈ tb := tbc_5 71 (by decide +kernel) rfl
theorem w_1235 : Cond.methodLink RX2 121 yX2_denominator ∈ tb := tbc_5 72 (by decide +kernel) rfl
theorem w_1236 : Cond.instanceMethod yX2_denominator ∈ tb := tbc_5 73 (by decide +kernel) rfl
theorem w_1237 : Cond.selects RX2 yX2_denominator yX2_denominator ∈ tb := tbc_5 74 (by decide +kernel) rfl
theorem w_1238 : Cond.code yX2_denominator cX2_denominator 2 none ∈ tb := tbc_5 75 (by decide +kernel) rfl
theorem w_1379 : Cond.methodLink RX2 128 yX2_rowOf ∈ tb := tbc_5 216 (by decide +kernel) rfl
theorem w_1381 : Cond.instanceMethod yX2_rowOf ∈ tb := tbc_5 218 (by decide +kernel) rfl
theorem w_1382 : Cond.code yX2_rowOf cX2_rowOf 3 (some .int) ∈ tb := tbc_5 219 (by decide +kernel) rfl
theorem w_1393 : Cond.methodLink RX2 124 yX0_put ∈ tb := tbc_5 230 (by decide +kernel) rfl
theorem w_1448 : Cond.methodLink RX2 118 yX2_placeOf ∈ tb := tbc_6 45 (by decide +kernel) rfl
theorem w_1450 : Cond.instanceMethod yX2_placeOf ∈ tb := tbc_6 47 (by decide +kernel) rfl
theorem w_1451 : Cond.code yX2_placeOf cX2_placeOf 3 (some .int) ∈ tb := tbc_6 48 (by decide +kernel) rfl
theorem w_1524 : Cond.methodLink RX2 134 yX0_turn ∈ tb := tbc_6 121 (by decide +kernel) rfl
theorem inX2 : ∀ w ∈ u_ws RX2 TX2 20, w ∈ tb := by
  show ∀ w ∈ [u_lay RX2 TX2 0, u_lay RX2 TX2 1, u_lay RX2 TX2 2, u_lay RX2 TX2 3, u_lay RX2 TX2 4, u_lay RX2 TX2 5, u_lay RX2 TX2 6, u_lay RX2 TX2 7, u_lay RX2 TX2 8, u_lay RX2 TX2 9, u_lay RX2 TX2 10, u_lay RX2 TX2 11, u_lay RX2 TX2 12, u_lay RX2 TX2 13, u_lay RX2 TX2 14, u_lay RX2 TX2 15, u_lay RX2 TX2 16, u_lay RX2 TX2 17, u_lay RX2 TX2 18, u_lay RX2 TX2 19], w ∈ tb
  exact List.forall_mem_cons.mpr ⟨w_476, List.forall_mem_cons.mpr ⟨w_478, List.forall_mem_cons.mpr ⟨w_480, List.forall_mem_cons.mpr ⟨w_482, List.forall_mem_cons.mpr ⟨w_484, List.forall_mem_cons.mpr ⟨w_486, List.forall_mem_cons.mpr ⟨w_488, List.forall_mem_cons.mpr ⟨w_490, List.forall_mem_cons.mpr ⟨w_492, List.forall_mem_cons.mpr ⟨w_494, List.forall_mem_cons.mpr ⟨w_496, List.forall_mem_cons.mpr ⟨w_498, List.forall_mem_cons.mpr ⟨w_500, List.forall_mem_cons.mpr ⟨w_502, List.forall_mem_cons.mpr ⟨w_504, List.forall_mem_cons.mpr ⟨w_506, List.forall_mem_cons.mpr ⟨w_508, List.forall_mem_cons.mpr ⟨w_510, List.forall_mem_cons.mpr ⟨w_512, List.forall_mem_cons.mpr ⟨w_514, fun _ h => absurd h List.not_mem_nil⟩⟩⟩⟩⟩⟩⟩⟩⟩⟩⟩⟩⟩⟩⟩⟩⟩⟩⟩⟩
section RW31
variable {p : Program} {l : Launch} {e : Env} {R : Room} {s : State} {m : MethodId} {args : Array Value} {below : List Frame} {meth : Method} {c : Code} {H : Heap} {locs : List Loc} {cells slots : Nat} {Q : State → Prop}
variable {cc : ByteArray} {pc nL : Nat} {ls : Array Slot} {rest st0 : List Value} {G : sG} {n : Nat} {S : sS}
theorem g_X2_70 (Cx : sC G p m c cc nL s args RX2) (hW : sW G n S H) {k : Nat} (hk : k < n) (ht : tau k = .inl 2) {v : Int} (hv : S.1 k 16 = v) (hdg : decode cc pc = .ok (.getfield 70, 3)) (kk : W p l e R s m args below meth c H locs cells slots Q (F0 m (pc + 3) ls (.int (iv v) :: rest))) : W p l e R s m args below meth c H locs cells slots Q (F0 m pc ls (.ref (G.2.2.1 + k) :: rest)) :=
  sGet Cx inX2 rfl 16 (by decide) w_472 hW hk ht (congrArg (fun z => Value.int (iv z)) hv) hdg kk
theorem g_X2_66 (Cx : sC G p m c cc nL s args RX2) (hW : sW G n S H) {k : Nat} (hk : k < n) (ht : tau k = .inl 2) {v : Int} (hv : S.1 k 14 = v) (hdg : decode cc pc = .ok (.getfield 66, 3)) (kk : W p l e R s m args below meth c H locs cells slots Q (F0 m (pc + 3) ls (.int (iv v) :: rest))) : W p l e R s m args below meth c H locs cells slots Q (F0 m pc ls (.ref (G.2.2.1 + k) :: rest)) :=
  sGet Cx inX2 rfl 14 (by decide) w_470 hW hk ht (congrArg (fun z => Value.int (iv z)) hv) hdg kk
theorem g_X2_147 (Cx : sC G p m c cc nL s args RX2) (hW : sW G n S H) {k : Nat} (hk : k < n) (ht : tau k = .inl 2) {v : Int} (hv : S.1 k 17 = v) (hdg : decode cc pc = .ok (.getfield 147, 3)) (kk : W p l e R s m args below meth c H locs cells slots Q (F0 m (pc + 3) ls (.int (iv v) :: rest))) : W p l e R s m args below meth c H locs cells slots Q (F0 m pc ls (.ref (G.2.2.1 + k) :: rest)) :=
  sGet Cx inX2 rfl 17 (by decide) w_473 hW hk ht (congrArg (fun z => Value.int (iv z)) hv) hdg kk
theorem g_X2_74 (Cx : sC G p m c cc nL s args RX2) (hW : sW G n S H) {k : Nat} (hk : k < n) (ht : tau k = .inl 2) {v : Int} (hv : S.1 k 19 = v) (hdg : decode cc pc = .ok (.getfield 74, 3)) (kk : W p l e R s m args below meth c H locs cells slots Q (F0 m (pc + 3) ls (.int (iv v) :: rest))) : W p l e R s m args below meth c H locs cells slots Q (F0 m pc ls (.ref (G.2.2.1 + k) :: rest)) :=
  sGet Cx inX2 rfl 19 (by decide) w_475 hW hk ht (congrArg (fun z => Value.int (iv z)) hv) hdg kk
theorem g_X2_13 (Cx : sC G p m c cc nL s args RX2) (hW : sW G n S H) {k : Nat} (hk : k < n) (ht : tau k = .inl 2) {v : Value} (hv : S.2.2.2 k 0 = v) (hdg : decode cc pc = .ok (.getfield 13, 3)) (kk : W p l e R s m args below meth c H locs cells slots Q (F0 m (pc + 3) ls (v :: rest))) : W p l e R s m args below meth c H locs cells slots Q (F0 m pc ls (.ref (G.2.2.1 + k) :: rest)) :=
  sGet Cx inX2 rfl 0 (by decide) w_456 hW hk ht hv hdg kk
theorem c_X2_77 (Cx : sC G p m c cc nL s args RX2) {rm : Room} {mc ms : Nat} (h1 : rm.cells = mc) (h2 : rm.slots = ms) (h3 : rm.frames + 1 ≤ R.frames ∧ 8 + (2 + 11) + rm.locals ≤ R.locals) : CallB R s args RX2 77 yX2_at cX2_at 2 (some .int) (.code yX2_at cX2_at 2 (some .int) :: tb) rm mc ms 2 ∧ (Cond.static yX2_at).before args s = true :=
  sCS Cx 2 w_1193 w_1194 w_213 w_1195 (by decide +kernel) h1 h2 h3
theorem c_X2_100 (Cx : sC G p m c cc nL s args RX2) {rm : Room} {mc ms : Nat} (h1 : rm.cells = mc) (h2 : rm.slots = ms) (h3 : rm.frames + 1 ≤ R.frames ∧ 8 + (1 + 11) + rm.locals ≤ R.locals) : CallB R s args RX2 100 yJ6_signum_0f7a4 cJ6_signum_0f7a4 1 (some .int) (.code yJ6_signum_0f7a4 cJ6_signum_0f7a4 1 (some .int) :: tb) rm mc ms 1 ∧ (Cond.static yJ6_signum_0f7a4).before args s = true :=
  sCS Cx 1 w_1206 w_1153 w_225 w_1154 (by decide +kernel) h1 h2 h3
theorem g_X2_67 (Cx : sC G p m c cc nL s args RX2) (hW : sW G n S H) {k : Nat} (hk : k < n) (ht : tau k = .inl 2) {v : Int} (hv : S.1 k 15 = v) (hdg : decode cc pc = .ok (.getfield 67, 3)) (kk : W p l e R s m args below meth c H locs cells slots Q (F0 m (pc + 3) ls (.int (iv v) :: rest))) : W p l e R s m args below meth c H locs cells slots Q (F0 m pc ls (.ref (G.2.2.1 + k) :: rest)) :=
  sGet Cx inX2 rfl 15 (by decide) w_471 hW hk ht (congrArg (fun z => Value.int (iv z)) hv) hdg kk
theorem g_X2_23 (Cx : sC G p m c cc nL s args RX2) (hW : sW G n S H) {k : Nat} (hk : k < n) (ht : tau k = .inl 2) {v : Value} (hv : S.2.2.2 k 3 = v) (hdg : decode cc pc = .ok (.getfield 23, 3)) (kk : W p l e R s m args below meth c H locs cells slots Q (F0 m (pc + 3) ls (v :: rest))) : W p l e R s m args below meth c H locs cells slots Q (F0 m pc ls (.ref (G.2.2.1 + k) :: rest)) :=
  sGet Cx inX2 rfl 3 (by decide) w_459 hW hk ht hv hdg kk
theorem g_X2_20 (Cx : sC G p m c cc nL s args RX2) (hW : sW G n S H) {k : Nat} (hk : k < n) (ht : tau k = .inl 2) {v : Value} (hv : S.2.2.2 k 2 = v) (hdg : decode cc pc = .ok (.getfield 20, 3)) (kk : W p l e R s m args below meth c H locs cells slots Q (F0 m (pc + 3) ls (v :: rest))) : W p l e R s m args below meth c H locs cells slots Q (F0 m pc ls (.ref (G.2.2.1 + k) :: rest)) :=
  sGet Cx inX2 rfl 2 (by decide) w_458 hW hk ht hv hdg kk
theorem c_X2_128 (Cx : sC G p m c cc nL s args RX2) {rm : Room} {mc ms : Nat} (h1 : rm.cells = mc) (h2 : rm.slots = ms) (h3 : rm.frames + 1 ≤ R.frames ∧ 8 + (3 + 11) + rm.locals ≤ R.locals) : CallW R s args RX2 RX2 128 yX2_rowOf cX2_rowOf 3 (some .int) (.code yX2_rowOf cX2_rowOf 3 (some .int) :: tb) rm mc ms 1 :=
  sCw Cx 1 w_1379 w_1381 w_58 w_213 w_1382 (by decide +kernel) h1 h2 h3
theorem c_X2_106 (Cx : sC G p m c cc nL s args RX2) {rm : Room} {mc ms : Nat} (h1 : rm.cells = mc) (h2 : rm.slots = ms) (h3 : rm.frames + 1 ≤ R.frames ∧ 8 + (5 + 11) + rm.locals ≤ R.locals) : CallW R s args RX2 RX0 106 yX0_load cX0_load 5 none (.code yX0_load cX0_load 5 none :: tb) rm mc ms 2 :=
  sCw Cx 2 w_1234 w_1149 w_1150 w_212 w_1151 (by decide +kernel) h1 h2 h3
theorem c_X2_118 (Cx : sC G p m c cc nL s args RX2) {rm : Room} {mc ms : Nat} (h1 : rm.cells = mc) (h2 : rm.slots = ms) (h3 : rm.frames + 1 ≤ R.frames ∧ 8 + (3 + 11) + rm.locals ≤ R.locals) : CallW R s args RX2 RX2 118 yX2_placeOf cX2_placeOf 3 (some .int) (.code yX2_placeOf cX2_placeOf 3 (some .int) :: tb) rm mc ms 1 :=
  sCw Cx 1 w_1448 w_1450 w_60 w_213 w_1451 (by decide +kernel) h1 h2 h3
theorem c_X2_124 (Cx : sC G p m c cc nL s args RX2) {rm : Room} {mc ms : Nat} (h1 : rm.cells = mc) (h2 : rm.slots = ms) (h3 : rm.frames + 1 ≤ R.frames ∧ 8 + (6 + 11) + rm.locals ≤ R.locals) : CallW R s args RX2 RX0 124 yX0_put cX0_put 6 none (.code yX0_put cX0_put 6 none :: tb) rm mc ms 1 :=
  sCw Cx 1 w_1393 w_1263 w_1264 w_212 w_1265 (by decide +kernel) h1 h2 h3
theorem c_X2_121 (Cx : sC G p m c cc nL s args RX2) {rm : Room} {mc ms : Nat} (h1 : rm.cells = mc) (h2 : rm.slots = ms) (h3 : rm.frames + 1 ≤ R.frames ∧ 8 + (2 + 11) + rm.locals ≤ R.locals) : CallW R s args RX2 RX2 121 yX2_denominator cX2_denominator 2 none (.code yX2_denominator cX2_denominator 2 none :: tb) rm mc ms 1 :=
  sCw Cx 1 w_1235 w_1236 w_1237 w_213 w_1238 (by decide +kernel) h1 h2 h3
theorem g_X2_131 (Cx : sC G p m c cc nL s args RX2) (hW : sW G n S H) {k : Nat} (hk : k < n) (ht : tau k = .inl 2) {v : Int} (hv : S.1 k 18 = v) (hdg : decode cc pc = .ok (.getfield 131, 3)) (kk : W p l e R s m args below meth c H locs cells slots Q (F0 m (pc + 3) ls (.int (iv v) :: rest))) : W p l e R s m args below meth c H locs cells slots Q (F0 m pc ls (.ref (G.2.2.1 + k) :: rest)) :=
  sGet Cx inX2 rfl 18 (by decide) w_474 hW hk ht (congrArg (fun z => Value.int (iv z)) hv) hdg kk
theorem c_X2_134 (Cx : sC G p m c cc nL s args RX2) {rm : Room} {mc ms : Nat} (h1 : rm.cells = mc) (h2 : rm.slots = ms) (h3 : rm.frames + 1 ≤ R.frames ∧ 8 + (1 + 11) + rm.locals ≤ R.locals) : CallW R s args RX2 RX0 134 yX0_turn cX0_turn 1 none (.code yX0_turn cX0_turn 1 none :: tb) rm mc ms 0 :=
  sCw Cx 0 w_1524 w_1326 w_1327 w_212 w_1328 (by decide +kernel) h1 h2 h3
theorem c_X2_95 (Cx : sC G p m c cc nL s args RX2) {rm : Room} {mc ms : Nat} (h1 : rm.cells = mc) (h2 : rm.slots = ms) (h3 : rm.frames + 1 ≤ R.frames ∧ 8 + (3 + 11) + rm.locals ≤ R.locals) : CallW R s args RX2 RX2 95 yX2_sign cX2_sign 3 (some .int) (.code yX2_sign cX2_sign 3 (some .int) :: tb) rm mc ms 2 :=
  sCw Cx 2 w_1202 w_1203 w_1204 w_213 w_1205 (by decide +kernel) h1 h2 h3
theorem p_X2_70 (Cx : sC G p m c cc nL s args RX2) (hW : sW G n S H) (hL : sL G locs) {k : Nat} (hk : k < n) (ht : tau k = .inl 2) {v : Int} (hv : v = 0 ∨ v = 1) (hdg : decode cc pc = .ok (.putfield 70, 3)) (kk : ∀ (H1 : Heap) (locs1 : List Loc), sW G n (uF S k 16 v) H1 → sL G locs1 → W p l e R s m args below meth c H1 locs1 cells slots Q (F0 m (pc + 3) ls rest)) : W p l e R s m args below meth c H locs cells slots Q (F0 m pc ls (.int (iv v) :: .ref (G.2.2.1 + k) :: rest)) :=
  sPut Cx inX2 tyX2 tyX2_ok nmX2 rfl 16 (by decide) w_472 rfl hW hL hk ht (by rcases hv with rfl | rfl <;> rfl) (by rcases hv with rfl | rfl <;> rfl) (fun _ h => uF_same h) (fun _ h => uF_off h) (congrArg (fun z => Value.int (iv z)) uF_on) hdg kk
theorem p_X2_67 (Cx : sC G p m c cc nL s args RX2) (hW : sW G n S H) (hL : sL G locs) {k : Nat} (hk : k < n) (ht : tau k = .inl 2) {v : Int} (hdg : decode cc pc = .ok (.putfield 67, 3)) (kk : ∀ (H1 : Heap) (locs1 : List Loc), sW G n (uF S k 15 v) H1 → sL G locs1 → W p l e R s m args below meth c H1 locs1 cells slots Q (F0 m (pc + 3) ls rest)) : W p l e R s m args below meth c H locs cells slots Q (F0 m pc ls (.int (iv v) :: .ref (G.2.2.1 + k) :: rest)) :=
  sPut Cx inX2 tyX2 tyX2_ok nmX2 rfl 15 (by decide) w_471 rfl hW hL hk ht rfl rfl (fun _ h => uF_same h) (fun _ h => uF_off h) (congrArg (fun z => Value.int (iv z)) uF_on) hdg kk
theorem c_X2_81 (Cx : sC G p m c cc nL s args RX2) {rm : Room} {mc ms : Nat} (h1 : rm.cells = mc) (h2 : rm.slots = ms) (h3 : rm.frames + 1 ≤ R.frames ∧ 8 + (8 + 11) + rm.locals ≤ R.locals) : CallB R s args RX2 81 yX0_store cX0_store 8 none (.code yX0_store cX0_store 8 none :: tb) rm mc ms 3 ∧ (Cond.static yX0_store).before args s = true :=
  sCS Cx 3 w_1196 w_1182 w_212 w_1183 (by decide +kernel) h1 h2 h3
theorem g_X2_56 (Cx : sC G p m c cc nL s args RX2) (hW : sW G n S H) {k : Nat} (hk : k < n) (ht : tau k = .inl 3) {v : Int} (hv : S.1 k 2 = v) (hdg : decode cc pc = .ok (.getfield 56, 3)) (kk : W p l e R s m args below meth c H locs cells slots Q (F0 m (pc + 3) ls (.int (iv v) :: rest))) : W p l e R s m args below meth c H locs cells slots Q (F0 m pc ls (.ref (G.2.2.1 + k) :: rest)) :=
  sGetN Cx inX3 rfl 2 (by decide) w_265 hW hk ht (congrArg (fun z => Value.int (iv z)) hv) hdg kk
theorem p_X2_62 (Cx : sC G p m c cc nL s args RX2) (hW : sW G n S H) (hL : sL G locs) {k : Nat} (hk : k < n) (ht : tau k = .inl 2) {v : Int} (hdg : decode cc pc = .ok (.putfield 62, 3)) (kk : ∀ (H1 : Heap) (locs1 : List Loc), sW G n (uF S k 13 v) H1 → sL G locs1 → W p l e R s m args below meth c H1 locs1 cells slots Q (F0 m (pc + 3) ls rest)) : W p l e R s m args below meth c H locs cells slots Q (F0 m pc ls (.int (iv v) :: .ref (G.2.2.1 + k) :: rest)) :=
  sPut Cx inX2 tyX2 tyX2_ok nmX2 rfl 13 (by decide) w_469 rfl hW hL hk ht rfl rfl (fun _ h => uF_same h) (fun _ h => uF_off h) (congrArg (fun z => Value.int (iv z)) uF_on) hdg kk
theorem g_X2_63 (Cx : sC G p m c cc nL s args RX2) (hW : sW G n S H) {k : Nat} (hk : k < n) (ht : tau k = .inl 3) {v : Int} (hv : S.1 k 3 = v) (hdg : decode cc pc = .ok (.getfield 63, 3)) (kk : W p l e R s m args below meth c H locs cells slots Q (F0 m (pc + 3) ls (.int (iv v) :: rest))) : W p l e R s m args below meth c H locs cells slots Q (F0 m pc ls (.ref (G.2.2.1 + k) :: rest)) :=
  sGetN Cx inX3 rfl 3 (by decide) w_273 hW hk ht (congrArg (fun z => Value.int (iv z)) hv) hdg kk
theorem p_X2_66 (Cx : sC G p m c cc nL s args RX2) (hW : sW G n S H) (hL : sL G locs) {k : Nat} (hk : k < n) (ht : tau k = .inl 2) {v : Int} (hdg : decode cc pc = .ok (.putfield 66, 3)) (kk : ∀ (H1 : Heap) (locs1 : List Loc), sW G n (uF S k 14 v) H1 → sL G locs1 → W p l e R s m args below meth c H1 locs1 cells slots Q (F0 m (pc + 3) ls rest)) : W p l e R s m args below meth c H locs cells slots Q (F0 m pc ls (.int (iv v) :: .ref (G.2.2.1 + k) :: rest)) :=
  sPut Cx inX2 tyX2 tyX2_ok nmX2 rfl 14 (by decide) w_470 rfl hW hL hk ht rfl rfl (fun _ h => uF_same h) (fun _ h => uF_off h) (congrArg (fun z => Value.int (iv z)) uF_on) hdg kk
theorem g_X2_62 (Cx : sC G p m c cc nL s args RX2) (hW : sW G n S H) {k : Nat} (hk : k < n) (ht : tau k = .inl 2) {v : Int} (hv : S.1 k 13 = v) (hdg : decode cc pc = .ok (.getfield 62, 3)) (kk : W p l e R s m args below meth c H locs cells slots Q (F0 m (pc + 3) ls (.int (iv v) :: rest))) : W p l e R s m args below meth c H locs cells slots Q (F0 m pc ls (.ref (G.2.2.1 + k) :: rest)) :=
  sGet Cx inX2 rfl 13 (by decide) w_469 hW hk ht (congrArg (fun z => Value.int (iv z)) hv) hdg kk
theorem p_X2_74 (Cx : sC G p m c cc nL s args RX2) (hW : sW G n S H) (hL : sL G locs) {k : Nat} (hk : k < n) (ht : tau k = .inl 2) {v : Int} (hdg : decode cc pc = .ok (.putfield 74, 3)) (kk : ∀ (H1 : Heap) (locs1 : List Loc), sW G n (uF S k 19 v) H1 → sL G locs1 → W p l e R s m args below meth c H1 locs1 cells slots Q (F0 m (pc + 3) ls rest)) : W p l e R s m args below meth c H locs cells slots Q (F0 m pc ls (.int (iv v) :: .ref (G.2.2.1 + k) :: rest)) :=
  sPut Cx inX2 tyX2 tyX2_ok nmX2 rfl 19 (by decide) w_475 rfl hW hL hk ht rfl rfl (fun _ h => uF_same h) (fun _ h => uF_off h) (congrArg (fun z => Value.int (iv z)) uF_on) hdg kk
theorem c_X2_88 (Cx : sC G p m c cc nL s args RX2) {rm : Room} {mc ms : Nat} (h1 : rm.cells = mc) (h2 : rm.slots = ms) (h3 : rm.frames + 1 ≤ R.frames ∧ 8 + (2 + 11) + rm.locals ≤ R.locals) : CallW R s args RX2 RX2 88 yX2_needsHelper cX2_needsHelper 2 (some .boolean) (.code yX2_needsHelper cX2_needsHelper 2 (some .boolean) :: tb) rm mc ms 0 :=
  sCw Cx 0 w_1198 w_1200 w_42 w_213 w_1201 (by decide +kernel) h1 h2 h3
theorem c_X2_92 (Cx : sC G p m c cc nL s args RX2) {rm : Room} {mc ms : Nat} (h1 : rm.cells = mc) (h2 : rm.slots = ms) (h3 : rm.frames + 1 ≤ R.frames ∧ 8 + (2 + 11) + rm.locals ≤ R.locals) : CallW R s args RX2 RX2 92 yX2_addHelper cX2_addHelper 2 none (.code yX2_addHelper cX2_addHelper 2 none :: tb) rm mc ms 0 :=
  sCw Cx 0 w_1207 w_1209 w_43 w_213 w_1210 (by decide +kernel) h1 h2 h3
theorem c_X2_85 (Cx : sC G p m c cc nL s args RX2) {rm : Room} {mc ms : Nat} (h1 : rm.cells = mc) (h2 : rm.slots = ms) (h3 : rm.frames + 1 ≤ R.frames ∧ 8 + (3 + 11) + rm.locals ≤ R.locals) : CallW R s args RX2 RX3 85 yX3_number cX3_number 3 (some .int) (.code yX3_number cX3_number 3 (some .int) :: tb) rm mc ms 2 :=
  sCw Cx 2 w_1197 w_1165 w_1166 w_207 w_1167 (by decide +kernel) h1 h2 h3
end RW31
