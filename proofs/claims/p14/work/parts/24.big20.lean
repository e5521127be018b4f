theorem dX0_add_0 : decode cX0_add 0 = .ok (.iload_n 2, 1) := by decide +kernel
theorem dX0_add_1 : decode cX0_add 1 = .ok (.aload_n 1, 1) := by decide +kernel
theorem dX0_add_2 : decode cX0_add 2 = .ok (.getfield 34, 3) := by decide +kernel
theorem dX0_add_5 : decode cX0_add 5 = .ok (.imul, 1) := by decide +kernel
theorem dX0_add_6 : decode cX0_add 6 = .ok (.istore_n 3, 1) := by decide +kernel
theorem dX0_add_7 : decode cX0_add 7 = .ok (.iload_n 3, 1) := by decide +kernel
theorem dX0_add_8 : decode cX0_add 8 = .ok (.ifCond .ne 4, 3) := by decide +kernel
theorem dX0_add_11 : decode cX0_add 11 = .ok (.return_, 1) := by decide +kernel
theorem dX0_add_12 : decode cX0_add 12 = .ok (.aload_n 0, 1) := by decide +kernel
theorem dX0_add_13 : decode cX0_add 13 = .ok (.getfield 34, 3) := by decide +kernel
theorem dX0_add_16 : decode cX0_add 16 = .ok (.ifCond .ne 16, 3) := by decide +kernel
theorem dX0_add_19 : decode cX0_add 19 = .ok (.aload_n 0, 1) := by decide +kernel
theorem dX0_add_20 : decode cX0_add 20 = .ok (.aload_n 1, 1) := by decide +kernel
theorem dX0_add_21 : decode cX0_add 21 = .ok (.invokevirtual 72, 3) := by decide +kernel
theorem dX0_add_24 : decode cX0_add 24 = .ok (.aload_n 0, 1) := by decide +kernel
theorem dX0_add_25 : decode cX0_add 25 = .ok (.iload_n 3, 1) := by decide +kernel
theorem dX0_add_26 : decode cX0_add 26 = .ok (.putfield 34, 3) := by decide +kernel
theorem dX0_add_29 : decode cX0_add 29 = .ok (.goto 55, 3) := by decide +kernel
theorem dX0_add_32 : decode cX0_add 32 = .ok (.aload_n 0, 1) := by decide +kernel
theorem dX0_add_33 : decode cX0_add 33 = .ok (.getfield 34, 3) := by decide +kernel
theorem dX0_add_36 : decode cX0_add 36 = .ok (.iload_n 3, 1) := by decide +kernel
theorem dX0_add_37 : decode cX0_add 37 = .ok (.if_icmp .ne 11, 3) := by decide +kernel
theorem dX0_add_40 : decode cX0_add 40 = .ok (.aload_n 0, 1) := by decide +kernel
theorem dX0_add_41 : decode cX0_add 41 = .ok (.aload_n 1, 1) := by decide +kernel
theorem dX0_add_42 : decode cX0_add 42 = .ok (.invokevirtual 76, 3) := by decide +kernel
theorem dX0_add_45 : decode cX0_add 45 = .ok (.goto 39, 3) := by decide +kernel
theorem dX0_add_48 : decode cX0_add 48 = .ok (.aload_n 0, 1) := by decide +kernel
theorem dX0_add_49 : decode cX0_add 49 = .ok (.aload_n 1, 1) := by decide +kernel
theorem dX0_add_50 : decode cX0_add 50 = .ok (.invokevirtual 79, 3) := by decide +kernel
theorem dX0_add_53 : decode cX0_add 53 = .ok (.istore 4, 2) := by decide +kernel
theorem dX0_add_55 : decode cX0_add 55 = .ok (.iload 4, 2) := by decide +kernel
theorem dX0_add_57 : decode cX0_add 57 = .ok (.ifCond .lt 12, 3) := by decide +kernel
theorem dX0_add_60 : decode cX0_add 60 = .ok (.aload_n 0, 1) := by decide +kernel
theorem dX0_add_61 : decode cX0_add 61 = .ok (.aload_n 0, 1) := by decide +kernel
theorem dX0_add_62 : decode cX0_add 62 = .ok (.aload_n 1, 1) := by decide +kernel
theorem dX0_add_63 : decode cX0_add 63 = .ok (.invokevirtual 83, 3) := by decide +kernel
theorem dX0_add_66 : decode cX0_add 66 = .ok (.goto 14, 3) := by decide +kernel
theorem dX0_add_69 : decode cX0_add 69 = .ok (.aload_n 0, 1) := by decide +kernel
theorem dX0_add_70 : decode cX0_add 70 = .ok (.aload_n 1, 1) := by decide +kernel
theorem dX0_add_71 : decode cX0_add 71 = .ok (.aload_n 0, 1) := by decide +kernel
theorem dX0_add_72 : decode cX0_add 72 = .ok (.invokevirtual 83, 3) := by decide +kernel
theorem dX0_add_75 : decode cX0_add 75 = .ok (.aload_n 0, 1) := by decide +kernel
theorem dX0_add_76 : decode cX0_add 76 = .ok (.iload_n 3, 1) := by decide +kernel
theorem dX0_add_77 : decode cX0_add 77 = .ok (.putfield 34, 3) := by decide +kernel
theorem dX0_add_80 : decode cX0_add 80 = .ok (.aload_n 0, 1) := by decide +kernel
theorem dX0_add_81 : decode cX0_add 81 = .ok (.invokevirtual 59, 3) := by decide +kernel
theorem dX0_add_84 : decode cX0_add 84 = .ok (.return_, 1) := by decide +kernel
theorem dX0_addSize_0 : decode cX0_addSize 0 = .ok (.aload_n 0, 1) := by decide +kernel
theorem dX0_addSize_1 : decode cX0_addSize 1 = .ok (.getfield 24, 3) := by decide +kernel
theorem dX0_addSize_4 : decode cX0_addSize 4 = .ok (.aload_n 1, 1) := by decide +kernel
theorem dX0_addSize_5 : decode cX0_addSize 5 = .ok (.getfield 24, 3) := by decide +kernel
theorem dX0_addSize_8 : decode cX0_addSize 8 = .ok (.invokestatic 51, 3) := by decide +kernel
theorem dX0_addSize_11 : decode cX0_addSize 11 = .ok (.istore_n 2, 1) := by decide +kernel
theorem dX0_addSize_12 : decode cX0_addSize 12 = .ok (.iconst 0, 1) := by decide +kernel
theorem dX0_addSize_13 : decode cX0_addSize 13 = .ok (.istore_n 3, 1) := by decide +kernel
theorem dX0_addSize_14 : decode cX0_addSize 14 = .ok (.iconst 0, 1) := by decide +kernel
theorem dX0_addSize_15 : decode cX0_addSize 15 = .ok (.istore 4, 2) := by decide +kernel
theorem dX0_addSize_17 : decode cX0_addSize 17 = .ok (.iload 4, 2) := by decide +kernel
theorem dX0_addSize_19 : decode cX0_addSize 19 = .ok (.iload_n 2, 1) := by decide +kernel
theorem dX0_addSize_20 : decode cX0_addSize 20 = .ok (.if_icmp .ge 81, 3) := by decide +kernel
theorem dX0_addSize_23 : decode cX0_addSize 23 = .ok (.iload_n 3, 1) := by decide +kernel
theorem dX0_addSize_24 : decode cX0_addSize 24 = .ok (.iload 4, 2) := by decide +kernel
theorem dX0_addSize_26 : decode cX0_addSize 26 = .ok (.aload_n 0, 1) := by decide +kernel
theorem dX0_addSize_27 : decode cX0_addSize 27 = .ok (.getfield 24, 3) := by decide +kernel
theorem dX0_addSize_30 : decode cX0_addSize 30 = .ok (.if_icmp .ge 13, 3) := by decide +kernel
theorem dX0_addSize_33 : decode cX0_addSize 33 = .ok (.aload_n 0, 1) := by decide +kernel
theorem dX0_addSize_34 : decode cX0_addSize 34 = .ok (.getfield 9, 3) := by decide +kernel
theorem dX0_addSize_37 : decode cX0_addSize 37 = .ok (.iload 4, 2) := by decide +kernel
theorem dX0_addSize_39 : decode cX0_addSize 39 = .ok (.iaload, 1) := by decide +kernel
theorem dX0_addSize_40 : decode cX0_addSize 40 = .ok (.goto 4, 3) := by decide +kernel
theorem dX0_addSize_43 : decode cX0_addSize 43 = .ok (.iconst 0, 1) := by decide +kernel
theorem dX0_addSize_44 : decode cX0_addSize 44 = .ok (.iadd, 1) := by decide +kernel
theorem dX0_addSize_45 : decode cX0_addSize 45 = .ok (.iload 4, 2) := by decide +kernel
theorem dX0_addSize_47 : decode cX0_addSize 47 = .ok (.aload_n 1, 1) := by decide +kernel
theorem dX0_addSize_48 : decode cX0_addSize 48 = .ok (.getfield 24, 3) := by decide +kernel
theorem dX0_addSize_51 : decode cX0_addSize 51 = .ok (.if_icmp .ge 13, 3) := by decide +kernel
theorem dX0_addSize_54 : decode cX0_addSize 54 = .ok (.aload_n 1, 1) := by decide +kernel
theorem dX0_addSize_55 : decode cX0_addSize 55 = .ok (.getfield 9, 3) := by decide +kernel
theorem dX0_addSize_58 : decode cX0_addSize 58 = .ok (.iload 4, 2) := by decide +kernel
theorem dX0_addSize_60 : decode cX0_addSize 60 = .ok (.iaload, 1) := by decide +kernel
theorem dX0_addSize_61 : decode cX0_addSize 61 = .ok (.goto 4, 3) := by decide +kernel
theorem dX0_addSize_64 : decode cX0_addSize 64 = .ok (.iconst 0, 1) := by decide +kernel
theorem dX0_addSize_65 : decode cX0_addSize 65 = .ok (.iadd, 1) := by decide +kernel
theorem dX0_addSize_66 : decode cX0_addSize 66 = .ok (.istore 5, 2) := by decide +kernel
theorem dX0_addSize_68 : decode cX0_addSize 68 = .ok (.iload 5, 2) := by decide +kernel
theorem dX0_addSize_70 : decode cX0_addSize 70 = .ok (.ldc 87, 2) := by decide +kernel
theorem dX0_addSize_72 : decode cX0_addSize 72 = .ok (.if_icmp .lt 7, 3) := by decide +kernel
theorem dX0_addSize_75 : decode cX0_addSize 75 = .ok (.iconst 1, 1) := by decide +kernel
theorem dX0_addSize_76 : decode cX0_addSize 76 = .ok (.goto 4, 3) := by decide +kernel
theorem dX0_addSize_79 : decode cX0_addSize 79 = .ok (.iconst 0, 1) := by decide +kernel
theorem dX0_addSize_80 : decode cX0_addSize 80 = .ok (.istore_n 3, 1) := by decide +kernel
theorem dX0_addSize_81 : decode cX0_addSize 81 = .ok (.aload_n 0, 1) := by decide +kernel
theorem dX0_addSize_82 : decode cX0_addSize 82 = .ok (.getfield 9, 3) := by decide +kernel
theorem dX0_addSize_85 : decode cX0_addSize 85 = .ok (.iload 4, 2) := by decide +kernel
theorem dX0_addSize_87 : decode cX0_addSize 87 = .ok (.iload 5, 2) := by decide +kernel
theorem dX0_addSize_89 : decode cX0_addSize 89 = .ok (.iload_n 3, 1) := by decide +kernel
theorem dX0_addSize_90 : decode cX0_addSize 90 = .ok (.ldc 87, 2) := by decide +kernel
theorem dX0_addSize_92 : decode cX0_addSize 92 = .ok (.imul, 1) := by decide +kernel
theorem dX0_addSize_93 : decode cX0_addSize 93 = .ok (.isub, 1) := by decide +kernel
theorem dX0_addSize_94 : decode cX0_addSize 94 = .ok (.iastore, 1) := by decide +kernel
theorem dX0_addSize_95 : decode cX0_addSize 95 = .ok (.iinc 4 1, 3) := by decide +kernel
theorem dX0_addSize_98 : decode cX0_addSize 98 = .ok (.goto (-81), 3) := by decide +kernel
theorem dX0_addSize_101 : decode cX0_addSize 101 = .ok (.iload_n 3, 1) := by decide +kernel
theorem dX0_addSize_102 : decode cX0_addSize 102 = .ok (.ifCond .le 19, 3) := by decide +kernel
theorem dX0_addSize_105 : decode cX0_addSize 105 = .ok (.iload_n 2, 1) := by decide +kernel
theorem dX0_addSize_106 : decode cX0_addSize 106 = .ok (.bipush 32, 2) := by decide +kernel
theorem dX0_addSize_108 : decode cX0_addSize 108 = .ok (.if_icmp .ge 13, 3) := by decide +kernel
theorem dX0_addSize_111 : decode cX0_addSize 111 = .ok (.aload_n 0, 1) := by decide +kernel
theorem dX0_addSize_112 : decode cX0_addSize 112 = .ok (.getfield 9, 3) := by decide +kernel
theorem dX0_addSize_115 : decode cX0_addSize 115 = .ok (.iload_n 2, 1) := by decide +kernel
theorem dX0_addSize_116 : decode cX0_addSize 116 = .ok (.iload_n 3, 1) := by decide +kernel
theorem dX0_addSize_117 : decode cX0_addSize 117 = .ok (.iastore, 1) := by decide +kernel
theorem dX0_addSize_118 : decode cX0_addSize 118 = .ok (.iinc 2 1, 3) := by decide +kernel
theorem dX0_addSize_121 : decode cX0_addSize 121 = .ok (.aload_n 0, 1) := by decide +kernel
theorem dX0_addSize_122 : decode cX0_addSize 122 = .ok (.iload_n 2, 1) := by decide +kernel
theorem dX0_addSize_123 : decode cX0_addSize 123 = .ok (.putfield 24, 3) := by decide +kernel
theorem dX0_addSize_126 : decode cX0_addSize 126 = .ok (.return_, 1) := by decide +kernel
theorem dX0_compareSize_0 : decode cX0_compareSize 0 = .ok (.aload_n 0, 1) := by decide +kernel
theorem dX0_compareSize_1 : decode cX0_compareSize 1 = .ok (.getfield 24, 3) := by decide +kernel
theorem dX0_compareSize_4 : decode cX0_compareSize 4 = .ok (.aload_n 1, 1) := by decide +kernel
theorem dX0_compareSize_5 : decode cX0_compareSize 5 = .ok (.getfield 24, 3) := by decide +kernel
theorem dX0_compareSize_8 : decode cX0_compareSize 8 = .ok (.if_icmp .eq 15, 3) := by decide +kernel
theorem dX0_compareSize_11 : decode cX0_compareSize 11 = .ok (.aload_n 0, 1) := by decide +kernel
theorem dX0_compareSize_12 : decode cX0_compareSize 12 = .ok (.getfield 24, 3) := by decide +kernel
theorem dX0_compareSize_15 : decode cX0_compareSize 15 = .ok (.aload_n 1, 1) := by decide +kernel
theorem dX0_compareSize_16 : decode cX0_compareSize 16 = .ok (.getfield 24, 3) := by decide +kernel
theorem dX0_compareSize_19 : decode cX0_compareSize 19 = .ok (.invokestatic 88, 3) := by decide +kernel
theorem dX0_compareSize_22 : decode cX0_compareSize 22 = .ok (.ireturn, 1) := by decide +kernel
theorem dX0_compareSize_23 : decode cX0_compareSize 23 = .ok (.aload_n 0, 1) := by decide +kernel
theorem dX0_compareSize_24 : decode cX0_compareSize 24 = .ok (.getfield 24, 3) := by decide +kernel
theorem dX0_compareSize_27 : decode cX0_compareSize 27 = .ok (.iconst 1, 1) := by decide +kernel
theorem dX0_compareSize_28 : decode cX0_compareSize 28 = .ok (.isub, 1) := by decide +kernel
theorem dX0_compareSize_29 : decode cX0_compareSize 29 = .ok (.istore_n 2, 1) := by decide +kernel
theorem dX0_compareSize_30 : decode cX0_compareSize 30 = .ok (.iload_n 2, 1) := by decide +kernel
theorem dX0_compareSize_31 : decode cX0_compareSize 31 = .ok (.ifCond .lt 40, 3) := by decide +kernel
theorem dX0_compareSize_34 : decode cX0_compareSize 34 = .ok (.aload_n 0, 1) := by decide +kernel
theorem dX0_compareSize_35 : decode cX0_compareSize 35 = .ok (.getfield 9, 3) := by decide +kernel
theorem dX0_compareSize_38 : decode cX0_compareSize 38 = .ok (.iload_n 2, 1) := by decide +kernel
theorem dX0_compareSize_39 : decode cX0_compareSize 39 = .ok (.iaload, 1) := by decide +kernel
theorem dX0_compareSize_40 : decode cX0_compareSize 40 = .ok (.aload_n 1, 1) := by decide +kernel
theorem dX0_compareSize_41 : decode cX0_compareSize 41 = .ok (.getfield 9, 3) := by decide +kernel
theorem dX0_compareSize_44 : decode cX0_compareSize 44 = .ok (.iload_n 2, 1) := by decide +kernel
theorem dX0_compareSize_45 : decode cX0_compareSize 45 = .ok (.iaload, 1) := by decide +kernel
theorem dX0_compareSize_46 : decode cX0_compareSize 46 = .ok (.if_icmp .eq 19, 3) := by decide +kernel
theorem dX0_compareSize_49 : decode cX0_compareSize 49 = .ok (.aload_n 0, 1) := by decide +kernel
theorem dX0_compareSize_50 : decode cX0_compareSize 50 = .ok (.getfield 9, 3) := by decide +kernel
theorem dX0_compareSize_53 : decode cX0_compareSize 53 = .ok (.iload_n 2, 1) := by decide +kernel
theorem dX0_compareSize_54 : decode cX0_compareSize 54 = .ok (.iaload, 1) := by decide +kernel
theorem dX0_compareSize_55 : decode cX0_compareSize 55 = .ok (.aload_n 1, 1) := by decide +kernel
theorem dX0_compareSize_56 : decode cX0_compareSize 56 = .ok (.getfield 9, 3) := by decide +kernel
theorem dX0_compareSize_59 : decode cX0_compareSize 59 = .ok (.iload_n 2, 1) := by decide +kernel
theorem dX0_compareSize_60 : decode cX0_compareSize 60 = .ok (.iaload, 1) := by decide +kernel
theorem dX0_compareSize_61 : decode cX0_compareSize 61 = .ok (.invokestatic 88, 3) := by decide +kernel
theorem dX0_compareSize_64 : decode cX0_compareSize 64 = .ok (.ireturn, 1) := by decide +kernel
theorem dX0_compareSize_65 : decode cX0_compareSize 65 = .ok (.iinc 2 (-1), 3) := by decide +kernel
theorem dX0_compareSize_68 : decode cX0_compareSize 68 = .ok (.goto (-38), 3) := by decide +kernel
theorem dX0_compareSize_71 : decode cX0_compareSize 71 = .ok (.iconst 0, 1) := by decide +kernel
theorem dX0_compareSize_72 : decode cX0_compareSize 72 = .ok (.ireturn, 1) := by decide +kernel
theorem dX0_compareWith_0 : decode cX0_compareWith 0 = .ok (.aload_n 0, 1) := by decide +kernel
theorem dX0_compareWith_1 : decode cX0_compareWith 1 = .ok (.getfield 34, 3) := by decide +kernel
theorem dX0_compareWith_4 : decode cX0_compareWith 4 = .ok (.aload_n 1, 1) := by decide +kernel
theorem dX0_compareWith_5 : decode cX0_compareWith 5 = .ok (.getfield 34, 3) := by decide +kernel
theorem dX0_compareWith_8 : decode cX0_compareWith 8 = .ok (.if_icmp .eq 15, 3) := by decide +kernel
theorem dX0_compareWith_11 : decode cX0_compareWith 11 = .ok (.aload_n 0, 1) := by decide +kernel
theorem dX0_compareWith_12 : decode cX0_compareWith 12 = .ok (.getfield 34, 3) := by decide +kernel
theorem dX0_compareWith_15 : decode cX0_compareWith 15 = .ok (.aload_n 1, 1) := by decide +kernel
theorem dX0_compareWith_16 : decode cX0_compareWith 16 = .ok (.getfield 34, 3) := by decide +kernel
theorem dX0_compareWith_19 : decode cX0_compareWith 19 = .ok (.invokestatic 88, 3) := by decide +kernel
theorem dX0_compareWith_22 : decode cX0_compareWith 22 = .ok (.ireturn, 1) := by decide +kernel
theorem dX0_compareWith_23 : decode cX0_compareWith 23 = .ok (.aload_n 0, 1) := by decide +kernel
theorem dX0_compareWith_24 : decode cX0_compareWith 24 = .ok (.getfield 34, 3) := by decide +kernel
theorem dX0_compareWith_27 : decode cX0_compareWith 27 = .ok (.aload_n 0, 1) := by decide +kernel
theorem dX0_compareWith_28 : decode cX0_compareWith 28 = .ok (.aload_n 1, 1) := by decide +kernel
theorem dX0_compareWith_29 : decode cX0_compareWith 29 = .ok (.invokevirtual 79, 3) := by decide +kernel
theorem dX0_compareWith_32 : decode cX0_compareWith 32 = .ok (.imul, 1) := by decide +kernel
theorem dX0_compareWith_33 : decode cX0_compareWith 33 = .ok (.ireturn, 1) := by decide +kernel
theorem dX0_digitCount_0 : decode cX0_digitCount 0 = .ok (.aload_n 0, 1) := by decide +kernel
theorem dX0_digitCount_1 : decode cX0_digitCount 1 = .ok (.getfield 24, 3) := by decide +kernel
theorem dX0_digitCount_4 : decode cX0_digitCount 4 = .ok (.ifCond .ne 5, 3) := by decide +kernel
theorem dX0_digitCount_7 : decode cX0_digitCount 7 = .ok (.iconst 1, 1) := by decide +kernel
theorem dX0_digitCount_8 : decode cX0_digitCount 8 = .ok (.ireturn, 1) := by decide +kernel
theorem dX0_digitCount_9 : decode cX0_digitCount 9 = .ok (.bipush 9, 2) := by decide +kernel
theorem dX0_digitCount_11 : decode cX0_digitCount 11 = .ok (.aload_n 0, 1) := by decide +kernel
theorem dX0_digitCount_12 : decode cX0_digitCount 12 = .ok (.getfield 24, 3) := by decide +kernel
theorem dX0_digitCount_15 : decode cX0_digitCount 15 = .ok (.iconst 1, 1) := by decide +kernel
theorem dX0_digitCount_16 : decode cX0_digitCount 16 = .ok (.isub, 1) := by decide +kernel
theorem dX0_digitCount_17 : decode cX0_digitCount 17 = .ok (.imul, 1) := by decide +kernel
theorem dX0_digitCount_18 : decode cX0_digitCount 18 = .ok (.istore_n 1, 1) := by decide +kernel
theorem dX0_digitCount_19 : decode cX0_digitCount 19 = .ok (.aload_n 0, 1) := by decide +kernel
theorem dX0_digitCount_20 : decode cX0_digitCount 20 = .ok (.getfield 9, 3) := by decide +kernel
theorem dX0_digitCount_23 : decode cX0_digitCount 23 = .ok (.aload_n 0, 1) := by decide +kernel
theorem dX0_digitCount_24 : decode cX0_digitCount 24 = .ok (.getfield 24, 3) := by decide +kernel
theorem dX0_digitCount_27 : decode cX0_digitCount 27 = .ok (.iconst 1, 1) := by decide +kernel
theorem dX0_digitCount_28 : decode cX0_digitCount 28 = .ok (.isub, 1) := by decide +kernel
theorem dX0_digitCount_29 : decode cX0_digitCount 29 = .ok (.iaload, 1) := by decide +kernel
theorem dX0_digitCount_30 : decode cX0_digitCount 30 = .ok (.istore_n 2, 1) := by decide +kernel
theorem dX0_digitCount_31 : decode cX0_digitCount 31 = .ok (.iload_n 2, 1) := by decide +kernel
theorem dX0_digitCount_32 : decode cX0_digitCount 32 = .ok (.ifCond .le 14, 3) := by decide +kernel
theorem dX0_digitCount_35 : decode cX0_digitCount 35 = .ok (.iinc 1 1, 3) := by decide +kernel
theorem dX0_digitCount_38 : decode cX0_digitCount 38 = .ok (.iload_n 2, 1) := by decide +kernel
theorem dX0_digitCount_39 : decode cX0_digitCount 39 = .ok (.bipush 10, 2) := by decide +kernel
theorem dX0_digitCount_41 : decode cX0_digitCount 41 = .ok (.idiv, 1) := by decide +kernel
theorem dX0_digitCount_42 : decode cX0_digitCount 42 = .ok (.istore_n 2, 1) := by decide +kernel
theorem dX0_digitCount_43 : decode cX0_digitCount 43 = .ok (.goto (-12), 3) := by decide +kernel
theorem dX0_digitCount_46 : decode cX0_digitCount 46 = .ok (.iload_n 1, 1) := by decide +kernel
theorem dX0_digitCount_47 : decode cX0_digitCount 47 = .ok (.ireturn, 1) := by decide +kernel
theorem dX0_lowBits_0 : decode cX0_lowBits 0 = .ok (.lconst 0, 1) := by decide +kernel
theorem dX0_lowBits_1 : decode cX0_lowBits 1 = .ok (.lstore_n 1, 1) := by decide +kernel
theorem dX0_lowBits_2 : decode cX0_lowBits 2 = .ok (.aload_n 0, 1) := by decide +kernel
theorem dX0_lowBits_3 : decode cX0_lowBits 3 = .ok (.getfield 24, 3) := by decide +kernel
theorem dX0_lowBits_6 : decode cX0_lowBits 6 = .ok (.iconst 1, 1) := by decide +kernel
theorem dX0_lowBits_7 : decode cX0_lowBits 7 = .ok (.isub, 1) := by decide +kernel
theorem dX0_lowBits_8 : decode cX0_lowBits 8 = .ok (.istore_n 3, 1) := by decide +kernel
theorem dX0_lowBits_9 : decode cX0_lowBits 9 = .ok (.iload_n 3, 1) := by decide +kernel
theorem dX0_lowBits_10 : decode cX0_lowBits 10 = .ok (.ifCond .lt 23, 3) := by decide +kernel
theorem dX0_lowBits_13 : decode cX0_lowBits 13 = .ok (.lload_n 1, 1) := by decide +kernel
theorem dX0_lowBits_14 : decode cX0_lowBits 14 = .ok (.ldc2_w 19, 3) := by decide +kernel
theorem dX0_lowBits_17 : decode cX0_lowBits 17 = .ok (.lmul, 1) := by decide +kernel
theorem dX0_lowBits_18 : decode cX0_lowBits 18 = .ok (.aload_n 0, 1) := by decide +kernel
theorem dX0_lowBits_19 : decode cX0_lowBits 19 = .ok (.getfield 9, 3) := by decide +kernel
theorem dX0_lowBits_22 : decode cX0_lowBits 22 = .ok (.iload_n 3, 1) := by decide +kernel
theorem dX0_lowBits_23 : decode cX0_lowBits 23 = .ok (.iaload, 1) := by decide +kernel
theorem dX0_lowBits_24 : decode cX0_lowBits 24 = .ok (.i2l, 1) := by decide +kernel
theorem dX0_lowBits_25 : decode cX0_lowBits 25 = .ok (.ladd, 1) := by decide +kernel
theorem dX0_lowBits_26 : decode cX0_lowBits 26 = .ok (.lstore_n 1, 1) := by decide +kernel
theorem dX0_lowBits_27 : decode cX0_lowBits 27 = .ok (.iinc 3 (-1), 3) := by decide +kernel
theorem dX0_lowBits_30 : decode cX0_lowBits 30 = .ok (.goto (-21), 3) := by decide +kernel
theorem dX0_lowBits_33 : decode cX0_lowBits 33 = .ok (.aload_n 0, 1) := by decide +kernel
theorem dX0_lowBits_34 : decode cX0_lowBits 34 = .ok (.getfield 34, 3) := by decide +kernel
theorem dX0_lowBits_37 : decode cX0_lowBits 37 = .ok (.ifCond .ge 8, 3) := by decide +kernel
theorem dX0_lowBits_40 : decode cX0_lowBits 40 = .ok (.lload_n 1, 1) := by decide +kernel
theorem dX0_lowBits_41 : decode cX0_lowBits 41 = .ok (.lneg, 1) := by decide +kernel
theorem dX0_lowBits_42 : decode cX0_lowBits 42 = .ok (.goto 4, 3) := by decide +kernel
theorem dX0_lowBits_45 : decode cX0_lowBits 45 = .ok (.lload_n 1, 1) := by decide +kernel
theorem dX0_lowBits_46 : decode cX0_lowBits 46 = .ok (.lreturn, 1) := by decide +kernel
theorem dX0_takeSize_0 : decode cX0_takeSize 0 = .ok (.aload_n 1, 1) := by decide +kernel
theorem dX0_takeSize_1 : decode cX0_takeSize 1 = .ok (.getfield 24, 3) := by decide +kernel
theorem dX0_takeSize_4 : decode cX0_takeSize 4 = .ok (.istore_n 3, 1) := by decide +kernel
theorem dX0_takeSize_5 : decode cX0_takeSize 5 = .ok (.aload_n 2, 1) := by decide +kernel
theorem dX0_takeSize_6 : decode cX0_takeSize 6 = .ok (.getfield 24, 3) := by decide +kernel
theorem dX0_takeSize_9 : decode cX0_takeSize 9 = .ok (.istore 4, 2) := by decide +kernel
theorem dX0_takeSize_11 : decode cX0_takeSize 11 = .ok (.iconst 0, 1) := by decide +kernel
theorem dX0_takeSize_12 : decode cX0_takeSize 12 = .ok (.istore 5, 2) := by decide +kernel
theorem dX0_takeSize_14 : decode cX0_takeSize 14 = .ok (.iconst 0, 1) := by decide +kernel
theorem dX0_takeSize_15 : decode cX0_takeSize 15 = .ok (.istore 6, 2) := by decide +kernel
theorem dX0_takeSize_17 : decode cX0_takeSize 17 = .ok (.iload 6, 2) := by decide +kernel
theorem dX0_takeSize_19 : decode cX0_takeSize 19 = .ok (.iload_n 3, 1) := by decide +kernel
theorem dX0_takeSize_20 : decode cX0_takeSize 20 = .ok (.if_icmp .ge 67, 3) := by decide +kernel
theorem dX0_takeSize_23 : decode cX0_takeSize 23 = .ok (.aload_n 1, 1) := by decide +kernel
theorem dX0_takeSize_24 : decode cX0_takeSize 24 = .ok (.getfield 9, 3) := by decide +kernel
theorem dX0_takeSize_27 : decode cX0_takeSize 27 = .ok (.iload 6, 2) := by decide +kernel
theorem dX0_takeSize_29 : decode cX0_takeSize 29 = .ok (.iaload, 1) := by decide +kernel
theorem dX0_takeSize_30 : decode cX0_takeSize 30 = .ok (.iload 5, 2) := by decide +kernel
theorem dX0_takeSize_32 : decode cX0_takeSize 32 = .ok (.isub, 1) := by decide +kernel
theorem dX0_takeSize_33 : decode cX0_takeSize 33 = .ok (.iload 6, 2) := by decide +kernel
theorem dX0_takeSize_35 : decode cX0_takeSize 35 = .ok (.iload 4, 2) := by decide +kernel
theorem dX0_takeSize_37 : decode cX0_takeSize 37 = .ok (.if_icmp .ge 13, 3) := by decide +kernel
theorem dX0_takeSize_40 : decode cX0_takeSize 40 = .ok (.aload_n 2, 1) := by decide +kernel
theorem dX0_takeSize_41 : decode cX0_takeSize 41 = .ok (.getfield 9, 3) := by decide +kernel
theorem dX0_takeSize_44 : decode cX0_takeSize 44 = .ok (.iload 6, 2) := by decide +kernel
theorem dX0_takeSize_46 : decode cX0_takeSize 46 = .ok (.iaload, 1) := by decide +kernel
theorem dX0_takeSize_47 : decode cX0_takeSize 47 = .ok (.goto 4, 3) := by decide +kernel
theorem dX0_takeSize_50 : decode cX0_takeSize 50 = .ok (.iconst 0, 1) := by decide +kernel
theorem dX0_takeSize_51 : decode cX0_takeSize 51 = .ok (.isub, 1) := by decide +kernel
theorem dX0_takeSize_52 : decode cX0_takeSize 52 = .ok (.istore 7, 2) := by decide +kernel
theorem dX0_takeSize_54 : decode cX0_takeSize 54 = .ok (.iload 7, 2) := by decide +kernel
theorem dX0_takeSize_56 : decode cX0_takeSize 56 = .ok (.ifCond .ge 7, 3) := by decide +kernel
theorem dX0_takeSize_59 : decode cX0_takeSize 59 = .ok (.iconst 1, 1) := by decide +kernel
theorem dX0_takeSize_60 : decode cX0_takeSize 60 = .ok (.goto 4, 3) := by decide +kernel
theorem dX0_takeSize_63 : decode cX0_takeSize 63 = .ok (.iconst 0, 1) := by decide +kernel
theorem dX0_takeSize_64 : decode cX0_takeSize 64 = .ok (.istore 5, 2) := by decide +kernel
theorem dX0_takeSize_66 : decode cX0_takeSize 66 = .ok (.aload_n 0, 1) := by decide +kernel
theorem dX0_takeSize_67 : decode cX0_takeSize 67 = .ok (.getfield 9, 3) := by decide +kernel
theorem dX0_takeSize_70 : decode cX0_takeSize 70 = .ok (.iload 6, 2) := by decide +kernel
theorem dX0_takeSize_72 : decode cX0_takeSize 72 = .ok (.iload 7, 2) := by decide +kernel
theorem dX0_takeSize_74 : decode cX0_takeSize 74 = .ok (.iload 5, 2) := by decide +kernel
theorem dX0_takeSize_76 : decode cX0_takeSize 76 = .ok (.ldc 87, 2) := by decide +kernel
theorem dX0_takeSize_78 : decode cX0_takeSize 78 = .ok (.imul, 1) := by decide +kernel
theorem dX0_takeSize_79 : decode cX0_takeSize 79 = .ok (.iadd, 1) := by decide +kernel
theorem dX0_takeSize_80 : decode cX0_takeSize 80 = .ok (.iastore, 1) := by decide +kernel
theorem dX0_takeSize_81 : decode cX0_takeSize 81 = .ok (.iinc 6 1, 3) := by decide +kernel
theorem dX0_takeSize_84 : decode cX0_takeSize 84 = .ok (.goto (-67), 3) := by decide +kernel
theorem dX0_takeSize_87 : decode cX0_takeSize 87 = .ok (.aload_n 0, 1) := by decide +kernel
theorem dX0_takeSize_88 : decode cX0_takeSize 88 = .ok (.iload_n 3, 1) := by decide +kernel
theorem dX0_takeSize_89 : decode cX0_takeSize 89 = .ok (.putfield 24, 3) := by decide +kernel
theorem dX0_takeSize_92 : decode cX0_takeSize 92 = .ok (.return_, 1) := by decide +kernel
theorem w_48 : Cond.selects RX0 yX0_trim yX0_trim ∈ tb := sel_4 (q := (yX0_trim, 3)) 0 (by decide +kernel)
theorem w_49 : Cond.selects RX0 yX0_addSize yX0_addSize ∈ tb := sel_4 (q := (yX0_addSize, 3)) 1 (by decide +kernel)
theorem w_50 : Cond.selects RX0 yX0_compareSize yX0_compareSize ∈ tb := sel_4 (q := (yX0_compareSize, 3)) 2 (by decide +kernel)
theorem w_51 : Cond.selects RX0 yX0_takeSize yX0_takeSize ∈ tb := sel_4 (q := (yX0_takeSize, 3)) 3 (by decide +kernel)
theorem w_212 : Cond.initialized RX0 ∈ tb := tbc_1 9 (by decide +kernel) rfl
theorem w_1275 : Cond.methodLink RX0 59 yX0_trim ∈ tb := tbc_5 112 (by decide +kernel) rfl
theorem w_1277 : Cond.instanceMethod yX0_trim ∈ tb := tbc_5 114 (by decide +kernel) rfl
theorem w_1278 : Cond.code yX0_trim cX0_trim 1 none ∈ tb := tbc_5 115 (by decide +kernel) rfl
theorem w_1283 : Cond.methodLink RX0 72 yX0_copy ∈ tb := tbc_5 120 (by decide +kernel) rfl
theorem w_1284 : Cond.instanceMethod yX0_copy ∈ tb := tbc_5 121 (by decide +kernel) rfl
theorem w_1285 : Cond.selects RX0 yX0_copy yX0_copy ∈ tb := tbc_5 122 (by decide +kernel) rfl
theorem w_1286 : Cond.code yX0_copy cX0_copy 2 none ∈ tb := tbc_5 123 (by decide +kernel) rfl
theorem w_1288 : Cond.methodLink RX0 76 yX0_addSize ∈ tb := tbc_5 125 (by decide +kernel) rfl
theorem w_1290 : Cond.instanceMethod yX0_addSize ∈ tb := tbc_5 127 (by decide +kernel) rfl
theorem w_1291 : Cond.code yX0_addSize cX0_addSize 6 none ∈ tb := tbc_5 128 (by decide +kernel) rfl
theorem w_1292 : Cond.methodLink RX0 51 Lib.Math.max.name ∈ tb := tbc_5 129 (by decide +kernel) rfl
theorem w_1293 : Cond.constant RX0 87 (iv 1000000000) ∈ tb := tbc_5 130 (by decide +kernel) rfl
theorem w_1294 : Cond.methodLink RX0 79 yX0_compareSize ∈ tb := tbc_5 131 (by decide +kernel) rfl
theorem w_1296 : Cond.instanceMethod yX0_compareSize ∈ tb := tbc_5 133 (by decide +kernel) rfl
theorem w_1297 : Cond.code yX0_compareSize cX0_compareSize 3 (some .int) ∈ tb := tbc_5 134 (by decide +kernel) rfl
theorem w_1298 : Cond.methodLink RX0 88 yJ6_compare_7cf53 ∈ tb := tbc_5 135 (by decide +kernel) rfl
theorem w_1299 : Cond.static yJ6_compare_7cf53 ∈ tb := tbc_5 136 (by decide +kernel) rfl
theorem w_1300 : Cond.code yJ6_compare_7cf53 cJ6_compare_7cf53 2 (some .int) ∈ tb := tbc_5 137 (by decide +kernel) rfl
theorem w_1301 : Cond.methodLink RX0 83 yX0_takeSize ∈ tb := tbc_5 138 (by decide +kernel) rfl
theorem w_1303 : Cond.instanceMethod yX0_takeSize ∈ tb := tbc_5 140 (by decide +kernel) rfl
theorem w_1304 : Cond.code yX0_takeSize cX0_takeSize 8 none ∈ tb := tbc_5 141 (by decide +kernel) rfl
section RW24
variable {p : Program} {l : Launch} {e : Env} {R : Room} {s : State} {m : MethodId} {args : Array Value} {below : List Frame} {meth : Method} {c : Code} {H : Heap} {locs : List Loc} {cells slots : Nat} {Q : State → Prop}
variable {cc : ByteArray} {pc nL : Nat} {ls : Array Slot} {rest st0 : List Value} {G : sG} {n : Nat} {S : sS}
theorem c_X0_88 (Cx : sC G p m c cc nL s args RX0) {rm : Room} {mc ms : Nat} (h1 : rm.cells = mc) (h2 : rm.slots = ms) (h3 : rm.frames + 1 ≤ R.frames ∧ 8 + (2 + 11) + rm.locals ≤ R.locals) : CallB R s args RX0 88 yJ6_compare_7cf53 cJ6_compare_7cf53 2 (some .int) (.code yJ6_compare_7cf53 cJ6_compare_7cf53 2 (some .int) :: tb) rm mc ms 2 ∧ (Cond.static yJ6_compare_7cf53).before args s = true :=
  sCS Cx 2 w_1298 w_1299 w_225 w_1300 (by decide +kernel) h1 h2 h3
theorem c_X0_79 (Cx : sC G p m c cc nL s args RX0) {rm : Room} {mc ms : Nat} (h1 : rm.cells = mc) (h2 : rm.slots = ms) (h3 : rm.frames + 1 ≤ R.frames ∧ 8 + (3 + 11) + rm.locals ≤ R.locals) : CallW R s args RX0 RX0 79 yX0_compareSize cX0_compareSize 3 (some .int) (.code yX0_compareSize cX0_compareSize 3 (some .int) :: tb) rm mc ms 1 :=
  sCw Cx 1 w_1294 w_1296 w_50 w_212 w_1297 (by decide +kernel) h1 h2 h3
theorem c_X0_83 (Cx : sC G p m c cc nL s args RX0) {rm : Room} {mc ms : Nat} (h1 : rm.cells = mc) (h2 : rm.slots = ms) (h3 : rm.frames + 1 ≤ R.frames ∧ 8 + (8 + 11) + rm.locals ≤ R.locals) : CallW R s args RX0 RX0 83 yX0_takeSize cX0_takeSize 8 none (.code yX0_takeSize cX0_takeSize 8 none :: tb) rm mc ms 2 :=
  sCw Cx 2 w_1301 w_1303 w_51 w_212 w_1304 (by decide +kernel) h1 h2 h3
theorem c_X0_59 (Cx : sC G p m c cc nL s args RX0) {rm : Room} {mc ms : Nat} (h1 : rm.cells = mc) (h2 : rm.slots = ms) (h3 : rm.frames + 1 ≤ R.frames ∧ 8 + (1 + 11) + rm.locals ≤ R.locals) : CallW R s args RX0 RX0 59 yX0_trim cX0_trim 1 none (.code yX0_trim cX0_trim 1 none :: tb) rm mc ms 0 :=
  sCw Cx 0 w_1275 w_1277 w_48 w_212 w_1278 (by decide +kernel) h1 h2 h3
theorem c_X0_76 (Cx : sC G p m c cc nL s args RX0) {rm : Room} {mc ms : Nat} (h1 : rm.cells = mc) (h2 : rm.slots = ms) (h3 : rm.frames + 1 ≤ R.frames ∧ 8 + (6 + 11) + rm.locals ≤ R.locals) : CallW R s args RX0 RX0 76 yX0_addSize cX0_addSize 6 none (.code yX0_addSize cX0_addSize 6 none :: tb) rm mc ms 1 :=
  sCw Cx 1 w_1288 w_1290 w_49 w_212 w_1291 (by decide +kernel) h1 h2 h3
theorem c_X0_72 (Cx : sC G p m c cc nL s args RX0) {rm : Room} {mc ms : Nat} (h1 : rm.cells = mc) (h2 : rm.slots = ms) (h3 : rm.frames + 1 ≤ R.frames ∧ 8 + (2 + 11) + rm.locals ≤ R.locals) : CallW R s args RX0 RX0 72 yX0_copy cX0_copy 2 none (.code yX0_copy cX0_copy 2 none :: tb) rm mc ms 1 :=
  sCw Cx 1 w_1283 w_1284 w_1285 w_212 w_1286 (by decide +kernel) h1 h2 h3
end RW24
