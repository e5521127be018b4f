theorem dX6_addCut_0 : decode cX6_addCut 0 = .ok (.aload_n 0, 1) := by decide +kernel
theorem dX6_addCut_1 : decode cX6_addCut 1 = .ok (.invokevirtual 97, 3) := by decide +kernel
theorem dX6_addCut_4 : decode cX6_addCut 4 = .ok (.ifCond .eq 5, 3) := by decide +kernel
theorem dX6_addCut_7 : decode cX6_addCut 7 = .ok (.iconst 0, 1) := by decide +kernel
theorem dX6_addCut_8 : decode cX6_addCut 8 = .ok (.ireturn, 1) := by decide +kernel
theorem dX6_addCut_9 : decode cX6_addCut 9 = .ok (.iconst 0, 1) := by decide +kernel
theorem dX6_addCut_10 : decode cX6_addCut 10 = .ok (.istore_n 2, 1) := by decide +kernel
theorem dX6_addCut_11 : decode cX6_addCut 11 = .ok (.iload_n 2, 1) := by decide +kernel
theorem dX6_addCut_12 : decode cX6_addCut 12 = .ok (.aload_n 0, 1) := by decide +kernel
theorem dX6_addCut_13 : decode cX6_addCut 13 = .ok (.getfield 46, 3) := by decide +kernel
theorem dX6_addCut_16 : decode cX6_addCut 16 = .ok (.if_icmp .gt 69, 3) := by decide +kernel
theorem dX6_addCut_19 : decode cX6_addCut 19 = .ok (.aload_n 0, 1) := by decide +kernel
theorem dX6_addCut_20 : decode cX6_addCut 20 = .ok (.iload_n 2, 1) := by decide +kernel
theorem dX6_addCut_21 : decode cX6_addCut 21 = .ok (.aload_n 0, 1) := by decide +kernel
theorem dX6_addCut_22 : decode cX6_addCut 22 = .ok (.getfield 31, 3) := by decide +kernel
theorem dX6_addCut_25 : decode cX6_addCut 25 = .ok (.invokevirtual 101, 3) := by decide +kernel
theorem dX6_addCut_28 : decode cX6_addCut 28 = .ok (.aload_n 0, 1) := by decide +kernel
theorem dX6_addCut_29 : decode cX6_addCut 29 = .ok (.getfield 31, 3) := by decide +kernel
theorem dX6_addCut_32 : decode cX6_addCut 32 = .ok (.aload_n 1, 1) := by decide +kernel
theorem dX6_addCut_33 : decode cX6_addCut 33 = .ok (.aload_n 0, 1) := by decide +kernel
theorem dX6_addCut_34 : decode cX6_addCut 34 = .ok (.getfield 34, 3) := by decide +kernel
theorem dX6_addCut_37 : decode cX6_addCut 37 = .ok (.aload_n 0, 1) := by decide +kernel
theorem dX6_addCut_38 : decode cX6_addCut 38 = .ok (.getfield 37, 3) := by decide +kernel
theorem dX6_addCut_41 : decode cX6_addCut 41 = .ok (.invokevirtual 105, 3) := by decide +kernel
theorem dX6_addCut_44 : decode cX6_addCut 44 = .ok (.aload_n 0, 1) := by decide +kernel
theorem dX6_addCut_45 : decode cX6_addCut 45 = .ok (.getfield 34, 3) := by decide +kernel
theorem dX6_addCut_48 : decode cX6_addCut 48 = .ok (.invokevirtual 109, 3) := by decide +kernel
theorem dX6_addCut_51 : decode cX6_addCut 51 = .ok (.bipush 60, 2) := by decide +kernel
theorem dX6_addCut_53 : decode cX6_addCut 53 = .ok (.if_icmp .le 5, 3) := by decide +kernel
theorem dX6_addCut_56 : decode cX6_addCut 56 = .ok (.iconst 0, 1) := by decide +kernel
theorem dX6_addCut_57 : decode cX6_addCut 57 = .ok (.ireturn, 1) := by decide +kernel
theorem dX6_addCut_58 : decode cX6_addCut 58 = .ok (.aload_n 0, 1) := by decide +kernel
theorem dX6_addCut_59 : decode cX6_addCut 59 = .ok (.getfield 34, 3) := by decide +kernel
theorem dX6_addCut_62 : decode cX6_addCut 62 = .ok (.aload_n 0, 1) := by decide +kernel
theorem dX6_addCut_63 : decode cX6_addCut 63 = .ok (.getfield 13, 3) := by decide +kernel
theorem dX6_addCut_66 : decode cX6_addCut 66 = .ok (.aload_n 0, 1) := by decide +kernel
theorem dX6_addCut_67 : decode cX6_addCut 67 = .ok (.getfield 50, 3) := by decide +kernel
theorem dX6_addCut_70 : decode cX6_addCut 70 = .ok (.iconst 1, 1) := by decide +kernel
theorem dX6_addCut_71 : decode cX6_addCut 71 = .ok (.iadd, 1) := by decide +kernel
theorem dX6_addCut_72 : decode cX6_addCut 72 = .ok (.iload_n 2, 1) := by decide +kernel
theorem dX6_addCut_73 : decode cX6_addCut 73 = .ok (.invokestatic 53, 3) := by decide +kernel
theorem dX6_addCut_76 : decode cX6_addCut 76 = .ok (.invokevirtual 83, 3) := by decide +kernel
theorem dX6_addCut_79 : decode cX6_addCut 79 = .ok (.iinc 2 1, 3) := by decide +kernel
theorem dX6_addCut_82 : decode cX6_addCut 82 = .ok (.goto (-71), 3) := by decide +kernel
theorem dX6_addCut_85 : decode cX6_addCut 85 = .ok (.aload_n 0, 1) := by decide +kernel
theorem dX6_addCut_86 : decode cX6_addCut 86 = .ok (.dup, 1) := by decide +kernel
theorem dX6_addCut_87 : decode cX6_addCut 87 = .ok (.getfield 50, 3) := by decide +kernel
theorem dX6_addCut_90 : decode cX6_addCut 90 = .ok (.iconst 1, 1) := by decide +kernel
theorem dX6_addCut_91 : decode cX6_addCut 91 = .ok (.iadd, 1) := by decide +kernel
theorem dX6_addCut_92 : decode cX6_addCut 92 = .ok (.putfield 50, 3) := by decide +kernel
theorem dX6_addCut_95 : decode cX6_addCut 95 = .ok (.iconst 1, 1) := by decide +kernel
theorem dX6_addCut_96 : decode cX6_addCut 96 = .ok (.ireturn, 1) := by decide +kernel
theorem dX6_addLimit_0 : decode cX6_addLimit 0 = .ok (.aload_n 0, 1) := by decide +kernel
theorem dX6_addLimit_1 : decode cX6_addLimit 1 = .ok (.invokevirtual 97, 3) := by decide +kernel
theorem dX6_addLimit_4 : decode cX6_addLimit 4 = .ok (.ifCond .ne 16, 3) := by decide +kernel
theorem dX6_addLimit_7 : decode cX6_addLimit 7 = .ok (.iload_n 1, 1) := by decide +kernel
theorem dX6_addLimit_8 : decode cX6_addLimit 8 = .ok (.iconst 1, 1) := by decide +kernel
theorem dX6_addLimit_9 : decode cX6_addLimit 9 = .ok (.if_icmp .lt 11, 3) := by decide +kernel
theorem dX6_addLimit_12 : decode cX6_addLimit 12 = .ok (.iload_n 1, 1) := by decide +kernel
theorem dX6_addLimit_13 : decode cX6_addLimit 13 = .ok (.aload_n 0, 1) := by decide +kernel
theorem dX6_addLimit_14 : decode cX6_addLimit 14 = .ok (.getfield 46, 3) := by decide +kernel
theorem dX6_addLimit_17 : decode cX6_addLimit 17 = .ok (.if_icmp .le 4, 3) := by decide +kernel
theorem dX6_addLimit_20 : decode cX6_addLimit 20 = .ok (.return_, 1) := by decide +kernel
theorem dX6_addLimit_21 : decode cX6_addLimit 21 = .ok (.aload_n 0, 1) := by decide +kernel
theorem dX6_addLimit_22 : decode cX6_addLimit 22 = .ok (.dup, 1) := by decide +kernel
theorem dX6_addLimit_23 : decode cX6_addLimit 23 = .ok (.getfield 50, 3) := by decide +kernel
theorem dX6_addLimit_26 : decode cX6_addLimit 26 = .ok (.iconst 1, 1) := by decide +kernel
theorem dX6_addLimit_27 : decode cX6_addLimit 27 = .ok (.iadd, 1) := by decide +kernel
theorem dX6_addLimit_28 : decode cX6_addLimit 28 = .ok (.putfield 50, 3) := by decide +kernel
theorem dX6_addLimit_31 : decode cX6_addLimit 31 = .ok (.iconst 1, 1) := by decide +kernel
theorem dX6_addLimit_32 : decode cX6_addLimit 32 = .ok (.istore 4, 2) := by decide +kernel
theorem dX6_addLimit_34 : decode cX6_addLimit 34 = .ok (.iload 4, 2) := by decide +kernel
theorem dX6_addLimit_36 : decode cX6_addLimit 36 = .ok (.aload_n 0, 1) := by decide +kernel
theorem dX6_addLimit_37 : decode cX6_addLimit 37 = .ok (.getfield 46, 3) := by decide +kernel
theorem dX6_addLimit_40 : decode cX6_addLimit 40 = .ok (.if_icmp .gt 46, 3) := by decide +kernel
theorem dX6_addLimit_43 : decode cX6_addLimit 43 = .ok (.aload_n 0, 1) := by decide +kernel
theorem dX6_addLimit_44 : decode cX6_addLimit 44 = .ok (.getfield 13, 3) := by decide +kernel
theorem dX6_addLimit_47 : decode cX6_addLimit 47 = .ok (.aload_n 0, 1) := by decide +kernel
theorem dX6_addLimit_48 : decode cX6_addLimit 48 = .ok (.getfield 50, 3) := by decide +kernel
theorem dX6_addLimit_51 : decode cX6_addLimit 51 = .ok (.iload 4, 2) := by decide +kernel
theorem dX6_addLimit_53 : decode cX6_addLimit 53 = .ok (.invokestatic 53, 3) := by decide +kernel
theorem dX6_addLimit_56 : decode cX6_addLimit 56 = .ok (.iload 4, 2) := by decide +kernel
theorem dX6_addLimit_58 : decode cX6_addLimit 58 = .ok (.iload_n 1, 1) := by decide +kernel
theorem dX6_addLimit_59 : decode cX6_addLimit 59 = .ok (.if_icmp .eq 7, 3) := by decide +kernel
theorem dX6_addLimit_62 : decode cX6_addLimit 62 = .ok (.lconst 0, 1) := by decide +kernel
theorem dX6_addLimit_63 : decode cX6_addLimit 63 = .ok (.goto 14, 3) := by decide +kernel
theorem dX6_addLimit_66 : decode cX6_addLimit 66 = .ok (.iload_n 3, 1) := by decide +kernel
theorem dX6_addLimit_67 : decode cX6_addLimit 67 = .ok (.ifCond .eq 9, 3) := by decide +kernel
theorem dX6_addLimit_70 : decode cX6_addLimit 70 = .ok (.ldc2_w 113, 3) := by decide +kernel
theorem dX6_addLimit_73 : decode cX6_addLimit 73 = .ok (.goto 4, 3) := by decide +kernel
theorem dX6_addLimit_76 : decode cX6_addLimit 76 = .ok (.lconst 1, 1) := by decide +kernel
theorem dX6_addLimit_77 : decode cX6_addLimit 77 = .ok (.invokestatic 60, 3) := by decide +kernel
theorem dX6_addLimit_80 : decode cX6_addLimit 80 = .ok (.iinc 4 1, 3) := by decide +kernel
theorem dX6_addLimit_83 : decode cX6_addLimit 83 = .ok (.goto (-49), 3) := by decide +kernel
theorem dX6_addLimit_86 : decode cX6_addLimit 86 = .ok (.aload_n 0, 1) := by decide +kernel
theorem dX6_addLimit_87 : decode cX6_addLimit 87 = .ok (.getfield 31, 3) := by decide +kernel
theorem dX6_addLimit_90 : decode cX6_addLimit 90 = .ok (.aload_n 2, 1) := by decide +kernel
theorem dX6_addLimit_91 : decode cX6_addLimit 91 = .ok (.invokevirtual 115, 3) := by decide +kernel
theorem dX6_addLimit_94 : decode cX6_addLimit 94 = .ok (.iload_n 3, 1) := by decide +kernel
theorem dX6_addLimit_95 : decode cX6_addLimit 95 = .ok (.ifCond .eq 30, 3) := by decide +kernel
theorem dX6_addLimit_98 : decode cX6_addLimit 98 = .ok (.aload_n 0, 1) := by decide +kernel
theorem dX6_addLimit_99 : decode cX6_addLimit 99 = .ok (.getfield 37, 3) := by decide +kernel
theorem dX6_addLimit_102 : decode cX6_addLimit 102 = .ok (.lconst 1, 1) := by decide +kernel
theorem dX6_addLimit_103 : decode cX6_addLimit 103 = .ok (.invokevirtual 86, 3) := by decide +kernel
theorem dX6_addLimit_106 : decode cX6_addLimit 106 = .ok (.aload_n 0, 1) := by decide +kernel
theorem dX6_addLimit_107 : decode cX6_addLimit 107 = .ok (.getfield 31, 3) := by decide +kernel
theorem dX6_addLimit_110 : decode cX6_addLimit 110 = .ok (.aload_n 0, 1) := by decide +kernel
theorem dX6_addLimit_111 : decode cX6_addLimit 111 = .ok (.getfield 37, 3) := by decide +kernel
theorem dX6_addLimit_114 : decode cX6_addLimit 114 = .ok (.iconst 1, 1) := by decide +kernel
theorem dX6_addLimit_115 : decode cX6_addLimit 115 = .ok (.invokevirtual 93, 3) := by decide +kernel
theorem dX6_addLimit_118 : decode cX6_addLimit 118 = .ok (.aload_n 0, 1) := by decide +kernel
theorem dX6_addLimit_119 : decode cX6_addLimit 119 = .ok (.getfield 31, 3) := by decide +kernel
theorem dX6_addLimit_122 : decode cX6_addLimit 122 = .ok (.invokevirtual 119, 3) := by decide +kernel
theorem dX6_addLimit_125 : decode cX6_addLimit 125 = .ok (.aload_n 0, 1) := by decide +kernel
theorem dX6_addLimit_126 : decode cX6_addLimit 126 = .ok (.getfield 31, 3) := by decide +kernel
theorem dX6_addLimit_129 : decode cX6_addLimit 129 = .ok (.aload_n 0, 1) := by decide +kernel
theorem dX6_addLimit_130 : decode cX6_addLimit 130 = .ok (.getfield 13, 3) := by decide +kernel
theorem dX6_addLimit_133 : decode cX6_addLimit 133 = .ok (.aload_n 0, 1) := by decide +kernel
theorem dX6_addLimit_134 : decode cX6_addLimit 134 = .ok (.getfield 50, 3) := by decide +kernel
theorem dX6_addLimit_137 : decode cX6_addLimit 137 = .ok (.iconst 0, 1) := by decide +kernel
theorem dX6_addLimit_138 : decode cX6_addLimit 138 = .ok (.invokestatic 53, 3) := by decide +kernel
theorem dX6_addLimit_141 : decode cX6_addLimit 141 = .ok (.invokevirtual 83, 3) := by decide +kernel
theorem dX6_addLimit_144 : decode cX6_addLimit 144 = .ok (.return_, 1) := by decide +kernel
theorem dX6_at_0 : decode cX6_at 0 = .ok (.iload_n 0, 1) := by decide +kernel
theorem dX6_at_1 : decode cX6_at 1 = .ok (.bipush 13, 2) := by decide +kernel
theorem dX6_at_3 : decode cX6_at 3 = .ok (.imul, 1) := by decide +kernel
theorem dX6_at_4 : decode cX6_at 4 = .ok (.iload_n 1, 1) := by decide +kernel
theorem dX6_at_5 : decode cX6_at 5 = .ok (.iadd, 1) := by decide +kernel
theorem dX6_at_6 : decode cX6_at 6 = .ok (.bipush 8, 2) := by decide +kernel
theorem dX6_at_8 : decode cX6_at 8 = .ok (.imul, 1) := by decide +kernel
theorem dX6_at_9 : decode cX6_at 9 = .ok (.ireturn, 1) := by decide +kernel
theorem dX6_clearFactors_0 : decode cX6_clearFactors 0 = .ok (.iconst 0, 1) := by decide +kernel
theorem dX6_clearFactors_1 : decode cX6_clearFactors 1 = .ok (.istore_n 1, 1) := by decide +kernel
theorem dX6_clearFactors_2 : decode cX6_clearFactors 2 = .ok (.iload_n 1, 1) := by decide +kernel
theorem dX6_clearFactors_3 : decode cX6_clearFactors 3 = .ok (.bipush 40, 2) := by decide +kernel
theorem dX6_clearFactors_5 : decode cX6_clearFactors 5 = .ok (.if_icmp .gt 19, 3) := by decide +kernel
theorem dX6_clearFactors_8 : decode cX6_clearFactors 8 = .ok (.aload_n 0, 1) := by decide +kernel
theorem dX6_clearFactors_9 : decode cX6_clearFactors 9 = .ok (.getfield 17, 3) := by decide +kernel
theorem dX6_clearFactors_12 : decode cX6_clearFactors 12 = .ok (.iload_n 1, 1) := by decide +kernel
theorem dX6_clearFactors_13 : decode cX6_clearFactors 13 = .ok (.bipush 8, 2) := by decide +kernel
theorem dX6_clearFactors_15 : decode cX6_clearFactors 15 = .ok (.imul, 1) := by decide +kernel
theorem dX6_clearFactors_16 : decode cX6_clearFactors 16 = .ok (.iconst 0, 1) := by decide +kernel
theorem dX6_clearFactors_17 : decode cX6_clearFactors 17 = .ok (.iastore, 1) := by decide +kernel
theorem dX6_clearFactors_18 : decode cX6_clearFactors 18 = .ok (.iinc 1 1, 3) := by decide +kernel
theorem dX6_clearFactors_21 : decode cX6_clearFactors 21 = .ok (.goto (-19), 3) := by decide +kernel
theorem dX6_clearFactors_24 : decode cX6_clearFactors 24 = .ok (.return_, 1) := by decide +kernel
theorem dX6_combine_0 : decode cX6_combine 0 = .ok (.aload_n 2, 1) := by decide +kernel
theorem dX6_combine_1 : decode cX6_combine 1 = .ok (.lconst 0, 1) := by decide +kernel
theorem dX6_combine_2 : decode cX6_combine 2 = .ok (.invokevirtual 86, 3) := by decide +kernel
theorem dX6_combine_5 : decode cX6_combine 5 = .ok (.iconst 1, 1) := by decide +kernel
theorem dX6_combine_6 : decode cX6_combine 6 = .ok (.istore_n 3, 1) := by decide +kernel
theorem dX6_combine_7 : decode cX6_combine 7 = .ok (.iload_n 3, 1) := by decide +kernel
theorem dX6_combine_8 : decode cX6_combine 8 = .ok (.aload_n 0, 1) := by decide +kernel
theorem dX6_combine_9 : decode cX6_combine 9 = .ok (.getfield 50, 3) := by decide +kernel
theorem dX6_combine_12 : decode cX6_combine 12 = .ok (.if_icmp .gt 89, 3) := by decide +kernel
theorem dX6_combine_15 : decode cX6_combine 15 = .ok (.aload_n 0, 1) := by decide +kernel
theorem dX6_combine_16 : decode cX6_combine 16 = .ok (.getfield 17, 3) := by decide +kernel
theorem dX6_combine_19 : decode cX6_combine 19 = .ok (.iload_n 3, 1) := by decide +kernel
theorem dX6_combine_20 : decode cX6_combine 20 = .ok (.bipush 8, 2) := by decide +kernel
theorem dX6_combine_22 : decode cX6_combine 22 = .ok (.imul, 1) := by decide +kernel
theorem dX6_combine_23 : decode cX6_combine 23 = .ok (.iaload, 1) := by decide +kernel
theorem dX6_combine_24 : decode cX6_combine 24 = .ok (.ifCond .eq 71, 3) := by decide +kernel
theorem dX6_combine_27 : decode cX6_combine 27 = .ok (.aload_n 0, 1) := by decide +kernel
theorem dX6_combine_28 : decode cX6_combine 28 = .ok (.getfield 13, 3) := by decide +kernel
theorem dX6_combine_31 : decode cX6_combine 31 = .ok (.iload_n 3, 1) := by decide +kernel
theorem dX6_combine_32 : decode cX6_combine 32 = .ok (.iload_n 1, 1) := by decide +kernel
theorem dX6_combine_33 : decode cX6_combine 33 = .ok (.invokestatic 53, 3) := by decide +kernel
theorem dX6_combine_36 : decode cX6_combine 36 = .ok (.iaload, 1) := by decide +kernel
theorem dX6_combine_37 : decode cX6_combine 37 = .ok (.ifCond .eq 58, 3) := by decide +kernel
theorem dX6_combine_40 : decode cX6_combine 40 = .ok (.aload_n 0, 1) := by decide +kernel
theorem dX6_combine_41 : decode cX6_combine 41 = .ok (.getfield 21, 3) := by decide +kernel
theorem dX6_combine_44 : decode cX6_combine 44 = .ok (.aload_n 0, 1) := by decide +kernel
theorem dX6_combine_45 : decode cX6_combine 45 = .ok (.getfield 17, 3) := by decide +kernel
theorem dX6_combine_48 : decode cX6_combine 48 = .ok (.iload_n 3, 1) := by decide +kernel
theorem dX6_combine_49 : decode cX6_combine 49 = .ok (.bipush 8, 2) := by decide +kernel
theorem dX6_combine_51 : decode cX6_combine 51 = .ok (.imul, 1) := by decide +kernel
theorem dX6_combine_52 : decode cX6_combine 52 = .ok (.invokevirtual 75, 3) := by decide +kernel
theorem dX6_combine_55 : decode cX6_combine 55 = .ok (.aload_n 0, 1) := by decide +kernel
theorem dX6_combine_56 : decode cX6_combine 56 = .ok (.getfield 25, 3) := by decide +kernel
theorem dX6_combine_59 : decode cX6_combine 59 = .ok (.aload_n 0, 1) := by decide +kernel
theorem dX6_combine_60 : decode cX6_combine 60 = .ok (.getfield 13, 3) := by decide +kernel
theorem dX6_combine_63 : decode cX6_combine 63 = .ok (.iload_n 3, 1) := by decide +kernel
theorem dX6_combine_64 : decode cX6_combine 64 = .ok (.iload_n 1, 1) := by decide +kernel
theorem dX6_combine_65 : decode cX6_combine 65 = .ok (.invokestatic 53, 3) := by decide +kernel
theorem dX6_combine_68 : decode cX6_combine 68 = .ok (.invokevirtual 75, 3) := by decide +kernel
theorem dX6_combine_71 : decode cX6_combine 71 = .ok (.aload_n 0, 1) := by decide +kernel
theorem dX6_combine_72 : decode cX6_combine 72 = .ok (.getfield 28, 3) := by decide +kernel
theorem dX6_combine_75 : decode cX6_combine 75 = .ok (.aload_n 0, 1) := by decide +kernel
theorem dX6_combine_76 : decode cX6_combine 76 = .ok (.getfield 21, 3) := by decide +kernel
theorem dX6_combine_79 : decode cX6_combine 79 = .ok (.aload_n 0, 1) := by decide +kernel
theorem dX6_combine_80 : decode cX6_combine 80 = .ok (.getfield 25, 3) := by decide +kernel
theorem dX6_combine_83 : decode cX6_combine 83 = .ok (.invokevirtual 90, 3) := by decide +kernel
theorem dX6_combine_86 : decode cX6_combine 86 = .ok (.aload_n 2, 1) := by decide +kernel
theorem dX6_combine_87 : decode cX6_combine 87 = .ok (.aload_n 0, 1) := by decide +kernel
theorem dX6_combine_88 : decode cX6_combine 88 = .ok (.getfield 28, 3) := by decide +kernel
theorem dX6_combine_91 : decode cX6_combine 91 = .ok (.iconst 1, 1) := by decide +kernel
theorem dX6_combine_92 : decode cX6_combine 92 = .ok (.invokevirtual 93, 3) := by decide +kernel
theorem dX6_combine_95 : decode cX6_combine 95 = .ok (.iinc 3 1, 3) := by decide +kernel
theorem dX6_combine_98 : decode cX6_combine 98 = .ok (.goto (-91), 3) := by decide +kernel
theorem dX6_combine_101 : decode cX6_combine 101 = .ok (.return_, 1) := by decide +kernel
theorem dX6_count_0 : decode cX6_count 0 = .ok (.aload_n 0, 1) := by decide +kernel
theorem dX6_count_1 : decode cX6_count 1 = .ok (.getfield 50, 3) := by decide +kernel
theorem dX6_count_4 : decode cX6_count 4 = .ok (.ireturn, 1) := by decide +kernel
theorem dX6_isFull_0 : decode cX6_isFull 0 = .ok (.aload_n 0, 1) := by decide +kernel
theorem dX6_isFull_1 : decode cX6_isFull 1 = .ok (.getfield 50, 3) := by decide +kernel
theorem dX6_isFull_4 : decode cX6_isFull 4 = .ok (.bipush 40, 2) := by decide +kernel
theorem dX6_isFull_6 : decode cX6_isFull 6 = .ok (.if_icmp .lt 7, 3) := by decide +kernel
theorem dX6_isFull_9 : decode cX6_isFull 9 = .ok (.iconst 1, 1) := by decide +kernel
theorem dX6_isFull_10 : decode cX6_isFull 10 = .ok (.goto 4, 3) := by decide +kernel
theorem dX6_isFull_13 : decode cX6_isFull 13 = .ok (.iconst 0, 1) := by decide +kernel
theorem dX6_isFull_14 : decode cX6_isFull 14 = .ok (.ireturn, 1) := by decide +kernel
theorem dX6_keep_0 : decode cX6_keep 0 = .ok (.aload_n 0, 1) := by decide +kernel
theorem dX6_keep_1 : decode cX6_keep 1 = .ok (.aload_n 0, 1) := by decide +kernel
theorem dX6_keep_2 : decode cX6_keep 2 = .ok (.getfield 50, 3) := by decide +kernel
theorem dX6_keep_5 : decode cX6_keep 5 = .ok (.iload_n 1, 1) := by decide +kernel
theorem dX6_keep_6 : decode cX6_keep 6 = .ok (.iconst 0, 1) := by decide +kernel
theorem dX6_keep_7 : decode cX6_keep 7 = .ok (.invokestatic 67, 3) := by decide +kernel
theorem dX6_keep_10 : decode cX6_keep 10 = .ok (.invokestatic 72, 3) := by decide +kernel
theorem dX6_keep_13 : decode cX6_keep 13 = .ok (.putfield 50, 3) := by decide +kernel
theorem dX6_keep_16 : decode cX6_keep 16 = .ok (.return_, 1) := by decide +kernel
theorem dX6_lowBits_0 : decode cX6_lowBits 0 = .ok (.iload_n 1, 1) := by decide +kernel
theorem dX6_lowBits_1 : decode cX6_lowBits 1 = .ok (.ifCond .lt 23, 3) := by decide +kernel
theorem dX6_lowBits_4 : decode cX6_lowBits 4 = .ok (.iload_n 1, 1) := by decide +kernel
theorem dX6_lowBits_5 : decode cX6_lowBits 5 = .ok (.aload_n 0, 1) := by decide +kernel
theorem dX6_lowBits_6 : decode cX6_lowBits 6 = .ok (.getfield 50, 3) := by decide +kernel
theorem dX6_lowBits_9 : decode cX6_lowBits 9 = .ok (.if_icmp .gt 15, 3) := by decide +kernel
theorem dX6_lowBits_12 : decode cX6_lowBits 12 = .ok (.iload_n 2, 1) := by decide +kernel
theorem dX6_lowBits_13 : decode cX6_lowBits 13 = .ok (.ifCond .lt 11, 3) := by decide +kernel
theorem dX6_lowBits_16 : decode cX6_lowBits 16 = .ok (.iload_n 2, 1) := by decide +kernel
theorem dX6_lowBits_17 : decode cX6_lowBits 17 = .ok (.aload_n 0, 1) := by decide +kernel
theorem dX6_lowBits_18 : decode cX6_lowBits 18 = .ok (.getfield 46, 3) := by decide +kernel
theorem dX6_lowBits_21 : decode cX6_lowBits 21 = .ok (.if_icmp .le 5, 3) := by decide +kernel
theorem dX6_lowBits_24 : decode cX6_lowBits 24 = .ok (.lconst 0, 1) := by decide +kernel
theorem dX6_lowBits_25 : decode cX6_lowBits 25 = .ok (.lreturn, 1) := by decide +kernel
theorem dX6_lowBits_26 : decode cX6_lowBits 26 = .ok (.aload_n 0, 1) := by decide +kernel
theorem dX6_lowBits_27 : decode cX6_lowBits 27 = .ok (.getfield 21, 3) := by decide +kernel
theorem dX6_lowBits_30 : decode cX6_lowBits 30 = .ok (.aload_n 0, 1) := by decide +kernel
theorem dX6_lowBits_31 : decode cX6_lowBits 31 = .ok (.getfield 13, 3) := by decide +kernel
theorem dX6_lowBits_34 : decode cX6_lowBits 34 = .ok (.iload_n 1, 1) := by decide +kernel
theorem dX6_lowBits_35 : decode cX6_lowBits 35 = .ok (.iload_n 2, 1) := by decide +kernel
theorem dX6_lowBits_36 : decode cX6_lowBits 36 = .ok (.invokestatic 53, 3) := by decide +kernel
theorem dX6_lowBits_39 : decode cX6_lowBits 39 = .ok (.invokevirtual 75, 3) := by decide +kernel
theorem dX6_lowBits_42 : decode cX6_lowBits 42 = .ok (.aload_n 0, 1) := by decide +kernel
theorem dX6_lowBits_43 : decode cX6_lowBits 43 = .ok (.getfield 21, 3) := by decide +kernel
theorem dX6_lowBits_46 : decode cX6_lowBits 46 = .ok (.invokevirtual 79, 3) := by decide +kernel
theorem dX6_lowBits_49 : decode cX6_lowBits 49 = .ok (.lreturn, 1) := by decide +kernel
theorem dX6_number_0 : decode cX6_number 0 = .ok (.aload_n 3, 1) := by decide +kernel
theorem dX6_number_1 : decode cX6_number 1 = .ok (.aload_n 0, 1) := by decide +kernel
theorem dX6_number_2 : decode cX6_number 2 = .ok (.getfield 13, 3) := by decide +kernel
theorem dX6_number_5 : decode cX6_number 5 = .ok (.iload_n 1, 1) := by decide +kernel
theorem dX6_number_6 : decode cX6_number 6 = .ok (.iload_n 2, 1) := by decide +kernel
theorem dX6_number_7 : decode cX6_number 7 = .ok (.invokestatic 53, 3) := by decide +kernel
theorem dX6_number_10 : decode cX6_number 10 = .ok (.invokevirtual 75, 3) := by decide +kernel
theorem dX6_number_13 : decode cX6_number 13 = .ok (.return_, 1) := by decide +kernel
theorem dX6_setFactor_0 : decode cX6_setFactor 0 = .ok (.aload_n 2, 1) := by decide +kernel
theorem dX6_setFactor_1 : decode cX6_setFactor 1 = .ok (.aload_n 0, 1) := by decide +kernel
theorem dX6_setFactor_2 : decode cX6_setFactor 2 = .ok (.getfield 17, 3) := by decide +kernel
theorem dX6_setFactor_5 : decode cX6_setFactor 5 = .ok (.iload_n 1, 1) := by decide +kernel
theorem dX6_setFactor_6 : decode cX6_setFactor 6 = .ok (.bipush 8, 2) := by decide +kernel
theorem dX6_setFactor_8 : decode cX6_setFactor 8 = .ok (.imul, 1) := by decide +kernel
theorem dX6_setFactor_9 : decode cX6_setFactor 9 = .ok (.invokevirtual 83, 3) := by decide +kernel
theorem dX6_setFactor_12 : decode cX6_setFactor 12 = .ok (.return_, 1) := by decide +kernel
theorem dX6_take_0 : decode cX6_take 0 = .ok (.aload_n 0, 1) := by decide +kernel
theorem dX6_take_1 : decode cX6_take 1 = .ok (.aload_n 1, 1) := by decide +kernel
theorem dX6_take_2 : decode cX6_take 2 = .ok (.getfield 40, 3) := by decide +kernel
theorem dX6_take_5 : decode cX6_take 5 = .ok (.putfield 46, 3) := by decide +kernel
theorem dX6_take_8 : decode cX6_take 8 = .ok (.aload_n 0, 1) := by decide +kernel
theorem dX6_take_9 : decode cX6_take 9 = .ok (.aload_n 1, 1) := by decide +kernel
theorem dX6_take_10 : decode cX6_take 10 = .ok (.getfield 47, 3) := by decide +kernel
theorem dX6_take_13 : decode cX6_take 13 = .ok (.putfield 50, 3) := by decide +kernel
theorem dX6_take_16 : decode cX6_take 16 = .ok (.iconst 0, 1) := by decide +kernel
theorem dX6_take_17 : decode cX6_take 17 = .ok (.istore_n 2, 1) := by decide +kernel
theorem dX6_take_18 : decode cX6_take 18 = .ok (.iload_n 2, 1) := by decide +kernel
theorem dX6_take_19 : decode cX6_take 19 = .ok (.aload_n 0, 1) := by decide +kernel
theorem dX6_take_20 : decode cX6_take 20 = .ok (.getfield 50, 3) := by decide +kernel
theorem dX6_take_23 : decode cX6_take 23 = .ok (.if_icmp .gt 44, 3) := by decide +kernel
theorem dX6_take_26 : decode cX6_take 26 = .ok (.iconst 0, 1) := by decide +kernel
theorem dX6_take_27 : decode cX6_take 27 = .ok (.istore_n 3, 1) := by decide +kernel
theorem dX6_take_28 : decode cX6_take 28 = .ok (.iload_n 3, 1) := by decide +kernel
theorem dX6_take_29 : decode cX6_take 29 = .ok (.aload_n 0, 1) := by decide +kernel
theorem dX6_take_30 : decode cX6_take 30 = .ok (.getfield 46, 3) := by decide +kernel
theorem dX6_take_33 : decode cX6_take 33 = .ok (.if_icmp .gt 28, 3) := by decide +kernel
theorem dX6_take_36 : decode cX6_take 36 = .ok (.aload_n 0, 1) := by decide +kernel
theorem dX6_take_37 : decode cX6_take 37 = .ok (.getfield 13, 3) := by decide +kernel
theorem dX6_take_40 : decode cX6_take 40 = .ok (.iload_n 2, 1) := by decide +kernel
theorem dX6_take_41 : decode cX6_take 41 = .ok (.iload_n 3, 1) := by decide +kernel
theorem dX6_take_42 : decode cX6_take 42 = .ok (.invokestatic 53, 3) := by decide +kernel
theorem dX6_take_45 : decode cX6_take 45 = .ok (.aload_n 1, 1) := by decide +kernel
theorem dX6_take_46 : decode cX6_take 46 = .ok (.iload_n 2, 1) := by decide +kernel
theorem dX6_take_47 : decode cX6_take 47 = .ok (.iload_n 3, 1) := by decide +kernel
theorem dX6_take_48 : decode cX6_take 48 = .ok (.invokevirtual 57, 3) := by decide +kernel
theorem dX6_take_51 : decode cX6_take 51 = .ok (.i2l, 1) := by decide +kernel
theorem dX6_take_52 : decode cX6_take 52 = .ok (.invokestatic 60, 3) := by decide +kernel
theorem dX6_take_55 : decode cX6_take 55 = .ok (.iinc 3 1, 3) := by decide +kernel
theorem dX6_take_58 : decode cX6_take 58 = .ok (.goto (-30), 3) := by decide +kernel
theorem dX6_take_61 : decode cX6_take 61 = .ok (.iinc 2 1, 3) := by decide +kernel
theorem dX6_take_64 : decode cX6_take 64 = .ok (.goto (-46), 3) := by decide +kernel
theorem dX6_take_67 : decode cX6_take 67 = .ok (.aload_n 0, 1) := by decide +kernel
theorem dX6_take_68 : decode cX6_take 68 = .ok (.invokevirtual 64, 3) := by decide +kernel
theorem dX6_take_71 : decode cX6_take 71 = .ok (.return_, 1) := by decide +kernel
theorem w_211 : Cond.initialized RX6 ∈ tb := tbc_1 8 (by decide +kernel) rfl
theorem w_264 : Cond.fieldLinkNest RX6 40 (TX3 2).1 (TX3 2).2.1 (TX3 2).2.2.1 "OptimumHouse" ∈ nst := nsc_1 61 (by decide +kernel) rfl
theorem w_272 : Cond.fieldLinkNest RX6 47 (TX3 3).1 (TX3 3).2.1 (TX3 3).2.2.1 "OptimumHouse" ∈ nst := nsc_1 69 (by decide +kernel) rfl
theorem w_416 : Cond.fieldLink RX6 13 (TX6 0).1 (TX6 0).2.1 (TX6 0).2.2.1 ∈ tb := tbc_1 213 (by decide +kernel) rfl
theorem w_417 : Cond.fieldLink RX6 17 (TX6 1).1 (TX6 1).2.1 (TX6 1).2.2.1 ∈ tb := tbc_1 214 (by decide +kernel) rfl
theorem w_418 : Cond.fieldLink RX6 21 (TX6 2).1 (TX6 2).2.1 (TX6 2).2.2.1 ∈ tb := tbc_1 215 (by decide +kernel) rfl
theorem w_419 : Cond.fieldLink RX6 25 (TX6 3).1 (TX6 3).2.1 (TX6 3).2.2.1 ∈ tb := tbc_1 216 (by decide +kernel) rfl
theorem w_420 : Cond.fieldLink RX6 28 (TX6 4).1 (TX6 4).2.1 (TX6 4).2.2.1 ∈ tb := tbc_1 217 (by decide +kernel) rfl
theorem w_421 : Cond.fieldLink RX6 31 (TX6 5).1 (TX6 5).2.1 (TX6 5).2.2.1 ∈ tb := tbc_1 218 (by decide +kernel) rfl
theorem w_422 : Cond.fieldLink RX6 34 (TX6 6).1 (TX6 6).2.1 (TX6 6).2.2.1 ∈ tb := tbc_1 219 (by decide +kernel) rfl
theorem w_423 : Cond.fieldLink RX6 37 (TX6 7).1 (TX6 7).2.1 (TX6 7).2.2.1 ∈ tb := tbc_1 220 (by decide +kernel) rfl
theorem w_424 : Cond.fieldLink RX6 46 (TX6 8).1 (TX6 8).2.1 (TX6 8).2.2.1 ∈ tb := tbc_1 221 (by decide +kernel) rfl
theorem w_425 : Cond.fieldLink RX6 50 (TX6 9).1 (TX6 9).2.1 (TX6 9).2.2.1 ∈ tb := tbc_1 222 (by decide +kernel) rfl
theorem w_426 : u_lay RX6 TX6 0 ∈ tb := tbc_1 223 (by decide +kernel) rfl
theorem w_428 : u_lay RX6 TX6 1 ∈ tb := tbc_1 225 (by decide +kernel) rfl
theorem w_430 : u_lay RX6 TX6 2 ∈ tb := tbc_1 227 (by decide +kernel) rfl
theorem w_432 : u_lay RX6 TX6 3 ∈ tb := tbc_1 229 (by decide +kernel) rfl
theorem w_434 : u_lay RX6 TX6 4 ∈ tb := tbc_1 231 (by decide +kernel) rfl
theorem w_436 : u_lay RX6 TX6 5 ∈ tb := tbc_1 233 (by decide +kernel) rfl
theorem w_438 : u_lay RX6 TX6 6 ∈ tb := tbc_1 235 (by decide +kernel) rfl
theorem w_440 : u_lay RX6 TX6 7 ∈ tb := tbc_1 237 (by decide +kernel) rfl
theorem w_442 : u_lay RX6 TX6 8 ∈ tb := tbc_1 239 (by decide +kernel) rfl
theorem w_444 : u_lay RX6 TX6 9 ∈ tb := tbc_2 1 (by decide +kernel) rfl
theorem w_1145 : Cond.methodLink RX6 53 yX6_at ∈ tb := tbc_4 222 (by decide +kernel) rfl
theorem w_1146 : Cond.static yX6_at ∈ tb := tbc_4 223 (by decide +kernel) rfl
theorem w_1147 : Cond.code yX6_at cX6_at 2 (some .int) ∈ tb := tbc_4 224 (by decide +kernel) rfl
theorem w_1148 : Cond.methodLink RX6 75 yX0_load ∈ tb := tbc_4 225 (by decide +kernel) rfl
theorem w_1149 : Cond.instanceMethod yX0_load ∈ tb := tbc_4 226 (by decide +kernel) rfl
theorem w_1150 : Cond.selects RX0 yX0_load yX0_load ∈ tb := tbc_4 227 (by decide +kernel) rfl
theorem w_1151 : Cond.code yX0_load cX0_load 5 none ∈ tb := tbc_4 228 (by decide +kernel) rfl
theorem w_1159 : Cond.methodLink RX6 79 yX0_lowBits ∈ tb := tbc_4 236 (by decide +kernel) rfl
theorem w_1160 : Cond.instanceMethod yX0_lowBits ∈ tb := tbc_4 237 (by decide +kernel) rfl
theorem w_1161 : Cond.selects RX0 yX0_lowBits yX0_lowBits ∈ tb := tbc_4 238 (by decide +kernel) rfl
theorem w_1162 : Cond.code yX0_lowBits cX0_lowBits 4 (some .long) ∈ tb := tbc_4 239 (by decide +kernel) rfl
theorem w_1180 : Cond.methodLink RX6 57 yX3_number ∈ tb := tbc_5 17 (by decide +kernel) rfl
theorem w_1181 : Cond.methodLink RX6 60 yX0_store ∈ tb := tbc_5 18 (by decide +kernel) rfl
theorem w_1182 : Cond.static yX0_store ∈ tb := tbc_5 19 (by decide +kernel) rfl
theorem w_1183 : Cond.code yX0_store cX0_store 8 none ∈ tb := tbc_5 20 (by decide +kernel) rfl
theorem w_1185 : Cond.methodLink RX6 64 yX6_clearFactors ∈ tb := tbc_5 22 (by decide +kernel) rfl
theorem w_1186 : Cond.instanceMethod yX6_clearFactors ∈ tb := tbc_5 23 (by decide +kernel) rfl
theorem w_1187 : Cond.selects RX6 yX6_clearFactors yX6_clearFactors ∈ tb := tbc_5 24 (by decide +kernel) rfl
theorem w_1188 : Cond.code yX6_clearFactors cX6_clearFactors 2 none ∈ tb := tbc_5 25 (by decide +kernel) rfl
theorem w_1259 : Cond.instanceMethod yX0_product ∈ tb := tbc_5 96 (by decide +kernel) rfl
theorem w_1260 : Cond.selects RX0 yX0_product yX0_product ∈ tb := tbc_5 97 (by decide +kernel) rfl
theorem w_1261 : Cond.code yX0_product cX0_product 12 none ∈ tb := tbc_5 98 (by decide +kernel) rfl
theorem w_1306 : Cond.instanceMethod yX0_divide ∈ tb := tbc_5 143 (by decide +kernel) rfl
theorem w_1307 : Cond.selects RX0 yX0_divide yX0_divide ∈ tb := tbc_5 144 (by decide +kernel) rfl
theorem w_1308 : Cond.code yX0_divide cX0_divide 5 none ∈ tb := tbc_5 145 (by decide +kernel) rfl
theorem w_1331 : Cond.instanceMethod yX0_save ∈ tb := tbc_5 168 (by decide +kernel) rfl
theorem w_1332 : Cond.selects RX0 yX0_save yX0_save ∈ tb := tbc_5 169 (by decide +kernel) rfl
theorem w_1333 : Cond.code yX0_save cX0_save 5 none ∈ tb := tbc_5 170 (by decide +kernel) rfl
theorem w_1493 : Cond.methodLink RX6 83 yX0_save ∈ tb := tbc_6 90 (by decide +kernel) rfl
theorem w_1495 : Cond.instanceMethod yX6_isFull ∈ tb := tbc_6 92 (by decide +kernel) rfl
theorem w_1496 : Cond.selects RX6 yX6_isFull yX6_isFull ∈ tb := tbc_6 93 (by decide +kernel) rfl
theorem w_1497 : Cond.code yX6_isFull cX6_isFull 1 (some .boolean) ∈ tb := tbc_6 94 (by decide +kernel) rfl
theorem w_1506 : Cond.methodLink RX6 97 yX6_isFull ∈ tb := tbc_6 103 (by decide +kernel) rfl
theorem w_1507 : Cond.methodLink RX6 101 yX6_combine ∈ tb := tbc_6 104 (by decide +kernel) rfl
theorem w_1508 : Cond.instanceMethod yX6_combine ∈ tb := tbc_6 105 (by decide +kernel) rfl
theorem w_1509 : Cond.selects RX6 yX6_combine yX6_combine ∈ tb := tbc_6 106 (by decide +kernel) rfl
theorem w_1510 : Cond.code yX6_combine cX6_combine 4 none ∈ tb := tbc_6 107 (by decide +kernel) rfl
theorem w_1511 : Cond.methodLink RX6 86 yX0_put ∈ tb := tbc_6 108 (by decide +kernel) rfl
theorem w_1512 : Cond.methodLink RX6 90 yX0_product ∈ tb := tbc_6 109 (by decide +kernel) rfl
theorem w_1513 : Cond.methodLink RX6 93 yX0_add ∈ tb := tbc_6 110 (by decide +kernel) rfl
theorem w_1514 : Cond.methodLink RX6 105 yX0_divide ∈ tb := tbc_6 111 (by decide +kernel) rfl
theorem w_1515 : Cond.methodLink RX6 109 yX0_digitCount ∈ tb := tbc_6 112 (by decide +kernel) rfl
theorem w_1516 : Cond.instanceMethod yX0_digitCount ∈ tb := tbc_6 113 (by decide +kernel) rfl
theorem w_1517 : Cond.selects RX0 yX0_digitCount yX0_digitCount ∈ tb := tbc_6 114 (by decide +kernel) rfl
theorem w_1518 : Cond.code yX0_digitCount cX0_digitCount 3 (some .int) ∈ tb := tbc_6 115 (by decide +kernel) rfl
theorem w_1551 : Cond.constantLong RX6 113 (jv (-1)) ∈ tb := tbc_6 148 (by decide +kernel) rfl
theorem w_1552 : Cond.methodLink RX6 115 yX0_copy ∈ tb := tbc_6 149 (by decide +kernel) rfl
theorem w_1553 : Cond.methodLink RX6 119 yX0_turn ∈ tb := tbc_6 150 (by decide +kernel) rfl
theorem w_1571 : Cond.methodLink RX6 67 Lib.Math.max.name ∈ tb := tbc_6 168 (by decide +kernel) rfl
theorem w_1572 : Cond.methodLink RX6 72 Lib.Math.min.name ∈ tb := tbc_6 169 (by decide +kernel) rfl
theorem inX6 : ∀ w ∈ u_ws RX6 TX6 10, w ∈ tb := by
  show ∀ w ∈ [u_lay RX6 TX6 0, u_lay RX6 TX6 1, u_lay RX6 TX6 2, u_lay RX6 TX6 3, u_lay RX6 TX6 4, u_lay RX6 TX6 5, u_lay RX6 TX6 6, u_lay RX6 TX6 7, u_lay RX6 TX6 8, u_lay RX6 TX6 9], w ∈ tb
  exact List.forall_mem_cons.mpr ⟨w_426, List.forall_mem_cons.mpr ⟨w_428, List.forall_mem_cons.mpr ⟨w_430, List.forall_mem_cons.mpr ⟨w_432, List.forall_mem_cons.mpr ⟨w_434, List.forall_mem_cons.mpr ⟨w_436, List.forall_mem_cons.mpr ⟨w_438, List.forall_mem_cons.mpr ⟨w_440, List.forall_mem_cons.mpr ⟨w_442, List.forall_mem_cons.mpr ⟨w_444, fun _ h => absurd h List.not_mem_nil⟩⟩⟩⟩⟩⟩⟩⟩⟩⟩
section RW30
variable {p : Program} {l : Launch} {e : Env} {R : Room} {s : State} {m : MethodId} {args : Array Value} {below : List Frame} {meth : Method} {c : Code} {H : Heap} {locs : List Loc} {cells slots : Nat} {Q : State → Prop}
variable {cc : ByteArray} {pc nL : Nat} {ls : Array Slot} {rest st0 : List Value} {G : sG} {n : Nat} {S : sS}
theorem g_X6_50 (Cx : sC G p m c cc nL s args RX6) (hW : sW G n S H) {k : Nat} (hk : k < n) (ht : tau k = .inl 6) {v : Int} (hv : S.1 k 9 = v) (hdg : decode cc pc = .ok (.getfield 50, 3)) (kk : W p l e R s m args below meth c H locs cells slots Q (F0 m (pc + 3) ls (.int (iv v) :: rest))) : W p l e R s m args below meth c H locs cells slots Q (F0 m pc ls (.ref (G.2.2.1 + k) :: rest)) :=
  sGet Cx inX6 rfl 9 (by decide) w_425 hW hk ht (congrArg (fun z => Value.int (iv z)) hv) hdg kk
theorem p_X6_50 (Cx : sC G p m c cc nL s args RX6) (hW : sW G n S H) (hL : sL G locs) {k : Nat} (hk : k < n) (ht : tau k = .inl 6) {v : Int} (hdg : decode cc pc = .ok (.putfield 50, 3)) (kk : ∀ (H1 : Heap) (locs1 : List Loc), sW G n (uF S k 9 v) H1 → sL G locs1 → W p l e R s m args below meth c H1 locs1 cells slots Q (F0 m (pc + 3) ls rest)) : W p l e R s m args below meth c H locs cells slots Q (F0 m pc ls (.int (iv v) :: .ref (G.2.2.1 + k) :: rest)) :=
  sPut Cx inX6 tyX6 tyX6_ok nmX6 rfl 9 (by decide) w_425 rfl hW hL hk ht rfl rfl (fun _ h => uF_same h) (fun _ h => uF_off h) (congrArg (fun z => Value.int (iv z)) uF_on) hdg kk
theorem g_X6_13 (Cx : sC G p m c cc nL s args RX6) (hW : sW G n S H) {k : Nat} (hk : k < n) (ht : tau k = .inl 6) {v : Value} (hv : S.2.2.2 k 0 = v) (hdg : decode cc pc = .ok (.getfield 13, 3)) (kk : W p l e R s m args below meth c H locs cells slots Q (F0 m (pc + 3) ls (v :: rest))) : W p l e R s m args below meth c H locs cells slots Q (F0 m pc ls (.ref (G.2.2.1 + k) :: rest)) :=
  sGet Cx inX6 rfl 0 (by decide) w_416 hW hk ht hv hdg kk
theorem c_X6_53 (Cx : sC G p m c cc nL s args RX6) {rm : Room} {mc ms : Nat} (h1 : rm.cells = mc) (h2 : rm.slots = ms) (h3 : rm.frames + 1 ≤ R.frames ∧ 8 + (2 + 11) + rm.locals ≤ R.locals) : CallB R s args RX6 53 yX6_at cX6_at 2 (some .int) (.code yX6_at cX6_at 2 (some .int) :: tb) rm mc ms 2 ∧ (Cond.static yX6_at).before args s = true :=
  sCS Cx 2 w_1145 w_1146 w_211 w_1147 (by decide +kernel) h1 h2 h3
theorem c_X6_75 (Cx : sC G p m c cc nL s args RX6) {rm : Room} {mc ms : Nat} (h1 : rm.cells = mc) (h2 : rm.slots = ms) (h3 : rm.frames + 1 ≤ R.frames ∧ 8 + (5 + 11) + rm.locals ≤ R.locals) : CallW R s args RX6 RX0 75 yX0_load cX0_load 5 none (.code yX0_load cX0_load 5 none :: tb) rm mc ms 2 :=
  sCw Cx 2 w_1148 w_1149 w_1150 w_212 w_1151 (by decide +kernel) h1 h2 h3
theorem g_X6_46 (Cx : sC G p m c cc nL s args RX6) (hW : sW G n S H) {k : Nat} (hk : k < n) (ht : tau k = .inl 6) {v : Int} (hv : S.1 k 8 = v) (hdg : decode cc pc = .ok (.getfield 46, 3)) (kk : W p l e R s m args below meth c H locs cells slots Q (F0 m (pc + 3) ls (.int (iv v) :: rest))) : W p l e R s m args below meth c H locs cells slots Q (F0 m pc ls (.ref (G.2.2.1 + k) :: rest)) :=
  sGet Cx inX6 rfl 8 (by decide) w_424 hW hk ht (congrArg (fun z => Value.int (iv z)) hv) hdg kk
theorem g_X6_21 (Cx : sC G p m c cc nL s args RX6) (hW : sW G n S H) {k : Nat} (hk : k < n) (ht : tau k = .inl 6) {v : Value} (hv : S.2.2.2 k 2 = v) (hdg : decode cc pc = .ok (.getfield 21, 3)) (kk : W p l e R s m args below meth c H locs cells slots Q (F0 m (pc + 3) ls (v :: rest))) : W p l e R s m args below meth c H locs cells slots Q (F0 m pc ls (.ref (G.2.2.1 + k) :: rest)) :=
  sGet Cx inX6 rfl 2 (by decide) w_418 hW hk ht hv hdg kk
theorem c_X6_79 (Cx : sC G p m c cc nL s args RX6) {rm : Room} {mc ms : Nat} (h1 : rm.cells = mc) (h2 : rm.slots = ms) (h3 : rm.frames + 1 ≤ R.frames ∧ 8 + (4 + 11) + rm.locals ≤ R.locals) : CallW R s args RX6 RX0 79 yX0_lowBits cX0_lowBits 4 (some .long) (.code yX0_lowBits cX0_lowBits 4 (some .long) :: tb) rm mc ms 0 :=
  sCw Cx 0 w_1159 w_1160 w_1161 w_212 w_1162 (by decide +kernel) h1 h2 h3
theorem g_X6_17 (Cx : sC G p m c cc nL s args RX6) (hW : sW G n S H) {k : Nat} (hk : k < n) (ht : tau k = .inl 6) {v : Value} (hv : S.2.2.2 k 1 = v) (hdg : decode cc pc = .ok (.getfield 17, 3)) (kk : W p l e R s m args below meth c H locs cells slots Q (F0 m (pc + 3) ls (v :: rest))) : W p l e R s m args below meth c H locs cells slots Q (F0 m pc ls (.ref (G.2.2.1 + k) :: rest)) :=
  sGet Cx inX6 rfl 1 (by decide) w_417 hW hk ht hv hdg kk
theorem c_X6_83 (Cx : sC G p m c cc nL s args RX6) {rm : Room} {mc ms : Nat} (h1 : rm.cells = mc) (h2 : rm.slots = ms) (h3 : rm.frames + 1 ≤ R.frames ∧ 8 + (5 + 11) + rm.locals ≤ R.locals) : CallW R s args RX6 RX0 83 yX0_save cX0_save 5 none (.code yX0_save cX0_save 5 none :: tb) rm mc ms 2 :=
  sCw Cx 2 w_1493 w_1331 w_1332 w_212 w_1333 (by decide +kernel) h1 h2 h3
theorem g_X6_40 (Cx : sC G p m c cc nL s args RX6) (hW : sW G n S H) {k : Nat} (hk : k < n) (ht : tau k = .inl 3) {v : Int} (hv : S.1 k 2 = v) (hdg : decode cc pc = .ok (.getfield 40, 3)) (kk : W p l e R s m args below meth c H locs cells slots Q (F0 m (pc + 3) ls (.int (iv v) :: rest))) : W p l e R s m args below meth c H locs cells slots Q (F0 m pc ls (.ref (G.2.2.1 + k) :: rest)) :=
  sGetN Cx inX3 rfl 2 (by decide) w_264 hW hk ht (congrArg (fun z => Value.int (iv z)) hv) hdg kk
theorem p_X6_46 (Cx : sC G p m c cc nL s args RX6) (hW : sW G n S H) (hL : sL G locs) {k : Nat} (hk : k < n) (ht : tau k = .inl 6) {v : Int} (hdg : decode cc pc = .ok (.putfield 46, 3)) (kk : ∀ (H1 : Heap) (locs1 : List Loc), sW G n (uF S k 8 v) H1 → sL G locs1 → W p l e R s m args below meth c H1 locs1 cells slots Q (F0 m (pc + 3) ls rest)) : W p l e R s m args below meth c H locs cells slots Q (F0 m pc ls (.int (iv v) :: .ref (G.2.2.1 + k) :: rest)) :=
  sPut Cx inX6 tyX6 tyX6_ok nmX6 rfl 8 (by decide) w_424 rfl hW hL hk ht rfl rfl (fun _ h => uF_same h) (fun _ h => uF_off h) (congrArg (fun z => Value.int (iv z)) uF_on) hdg kk
theorem g_X6_47 (Cx : sC G p m c cc nL s args RX6) (hW : sW G n S H) {k : Nat} (hk : k < n) (ht : tau k = .inl 3) {v : Int} (hv : S.1 k 3 = v) (hdg : decode cc pc = .ok (.getfield 47, 3)) (kk : W p l e R s m args below meth c H locs cells slots Q (F0 m (pc + 3) ls (.int (iv v) :: rest))) : W p l e R s m args below meth c H locs cells slots Q (F0 m pc ls (.ref (G.2.2.1 + k) :: rest)) :=
  sGetN Cx inX3 rfl 3 (by decide) w_272 hW hk ht (congrArg (fun z => Value.int (iv z)) hv) hdg kk
theorem c_X6_64 (Cx : sC G p m c cc nL s args RX6) {rm : Room} {mc ms : Nat} (h1 : rm.cells = mc) (h2 : rm.slots = ms) (h3 : rm.frames + 1 ≤ R.frames ∧ 8 + (2 + 11) + rm.locals ≤ R.locals) : CallW R s args RX6 RX6 64 yX6_clearFactors cX6_clearFactors 2 none (.code yX6_clearFactors cX6_clearFactors 2 none :: tb) rm mc ms 0 :=
  sCw Cx 0 w_1185 w_1186 w_1187 w_211 w_1188 (by decide +kernel) h1 h2 h3
theorem c_X6_57 (Cx : sC G p m c cc nL s args RX6) {rm : Room} {mc ms : Nat} (h1 : rm.cells = mc) (h2 : rm.slots = ms) (h3 : rm.frames + 1 ≤ R.frames ∧ 8 + (3 + 11) + rm.locals ≤ R.locals) : CallW R s args RX6 RX3 57 yX3_number cX3_number 3 (some .int) (.code yX3_number cX3_number 3 (some .int) :: tb) rm mc ms 2 :=
  sCw Cx 2 w_1180 w_1165 w_1166 w_207 w_1167 (by decide +kernel) h1 h2 h3
theorem c_X6_60 (Cx : sC G p m c cc nL s args RX6) {rm : Room} {mc ms : Nat} (h1 : rm.cells = mc) (h2 : rm.slots = ms) (h3 : rm.frames + 1 ≤ R.frames ∧ 8 + (8 + 11) + rm.locals ≤ R.locals) : CallB R s args RX6 60 yX0_store cX0_store 8 none (.code yX0_store cX0_store 8 none :: tb) rm mc ms 3 ∧ (Cond.static yX0_store).before args s = true :=
  sCS Cx 3 w_1181 w_1182 w_212 w_1183 (by decide +kernel) h1 h2 h3
theorem c_X6_86 (Cx : sC G p m c cc nL s args RX6) {rm : Room} {mc ms : Nat} (h1 : rm.cells = mc) (h2 : rm.slots = ms) (h3 : rm.frames + 1 ≤ R.frames ∧ 8 + (6 + 11) + rm.locals ≤ R.locals) : CallW R s args RX6 RX0 86 yX0_put cX0_put 6 none (.code yX0_put cX0_put 6 none :: tb) rm mc ms 1 :=
  sCw Cx 1 w_1511 w_1263 w_1264 w_212 w_1265 (by decide +kernel) h1 h2 h3
theorem g_X6_25 (Cx : sC G p m c cc nL s args RX6) (hW : sW G n S H) {k : Nat} (hk : k < n) (ht : tau k = .inl 6) {v : Value} (hv : S.2.2.2 k 3 = v) (hdg : decode cc pc = .ok (.getfield 25, 3)) (kk : W p l e R s m args below meth c H locs cells slots Q (F0 m (pc + 3) ls (v :: rest))) : W p l e R s m args below meth c H locs cells slots Q (F0 m pc ls (.ref (G.2.2.1 + k) :: rest)) :=
  sGet Cx inX6 rfl 3 (by decide) w_419 hW hk ht hv hdg kk
theorem g_X6_28 (Cx : sC G p m c cc nL s args RX6) (hW : sW G n S H) {k : Nat} (hk : k < n) (ht : tau k = .inl 6) {v : Value} (hv : S.2.2.2 k 4 = v) (hdg : decode cc pc = .ok (.getfield 28, 3)) (kk : W p l e R s m args below meth c H locs cells slots Q (F0 m (pc + 3) ls (v :: rest))) : W p l e R s m args below meth c H locs cells slots Q (F0 m pc ls (.ref (G.2.2.1 + k) :: rest)) :=
  sGet Cx inX6 rfl 4 (by decide) w_420 hW hk ht hv hdg kk
theorem c_X6_90 (Cx : sC G p m c cc nL s args RX6) {rm : Room} {mc ms : Nat} (h1 : rm.cells = mc) (h2 : rm.slots = ms) (h3 : rm.frames + 1 ≤ R.frames ∧ 8 + (12 + 11) + rm.locals ≤ R.locals) : CallW R s args RX6 RX0 90 yX0_product cX0_product 12 none (.code yX0_product cX0_product 12 none :: tb) rm mc ms 2 :=
  sCw Cx 2 w_1512 w_1259 w_1260 w_212 w_1261 (by decide +kernel) h1 h2 h3
theorem c_X6_93 (Cx : sC G p m c cc nL s args RX6) {rm : Room} {mc ms : Nat} (h1 : rm.cells = mc) (h2 : rm.slots = ms) (h3 : rm.frames + 1 ≤ R.frames ∧ 8 + (5 + 11) + rm.locals ≤ R.locals) : CallW R s args RX6 RX0 93 yX0_add cX0_add 5 none (.code yX0_add cX0_add 5 none :: tb) rm mc ms 2 :=
  sCw Cx 2 w_1513 w_1280 w_1281 w_212 w_1282 (by decide +kernel) h1 h2 h3
theorem c_X6_97 (Cx : sC G p m c cc nL s args RX6) {rm : Room} {mc ms : Nat} (h1 : rm.cells = mc) (h2 : rm.slots = ms) (h3 : rm.frames + 1 ≤ R.frames ∧ 8 + (1 + 11) + rm.locals ≤ R.locals) : CallW R s args RX6 RX6 97 yX6_isFull cX6_isFull 1 (some .boolean) (.code yX6_isFull cX6_isFull 1 (some .boolean) :: tb) rm mc ms 0 :=
  sCw Cx 0 w_1506 w_1495 w_1496 w_211 w_1497 (by decide +kernel) h1 h2 h3
theorem g_X6_31 (Cx : sC G p m c cc nL s args RX6) (hW : sW G n S H) {k : Nat} (hk : k < n) (ht : tau k = .inl 6) {v : Value} (hv : S.2.2.2 k 5 = v) (hdg : decode cc pc = .ok (.getfield 31, 3)) (kk : W p l e R s m args below meth c H locs cells slots Q (F0 m (pc + 3) ls (v :: rest))) : W p l e R s m args below meth c H locs cells slots Q (F0 m pc ls (.ref (G.2.2.1 + k) :: rest)) :=
  sGet Cx inX6 rfl 5 (by decide) w_421 hW hk ht hv hdg kk
theorem c_X6_101 (Cx : sC G p m c cc nL s args RX6) {rm : Room} {mc ms : Nat} (h1 : rm.cells = mc) (h2 : rm.slots = ms) (h3 : rm.frames + 1 ≤ R.frames ∧ 8 + (4 + 11) + rm.locals ≤ R.locals) : CallW R s args RX6 RX6 101 yX6_combine cX6_combine 4 none (.code yX6_combine cX6_combine 4 none :: tb) rm mc ms 2 :=
  sCw Cx 2 w_1507 w_1508 w_1509 w_211 w_1510 (by decide +kernel) h1 h2 h3
theorem g_X6_34 (Cx : sC G p m c cc nL s args RX6) (hW : sW G n S H) {k : Nat} (hk : k < n) (ht : tau k = .inl 6) {v : Value} (hv : S.2.2.2 k 6 = v) (hdg : decode cc pc = .ok (.getfield 34, 3)) (kk : W p l e R s m args below meth c H locs cells slots Q (F0 m (pc + 3) ls (v :: rest))) : W p l e R s m args below meth c H locs cells slots Q (F0 m pc ls (.ref (G.2.2.1 + k) :: rest)) :=
  sGet Cx inX6 rfl 6 (by decide) w_422 hW hk ht hv hdg kk
theorem g_X6_37 (Cx : sC G p m c cc nL s args RX6) (hW : sW G n S H) {k : Nat} (hk : k < n) (ht : tau k = .inl 6) {v : Value} (hv : S.2.2.2 k 7 = v) (hdg : decode cc pc = .ok (.getfield 37, 3)) (kk : W p l e R s m args below meth c H locs cells slots Q (F0 m (pc + 3) ls (v :: rest))) : W p l e R s m args below meth c H locs cells slots Q (F0 m pc ls (.ref (G.2.2.1 + k) :: rest)) :=
  sGet Cx inX6 rfl 7 (by decide) w_423 hW hk ht hv hdg kk
theorem c_X6_105 (Cx : sC G p m c cc nL s args RX6) {rm : Room} {mc ms : Nat} (h1 : rm.cells = mc) (h2 : rm.slots = ms) (h3 : rm.frames + 1 ≤ R.frames ∧ 8 + (5 + 11) + rm.locals ≤ R.locals) : CallW R s args RX6 RX0 105 yX0_divide cX0_divide 5 none (.code yX0_divide cX0_divide 5 none :: tb) rm mc ms 3 :=
  sCw Cx 3 w_1514 w_1306 w_1307 w_212 w_1308 (by decide +kernel) h1 h2 h3
theorem c_X6_109 (Cx : sC G p m c cc nL s args RX6) {rm : Room} {mc ms : Nat} (h1 : rm.cells = mc) (h2 : rm.slots = ms) (h3 : rm.frames + 1 ≤ R.frames ∧ 8 + (3 + 11) + rm.locals ≤ R.locals) : CallW R s args RX6 RX0 109 yX0_digitCount cX0_digitCount 3 (some .int) (.code yX0_digitCount cX0_digitCount 3 (some .int) :: tb) rm mc ms 0 :=
  sCw Cx 0 w_1515 w_1516 w_1517 w_212 w_1518 (by decide +kernel) h1 h2 h3
theorem c_X6_115 (Cx : sC G p m c cc nL s args RX6) {rm : Room} {mc ms : Nat} (h1 : rm.cells = mc) (h2 : rm.slots = ms) (h3 : rm.frames + 1 ≤ R.frames ∧ 8 + (2 + 11) + rm.locals ≤ R.locals) : CallW R s args RX6 RX0 115 yX0_copy cX0_copy 2 none (.code yX0_copy cX0_copy 2 none :: tb) rm mc ms 1 :=
  sCw Cx 1 w_1552 w_1284 w_1285 w_212 w_1286 (by decide +kernel) h1 h2 h3
theorem c_X6_119 (Cx : sC G p m c cc nL s args RX6) {rm : Room} {mc ms : Nat} (h1 : rm.cells = mc) (h2 : rm.slots = ms) (h3 : rm.frames + 1 ≤ R.frames ∧ 8 + (1 + 11) + rm.locals ≤ R.locals) : CallW R s args RX6 RX0 119 yX0_turn cX0_turn 1 none (.code yX0_turn cX0_turn 1 none :: tb) rm mc ms 0 :=
  sCw Cx 0 w_1553 w_1326 w_1327 w_212 w_1328 (by decide +kernel) h1 h2 h3
end RW30
