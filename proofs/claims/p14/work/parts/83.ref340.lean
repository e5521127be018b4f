theorem dX12_along_0 : decode cX12_along 0 = .ok (.aload_n 0, 1) := by decide +kernel
theorem dX12_along_1 : decode cX12_along 1 = .ok (.getfield 172, 3) := by decide +kernel
theorem dX12_along_4 : decode cX12_along 4 = .ok (.iconst 0, 1) := by decide +kernel
theorem dX12_along_5 : decode cX12_along 5 = .ok (.iconst 0, 1) := by decide +kernel
theorem dX12_along_6 : decode cX12_along 6 = .ok (.iastore, 1) := by decide +kernel
theorem dX12_along_7 : decode cX12_along 7 = .ok (.iconst 1, 1) := by decide +kernel
theorem dX12_along_8 : decode cX12_along 8 = .ok (.istore_n 2, 1) := by decide +kernel
theorem dX12_along_9 : decode cX12_along 9 = .ok (.iload_n 2, 1) := by decide +kernel
theorem dX12_along_10 : decode cX12_along 10 = .ok (.aload_n 0, 1) := by decide +kernel
theorem dX12_along_11 : decode cX12_along 11 = .ok (.getfield 465, 3) := by decide +kernel
theorem dX12_along_14 : decode cX12_along 14 = .ok (.if_icmp .gt 81, 3) := by decide +kernel
theorem dX12_along_17 : decode cX12_along 17 = .ok (.aload_n 0, 1) := by decide +kernel
theorem dX12_along_18 : decode cX12_along 18 = .ok (.getfield 151, 3) := by decide +kernel
theorem dX12_along_21 : decode cX12_along 21 = .ok (.iconst 0, 1) := by decide +kernel
theorem dX12_along_22 : decode cX12_along 22 = .ok (.iload_n 1, 1) := by decide +kernel
theorem dX12_along_23 : decode cX12_along 23 = .ok (.ifCond .ne 12, 3) := by decide +kernel
theorem dX12_along_26 : decode cX12_along 26 = .ok (.aload_n 0, 1) := by decide +kernel
theorem dX12_along_27 : decode cX12_along 27 = .ok (.getfield 97, 3) := by decide +kernel
theorem dX12_along_30 : decode cX12_along 30 = .ok (.iload_n 2, 1) := by decide +kernel
theorem dX12_along_31 : decode cX12_along 31 = .ok (.laload, 1) := by decide +kernel
theorem dX12_along_32 : decode cX12_along 32 = .ok (.goto 14, 3) := by decide +kernel
theorem dX12_along_35 : decode cX12_along 35 = .ok (.aload_n 0, 1) := by decide +kernel
theorem dX12_along_36 : decode cX12_along 36 = .ok (.getfield 190, 3) := by decide +kernel
theorem dX12_along_39 : decode cX12_along 39 = .ok (.bipush 13, 2) := by decide +kernel
theorem dX12_along_41 : decode cX12_along 41 = .ok (.iload_n 1, 1) := by decide +kernel
theorem dX12_along_42 : decode cX12_along 42 = .ok (.imul, 1) := by decide +kernel
theorem dX12_along_43 : decode cX12_along 43 = .ok (.iload_n 2, 1) := by decide +kernel
theorem dX12_along_44 : decode cX12_along 44 = .ok (.iadd, 1) := by decide +kernel
theorem dX12_along_45 : decode cX12_along 45 = .ok (.laload, 1) := by decide +kernel
theorem dX12_along_46 : decode cX12_along 46 = .ok (.invokestatic 241, 3) := by decide +kernel
theorem dX12_along_49 : decode cX12_along 49 = .ok (.aload_n 0, 1) := by decide +kernel
theorem dX12_along_50 : decode cX12_along 50 = .ok (.getfield 175, 3) := by decide +kernel
theorem dX12_along_53 : decode cX12_along 53 = .ok (.bipush 10, 2) := by decide +kernel
theorem dX12_along_55 : decode cX12_along 55 = .ok (.iload_n 2, 1) := by decide +kernel
theorem dX12_along_56 : decode cX12_along 56 = .ok (.imul, 1) := by decide +kernel
theorem dX12_along_57 : decode cX12_along 57 = .ok (.aload_n 0, 1) := by decide +kernel
theorem dX12_along_58 : decode cX12_along 58 = .ok (.getfield 151, 3) := by decide +kernel
theorem dX12_along_61 : decode cX12_along 61 = .ok (.iconst 0, 1) := by decide +kernel
theorem dX12_along_62 : decode cX12_along 62 = .ok (.aload_n 0, 1) := by decide +kernel
theorem dX12_along_63 : decode cX12_along 63 = .ok (.getfield 26, 3) := by decide +kernel
theorem dX12_along_66 : decode cX12_along 66 = .ok (.iconst 0, 1) := by decide +kernel
theorem dX12_along_67 : decode cX12_along 67 = .ok (.invokestatic 548, 3) := by decide +kernel
theorem dX12_along_70 : decode cX12_along 70 = .ok (.aload_n 0, 1) := by decide +kernel
theorem dX12_along_71 : decode cX12_along 71 = .ok (.getfield 172, 3) := by decide +kernel
theorem dX12_along_74 : decode cX12_along 74 = .ok (.iconst 0, 1) := by decide +kernel
theorem dX12_along_75 : decode cX12_along 75 = .ok (.aload_n 0, 1) := by decide +kernel
theorem dX12_along_76 : decode cX12_along 76 = .ok (.getfield 26, 3) := by decide +kernel
theorem dX12_along_79 : decode cX12_along 79 = .ok (.iconst 0, 1) := by decide +kernel
theorem dX12_along_80 : decode cX12_along 80 = .ok (.iconst 0, 1) := by decide +kernel
theorem dX12_along_81 : decode cX12_along 81 = .ok (.aload_n 0, 1) := by decide +kernel
theorem dX12_along_82 : decode cX12_along 82 = .ok (.getfield 172, 3) := by decide +kernel
theorem dX12_along_85 : decode cX12_along 85 = .ok (.iconst 0, 1) := by decide +kernel
theorem dX12_along_86 : decode cX12_along 86 = .ok (.invokestatic 249, 3) := by decide +kernel
theorem dX12_along_89 : decode cX12_along 89 = .ok (.iinc 2 1, 3) := by decide +kernel
theorem dX12_along_92 : decode cX12_along 92 = .ok (.goto (-83), 3) := by decide +kernel
theorem dX12_along_95 : decode cX12_along 95 = .ok (.return_, 1) := by decide +kernel
theorem dX12_isAlong_0 : decode cX12_isAlong 0 = .ok (.iconst 1, 1) := by decide +kernel
theorem dX12_isAlong_1 : decode cX12_isAlong 1 = .ok (.istore_n 1, 1) := by decide +kernel
theorem dX12_isAlong_2 : decode cX12_isAlong 2 = .ok (.iload_n 1, 1) := by decide +kernel
theorem dX12_isAlong_3 : decode cX12_isAlong 3 = .ok (.aload_n 0, 1) := by decide +kernel
theorem dX12_isAlong_4 : decode cX12_isAlong 4 = .ok (.getfield 465, 3) := by decide +kernel
theorem dX12_isAlong_7 : decode cX12_isAlong 7 = .ok (.if_icmp .gt 23, 3) := by decide +kernel
theorem dX12_isAlong_10 : decode cX12_isAlong 10 = .ok (.aload_n 0, 1) := by decide +kernel
theorem dX12_isAlong_11 : decode cX12_isAlong 11 = .ok (.getfield 175, 3) := by decide +kernel
theorem dX12_isAlong_14 : decode cX12_isAlong 14 = .ok (.bipush 10, 2) := by decide +kernel
theorem dX12_isAlong_16 : decode cX12_isAlong 16 = .ok (.iload_n 1, 1) := by decide +kernel
theorem dX12_isAlong_17 : decode cX12_isAlong 17 = .ok (.imul, 1) := by decide +kernel
theorem dX12_isAlong_18 : decode cX12_isAlong 18 = .ok (.iaload, 1) := by decide +kernel
theorem dX12_isAlong_19 : decode cX12_isAlong 19 = .ok (.ifCond .ge 5, 3) := by decide +kernel
theorem dX12_isAlong_22 : decode cX12_isAlong 22 = .ok (.iconst 0, 1) := by decide +kernel
theorem dX12_isAlong_23 : decode cX12_isAlong 23 = .ok (.ireturn, 1) := by decide +kernel
theorem dX12_isAlong_24 : decode cX12_isAlong 24 = .ok (.iinc 1 1, 3) := by decide +kernel
theorem dX12_isAlong_27 : decode cX12_isAlong 27 = .ok (.goto (-25), 3) := by decide +kernel
theorem dX12_isAlong_30 : decode cX12_isAlong 30 = .ok (.iconst 1, 1) := by decide +kernel
theorem dX12_isAlong_31 : decode cX12_isAlong 31 = .ok (.istore_n 1, 1) := by decide +kernel
theorem dX12_isAlong_32 : decode cX12_isAlong 32 = .ok (.iload_n 1, 1) := by decide +kernel
theorem dX12_isAlong_33 : decode cX12_isAlong 33 = .ok (.aload_n 0, 1) := by decide +kernel
theorem dX12_isAlong_34 : decode cX12_isAlong 34 = .ok (.getfield 468, 3) := by decide +kernel
theorem dX12_isAlong_37 : decode cX12_isAlong 37 = .ok (.if_icmp .gt 25, 3) := by decide +kernel
theorem dX12_isAlong_40 : decode cX12_isAlong 40 = .ok (.aload_n 0, 1) := by decide +kernel
theorem dX12_isAlong_41 : decode cX12_isAlong 41 = .ok (.iload_n 1, 1) := by decide +kernel
theorem dX12_isAlong_42 : decode cX12_isAlong 42 = .ok (.invokevirtual 707, 3) := by decide +kernel
theorem dX12_isAlong_45 : decode cX12_isAlong 45 = .ok (.aload_n 0, 1) := by decide +kernel
theorem dX12_isAlong_46 : decode cX12_isAlong 46 = .ok (.getfield 172, 3) := by decide +kernel
theorem dX12_isAlong_49 : decode cX12_isAlong 49 = .ok (.iconst 0, 1) := by decide +kernel
theorem dX12_isAlong_50 : decode cX12_isAlong 50 = .ok (.iaload, 1) := by decide +kernel
theorem dX12_isAlong_51 : decode cX12_isAlong 51 = .ok (.ifCond .le 5, 3) := by decide +kernel
theorem dX12_isAlong_54 : decode cX12_isAlong 54 = .ok (.iconst 0, 1) := by decide +kernel
theorem dX12_isAlong_55 : decode cX12_isAlong 55 = .ok (.ireturn, 1) := by decide +kernel
theorem dX12_isAlong_56 : decode cX12_isAlong 56 = .ok (.iinc 1 1, 3) := by decide +kernel
theorem dX12_isAlong_59 : decode cX12_isAlong 59 = .ok (.goto (-27), 3) := by decide +kernel
theorem dX12_isAlong_62 : decode cX12_isAlong 62 = .ok (.aload_n 0, 1) := by decide +kernel
theorem dX12_isAlong_63 : decode cX12_isAlong 63 = .ok (.iconst 0, 1) := by decide +kernel
theorem dX12_isAlong_64 : decode cX12_isAlong 64 = .ok (.invokevirtual 707, 3) := by decide +kernel
theorem dX12_isAlong_67 : decode cX12_isAlong 67 = .ok (.aload_n 0, 1) := by decide +kernel
theorem dX12_isAlong_68 : decode cX12_isAlong 68 = .ok (.getfield 172, 3) := by decide +kernel
theorem dX12_isAlong_71 : decode cX12_isAlong 71 = .ok (.iconst 0, 1) := by decide +kernel
theorem dX12_isAlong_72 : decode cX12_isAlong 72 = .ok (.iaload, 1) := by decide +kernel
theorem dX12_isAlong_73 : decode cX12_isAlong 73 = .ok (.ifCond .le 7, 3) := by decide +kernel
theorem dX12_isAlong_76 : decode cX12_isAlong 76 = .ok (.iconst 1, 1) := by decide +kernel
theorem dX12_isAlong_77 : decode cX12_isAlong 77 = .ok (.goto 4, 3) := by decide +kernel
theorem dX12_isAlong_80 : decode cX12_isAlong 80 = .ok (.iconst 0, 1) := by decide +kernel
theorem dX12_isAlong_81 : decode cX12_isAlong 81 = .ok (.ireturn, 1) := by decide +kernel
theorem dX12_isPoint_0 : decode cX12_isPoint 0 = .ok (.bipush 10, 2) := by decide +kernel
theorem dX12_isPoint_2 : decode cX12_isPoint 2 = .ok (.aload_n 0, 1) := by decide +kernel
theorem dX12_isPoint_3 : decode cX12_isPoint 3 = .ok (.getfield 465, 3) := by decide +kernel
theorem dX12_isPoint_6 : decode cX12_isPoint 6 = .ok (.iconst 1, 1) := by decide +kernel
theorem dX12_isPoint_7 : decode cX12_isPoint 7 = .ok (.iadd, 1) := by decide +kernel
theorem dX12_isPoint_8 : decode cX12_isPoint 8 = .ok (.imul, 1) := by decide +kernel
theorem dX12_isPoint_9 : decode cX12_isPoint 9 = .ok (.istore_n 2, 1) := by decide +kernel
theorem dX12_isPoint_10 : decode cX12_isPoint 10 = .ok (.iconst 1, 1) := by decide +kernel
theorem dX12_isPoint_11 : decode cX12_isPoint 11 = .ok (.istore_n 3, 1) := by decide +kernel
theorem dX12_isPoint_12 : decode cX12_isPoint 12 = .ok (.iload_n 3, 1) := by decide +kernel
theorem dX12_isPoint_13 : decode cX12_isPoint 13 = .ok (.aload_n 0, 1) := by decide +kernel
theorem dX12_isPoint_14 : decode cX12_isPoint 14 = .ok (.getfield 465, 3) := by decide +kernel
theorem dX12_isPoint_17 : decode cX12_isPoint 17 = .ok (.if_icmp .gt 77, 3) := by decide +kernel
theorem dX12_isPoint_20 : decode cX12_isPoint 20 = .ok (.aload_n 0, 1) := by decide +kernel
theorem dX12_isPoint_21 : decode cX12_isPoint 21 = .ok (.getfield 175, 3) := by decide +kernel
theorem dX12_isPoint_24 : decode cX12_isPoint 24 = .ok (.bipush 10, 2) := by decide +kernel
theorem dX12_isPoint_26 : decode cX12_isPoint 26 = .ok (.iload_n 3, 1) := by decide +kernel
theorem dX12_isPoint_27 : decode cX12_isPoint 27 = .ok (.imul, 1) := by decide +kernel
theorem dX12_isPoint_28 : decode cX12_isPoint 28 = .ok (.iaload, 1) := by decide +kernel
theorem dX12_isPoint_29 : decode cX12_isPoint 29 = .ok (.ifCond .ge 5, 3) := by decide +kernel
theorem dX12_isPoint_32 : decode cX12_isPoint 32 = .ok (.iconst 0, 1) := by decide +kernel
theorem dX12_isPoint_33 : decode cX12_isPoint 33 = .ok (.ireturn, 1) := by decide +kernel
theorem dX12_isPoint_34 : decode cX12_isPoint 34 = .ok (.iload_n 1, 1) := by decide +kernel
theorem dX12_isPoint_35 : decode cX12_isPoint 35 = .ok (.ifCond .eq 53, 3) := by decide +kernel
theorem dX12_isPoint_38 : decode cX12_isPoint 38 = .ok (.aload_n 0, 1) := by decide +kernel
theorem dX12_isPoint_39 : decode cX12_isPoint 39 = .ok (.getfield 94, 3) := by decide +kernel
theorem dX12_isPoint_42 : decode cX12_isPoint 42 = .ok (.iload_n 3, 1) := by decide +kernel
theorem dX12_isPoint_43 : decode cX12_isPoint 43 = .ok (.baload, 1) := by decide +kernel
theorem dX12_isPoint_44 : decode cX12_isPoint 44 = .ok (.ifCond .ne 6, 3) := by decide +kernel
theorem dX12_isPoint_47 : decode cX12_isPoint 47 = .ok (.goto 41, 3) := by decide +kernel
theorem dX12_isPoint_50 : decode cX12_isPoint 50 = .ok (.aload_n 0, 1) := by decide +kernel
theorem dX12_isPoint_51 : decode cX12_isPoint 51 = .ok (.aload_n 0, 1) := by decide +kernel
theorem dX12_isPoint_52 : decode cX12_isPoint 52 = .ok (.getfield 175, 3) := by decide +kernel
theorem dX12_isPoint_55 : decode cX12_isPoint 55 = .ok (.bipush 10, 2) := by decide +kernel
theorem dX12_isPoint_57 : decode cX12_isPoint 57 = .ok (.iload_n 3, 1) := by decide +kernel
theorem dX12_isPoint_58 : decode cX12_isPoint 58 = .ok (.imul, 1) := by decide +kernel
theorem dX12_isPoint_59 : decode cX12_isPoint 59 = .ok (.aload_n 0, 1) := by decide +kernel
theorem dX12_isPoint_60 : decode cX12_isPoint 60 = .ok (.getfield 175, 3) := by decide +kernel
theorem dX12_isPoint_63 : decode cX12_isPoint 63 = .ok (.iload_n 2, 1) := by decide +kernel
theorem dX12_isPoint_64 : decode cX12_isPoint 64 = .ok (.aload_n 0, 1) := by decide +kernel
theorem dX12_isPoint_65 : decode cX12_isPoint 65 = .ok (.getfield 26, 3) := by decide +kernel
theorem dX12_isPoint_68 : decode cX12_isPoint 68 = .ok (.iconst 0, 1) := by decide +kernel
theorem dX12_isPoint_69 : decode cX12_isPoint 69 = .ok (.aload_n 0, 1) := by decide +kernel
theorem dX12_isPoint_70 : decode cX12_isPoint 70 = .ok (.getfield 35, 3) := by decide +kernel
theorem dX12_isPoint_73 : decode cX12_isPoint 73 = .ok (.iconst 0, 1) := by decide +kernel
theorem dX12_isPoint_74 : decode cX12_isPoint 74 = .ok (.invokevirtual 266, 3) := by decide +kernel
theorem dX12_isPoint_77 : decode cX12_isPoint 77 = .ok (.aload_n 0, 1) := by decide +kernel
theorem dX12_isPoint_78 : decode cX12_isPoint 78 = .ok (.getfield 35, 3) := by decide +kernel
theorem dX12_isPoint_81 : decode cX12_isPoint 81 = .ok (.iconst 0, 1) := by decide +kernel
theorem dX12_isPoint_82 : decode cX12_isPoint 82 = .ok (.iaload, 1) := by decide +kernel
theorem dX12_isPoint_83 : decode cX12_isPoint 83 = .ok (.ifCond .eq 5, 3) := by decide +kernel
theorem dX12_isPoint_86 : decode cX12_isPoint 86 = .ok (.iconst 0, 1) := by decide +kernel
theorem dX12_isPoint_87 : decode cX12_isPoint 87 = .ok (.ireturn, 1) := by decide +kernel
theorem dX12_isPoint_88 : decode cX12_isPoint 88 = .ok (.iinc 3 1, 3) := by decide +kernel
theorem dX12_isPoint_91 : decode cX12_isPoint 91 = .ok (.goto (-79), 3) := by decide +kernel
theorem dX12_isPoint_94 : decode cX12_isPoint 94 = .ok (.iconst 1, 1) := by decide +kernel
theorem dX12_isPoint_95 : decode cX12_isPoint 95 = .ok (.istore_n 3, 1) := by decide +kernel
theorem dX12_isPoint_96 : decode cX12_isPoint 96 = .ok (.iload_n 3, 1) := by decide +kernel
theorem dX12_isPoint_97 : decode cX12_isPoint 97 = .ok (.aload_n 0, 1) := by decide +kernel
theorem dX12_isPoint_98 : decode cX12_isPoint 98 = .ok (.getfield 468, 3) := by decide +kernel
theorem dX12_isPoint_101 : decode cX12_isPoint 101 = .ok (.if_icmp .gt 67, 3) := by decide +kernel
theorem dX12_isPoint_104 : decode cX12_isPoint 104 = .ok (.aload_n 0, 1) := by decide +kernel
theorem dX12_isPoint_105 : decode cX12_isPoint 105 = .ok (.iload_n 3, 1) := by decide +kernel
theorem dX12_isPoint_106 : decode cX12_isPoint 106 = .ok (.invokevirtual 707, 3) := by decide +kernel
theorem dX12_isPoint_109 : decode cX12_isPoint 109 = .ok (.aload_n 0, 1) := by decide +kernel
theorem dX12_isPoint_110 : decode cX12_isPoint 110 = .ok (.getfield 151, 3) := by decide +kernel
theorem dX12_isPoint_113 : decode cX12_isPoint 113 = .ok (.iconst 0, 1) := by decide +kernel
theorem dX12_isPoint_114 : decode cX12_isPoint 114 = .ok (.aload_n 0, 1) := by decide +kernel
theorem dX12_isPoint_115 : decode cX12_isPoint 115 = .ok (.getfield 190, 3) := by decide +kernel
theorem dX12_isPoint_118 : decode cX12_isPoint 118 = .ok (.bipush 13, 2) := by decide +kernel
theorem dX12_isPoint_120 : decode cX12_isPoint 120 = .ok (.iload_n 3, 1) := by decide +kernel
theorem dX12_isPoint_121 : decode cX12_isPoint 121 = .ok (.imul, 1) := by decide +kernel
theorem dX12_isPoint_122 : decode cX12_isPoint 122 = .ok (.laload, 1) := by decide +kernel
theorem dX12_isPoint_123 : decode cX12_isPoint 123 = .ok (.invokestatic 241, 3) := by decide +kernel
theorem dX12_isPoint_126 : decode cX12_isPoint 126 = .ok (.aload_n 0, 1) := by decide +kernel
theorem dX12_isPoint_127 : decode cX12_isPoint 127 = .ok (.getfield 175, 3) := by decide +kernel
theorem dX12_isPoint_130 : decode cX12_isPoint 130 = .ok (.iload_n 2, 1) := by decide +kernel
theorem dX12_isPoint_131 : decode cX12_isPoint 131 = .ok (.aload_n 0, 1) := by decide +kernel
theorem dX12_isPoint_132 : decode cX12_isPoint 132 = .ok (.getfield 151, 3) := by decide +kernel
theorem dX12_isPoint_135 : decode cX12_isPoint 135 = .ok (.iconst 0, 1) := by decide +kernel
theorem dX12_isPoint_136 : decode cX12_isPoint 136 = .ok (.aload_n 0, 1) := by decide +kernel
theorem dX12_isPoint_137 : decode cX12_isPoint 137 = .ok (.getfield 26, 3) := by decide +kernel
theorem dX12_isPoint_140 : decode cX12_isPoint 140 = .ok (.iconst 0, 1) := by decide +kernel
theorem dX12_isPoint_141 : decode cX12_isPoint 141 = .ok (.invokestatic 548, 3) := by decide +kernel
theorem dX12_isPoint_144 : decode cX12_isPoint 144 = .ok (.aload_n 0, 1) := by decide +kernel
theorem dX12_isPoint_145 : decode cX12_isPoint 145 = .ok (.getfield 172, 3) := by decide +kernel
theorem dX12_isPoint_148 : decode cX12_isPoint 148 = .ok (.iconst 0, 1) := by decide +kernel
theorem dX12_isPoint_149 : decode cX12_isPoint 149 = .ok (.aload_n 0, 1) := by decide +kernel
theorem dX12_isPoint_150 : decode cX12_isPoint 150 = .ok (.getfield 26, 3) := by decide +kernel
theorem dX12_isPoint_153 : decode cX12_isPoint 153 = .ok (.iconst 0, 1) := by decide +kernel
theorem dX12_isPoint_154 : decode cX12_isPoint 154 = .ok (.invokestatic 552, 3) := by decide +kernel
theorem dX12_isPoint_157 : decode cX12_isPoint 157 = .ok (.ifCond .le 5, 3) := by decide +kernel
theorem dX12_isPoint_160 : decode cX12_isPoint 160 = .ok (.iconst 0, 1) := by decide +kernel
theorem dX12_isPoint_161 : decode cX12_isPoint 161 = .ok (.ireturn, 1) := by decide +kernel
theorem dX12_isPoint_162 : decode cX12_isPoint 162 = .ok (.iinc 3 1, 3) := by decide +kernel
theorem dX12_isPoint_165 : decode cX12_isPoint 165 = .ok (.goto (-69), 3) := by decide +kernel
theorem dX12_isPoint_168 : decode cX12_isPoint 168 = .ok (.iconst 1, 1) := by decide +kernel
theorem dX12_isPoint_169 : decode cX12_isPoint 169 = .ok (.ireturn, 1) := by decide +kernel
theorem dX12_isValue_0 : decode cX12_isValue 0 = .ok (.bipush 10, 2) := by decide +kernel
theorem dX12_isValue_2 : decode cX12_isValue 2 = .ok (.aload_n 0, 1) := by decide +kernel
theorem dX12_isValue_3 : decode cX12_isValue 3 = .ok (.getfield 465, 3) := by decide +kernel
theorem dX12_isValue_6 : decode cX12_isValue 6 = .ok (.iconst 1, 1) := by decide +kernel
theorem dX12_isValue_7 : decode cX12_isValue 7 = .ok (.iadd, 1) := by decide +kernel
theorem dX12_isValue_8 : decode cX12_isValue 8 = .ok (.imul, 1) := by decide +kernel
theorem dX12_isValue_9 : decode cX12_isValue 9 = .ok (.istore_n 1, 1) := by decide +kernel
theorem dX12_isValue_10 : decode cX12_isValue 10 = .ok (.aload_n 0, 1) := by decide +kernel
theorem dX12_isValue_11 : decode cX12_isValue 11 = .ok (.iconst 0, 1) := by decide +kernel
theorem dX12_isValue_12 : decode cX12_isValue 12 = .ok (.invokevirtual 707, 3) := by decide +kernel
theorem dX12_isValue_15 : decode cX12_isValue 15 = .ok (.aload_n 0, 1) := by decide +kernel
theorem dX12_isValue_16 : decode cX12_isValue 16 = .ok (.getfield 151, 3) := by decide +kernel
theorem dX12_isValue_19 : decode cX12_isValue 19 = .ok (.iconst 0, 1) := by decide +kernel
theorem dX12_isValue_20 : decode cX12_isValue 20 = .ok (.aload_n 0, 1) := by decide +kernel
theorem dX12_isValue_21 : decode cX12_isValue 21 = .ok (.getfield 97, 3) := by decide +kernel
theorem dX12_isValue_24 : decode cX12_isValue 24 = .ok (.iconst 0, 1) := by decide +kernel
theorem dX12_isValue_25 : decode cX12_isValue 25 = .ok (.laload, 1) := by decide +kernel
theorem dX12_isValue_26 : decode cX12_isValue 26 = .ok (.invokestatic 241, 3) := by decide +kernel
theorem dX12_isValue_29 : decode cX12_isValue 29 = .ok (.aload_n 0, 1) := by decide +kernel
theorem dX12_isValue_30 : decode cX12_isValue 30 = .ok (.getfield 175, 3) := by decide +kernel
theorem dX12_isValue_33 : decode cX12_isValue 33 = .ok (.iload_n 1, 1) := by decide +kernel
theorem dX12_isValue_34 : decode cX12_isValue 34 = .ok (.aload_n 0, 1) := by decide +kernel
theorem dX12_isValue_35 : decode cX12_isValue 35 = .ok (.getfield 151, 3) := by decide +kernel
theorem dX12_isValue_38 : decode cX12_isValue 38 = .ok (.iconst 0, 1) := by decide +kernel
theorem dX12_isValue_39 : decode cX12_isValue 39 = .ok (.aload_n 0, 1) := by decide +kernel
theorem dX12_isValue_40 : decode cX12_isValue 40 = .ok (.getfield 26, 3) := by decide +kernel
theorem dX12_isValue_43 : decode cX12_isValue 43 = .ok (.iconst 0, 1) := by decide +kernel
theorem dX12_isValue_44 : decode cX12_isValue 44 = .ok (.invokestatic 548, 3) := by decide +kernel
theorem dX12_isValue_47 : decode cX12_isValue 47 = .ok (.aload_n 0, 1) := by decide +kernel
theorem dX12_isValue_48 : decode cX12_isValue 48 = .ok (.getfield 172, 3) := by decide +kernel
theorem dX12_isValue_51 : decode cX12_isValue 51 = .ok (.iconst 0, 1) := by decide +kernel
theorem dX12_isValue_52 : decode cX12_isValue 52 = .ok (.aload_n 0, 1) := by decide +kernel
theorem dX12_isValue_53 : decode cX12_isValue 53 = .ok (.getfield 26, 3) := by decide +kernel
theorem dX12_isValue_56 : decode cX12_isValue 56 = .ok (.iconst 0, 1) := by decide +kernel
theorem dX12_isValue_57 : decode cX12_isValue 57 = .ok (.iconst 0, 1) := by decide +kernel
theorem dX12_isValue_58 : decode cX12_isValue 58 = .ok (.aload_n 0, 1) := by decide +kernel
theorem dX12_isValue_59 : decode cX12_isValue 59 = .ok (.getfield 172, 3) := by decide +kernel
theorem dX12_isValue_62 : decode cX12_isValue 62 = .ok (.iconst 0, 1) := by decide +kernel
theorem dX12_isValue_63 : decode cX12_isValue 63 = .ok (.invokestatic 249, 3) := by decide +kernel
theorem dX12_isValue_66 : decode cX12_isValue 66 = .ok (.aload_n 0, 1) := by decide +kernel
theorem dX12_isValue_67 : decode cX12_isValue 67 = .ok (.getfield 172, 3) := by decide +kernel
theorem dX12_isValue_70 : decode cX12_isValue 70 = .ok (.iconst 0, 1) := by decide +kernel
theorem dX12_isValue_71 : decode cX12_isValue 71 = .ok (.aload_n 0, 1) := by decide +kernel
theorem dX12_isValue_72 : decode cX12_isValue 72 = .ok (.getfield 181, 3) := by decide +kernel
theorem dX12_isValue_75 : decode cX12_isValue 75 = .ok (.iconst 0, 1) := by decide +kernel
theorem dX12_isValue_76 : decode cX12_isValue 76 = .ok (.aload_n 0, 1) := by decide +kernel
theorem dX12_isValue_77 : decode cX12_isValue 77 = .ok (.getfield 26, 3) := by decide +kernel
theorem dX12_isValue_80 : decode cX12_isValue 80 = .ok (.iconst 0, 1) := by decide +kernel
theorem dX12_isValue_81 : decode cX12_isValue 81 = .ok (.invokestatic 548, 3) := by decide +kernel
theorem dX12_isValue_84 : decode cX12_isValue 84 = .ok (.aload_n 0, 1) := by decide +kernel
theorem dX12_isValue_85 : decode cX12_isValue 85 = .ok (.getfield 178, 3) := by decide +kernel
theorem dX12_isValue_88 : decode cX12_isValue 88 = .ok (.iconst 0, 1) := by decide +kernel
theorem dX12_isValue_89 : decode cX12_isValue 89 = .ok (.aload_n 0, 1) := by decide +kernel
theorem dX12_isValue_90 : decode cX12_isValue 90 = .ok (.getfield 175, 3) := by decide +kernel
theorem dX12_isValue_93 : decode cX12_isValue 93 = .ok (.iload_n 1, 1) := by decide +kernel
theorem dX12_isValue_94 : decode cX12_isValue 94 = .ok (.aload_n 0, 1) := by decide +kernel
theorem dX12_isValue_95 : decode cX12_isValue 95 = .ok (.getfield 29, 3) := by decide +kernel
theorem dX12_isValue_98 : decode cX12_isValue 98 = .ok (.iconst 0, 1) := by decide +kernel
theorem dX12_isValue_99 : decode cX12_isValue 99 = .ok (.invokestatic 548, 3) := by decide +kernel
theorem dX12_isValue_102 : decode cX12_isValue 102 = .ok (.aload_n 0, 1) := by decide +kernel
theorem dX12_isValue_103 : decode cX12_isValue 103 = .ok (.getfield 26, 3) := by decide +kernel
theorem dX12_isValue_106 : decode cX12_isValue 106 = .ok (.iconst 0, 1) := by decide +kernel
theorem dX12_isValue_107 : decode cX12_isValue 107 = .ok (.aload_n 0, 1) := by decide +kernel
theorem dX12_isValue_108 : decode cX12_isValue 108 = .ok (.getfield 29, 3) := by decide +kernel
theorem dX12_isValue_111 : decode cX12_isValue 111 = .ok (.iconst 0, 1) := by decide +kernel
theorem dX12_isValue_112 : decode cX12_isValue 112 = .ok (.invokestatic 552, 3) := by decide +kernel
theorem dX12_isValue_115 : decode cX12_isValue 115 = .ok (.ifCond .ne 7, 3) := by decide +kernel
theorem dX12_isValue_118 : decode cX12_isValue 118 = .ok (.iconst 1, 1) := by decide +kernel
theorem dX12_isValue_119 : decode cX12_isValue 119 = .ok (.goto 4, 3) := by decide +kernel
theorem dX12_isValue_122 : decode cX12_isValue 122 = .ok (.iconst 0, 1) := by decide +kernel
theorem dX12_isValue_123 : decode cX12_isValue 123 = .ok (.ireturn, 1) := by decide +kernel
theorem dX12_pointHere_0 : decode cX12_pointHere 0 = .ok (.iconst 1, 1) := by decide +kernel
theorem dX12_pointHere_1 : decode cX12_pointHere 1 = .ok (.istore_n 1, 1) := by decide +kernel
theorem dX12_pointHere_2 : decode cX12_pointHere 2 = .ok (.iload_n 1, 1) := by decide +kernel
theorem dX12_pointHere_3 : decode cX12_pointHere 3 = .ok (.aload_n 0, 1) := by decide +kernel
theorem dX12_pointHere_4 : decode cX12_pointHere 4 = .ok (.getfield 465, 3) := by decide +kernel
theorem dX12_pointHere_7 : decode cX12_pointHere 7 = .ok (.if_icmp .gt 35, 3) := by decide +kernel
theorem dX12_pointHere_10 : decode cX12_pointHere 10 = .ok (.aload_n 0, 1) := by decide +kernel
theorem dX12_pointHere_11 : decode cX12_pointHere 11 = .ok (.aload_n 0, 1) := by decide +kernel
theorem dX12_pointHere_12 : decode cX12_pointHere 12 = .ok (.getfield 315, 3) := by decide +kernel
theorem dX12_pointHere_15 : decode cX12_pointHere 15 = .ok (.aload_n 0, 1) := by decide +kernel
theorem dX12_pointHere_16 : decode cX12_pointHere 16 = .ok (.getfield 175, 3) := by decide +kernel
theorem dX12_pointHere_19 : decode cX12_pointHere 19 = .ok (.bipush 10, 2) := by decide +kernel
theorem dX12_pointHere_21 : decode cX12_pointHere 21 = .ok (.iload_n 1, 1) := by decide +kernel
theorem dX12_pointHere_22 : decode cX12_pointHere 22 = .ok (.imul, 1) := by decide +kernel
theorem dX12_pointHere_23 : decode cX12_pointHere 23 = .ok (.invokevirtual 703, 3) := by decide +kernel
theorem dX12_pointHere_26 : decode cX12_pointHere 26 = .ok (.aload_n 0, 1) := by decide +kernel
theorem dX12_pointHere_27 : decode cX12_pointHere 27 = .ok (.dup, 1) := by decide +kernel
theorem dX12_pointHere_28 : decode cX12_pointHere 28 = .ok (.getfield 315, 3) := by decide +kernel
theorem dX12_pointHere_31 : decode cX12_pointHere 31 = .ok (.iconst 1, 1) := by decide +kernel
theorem dX12_pointHere_32 : decode cX12_pointHere 32 = .ok (.iadd, 1) := by decide +kernel
theorem dX12_pointHere_33 : decode cX12_pointHere 33 = .ok (.putfield 315, 3) := by decide +kernel
theorem dX12_pointHere_36 : decode cX12_pointHere 36 = .ok (.iinc 1 1, 3) := by decide +kernel
theorem dX12_pointHere_39 : decode cX12_pointHere 39 = .ok (.goto (-37), 3) := by decide +kernel
theorem dX12_pointHere_42 : decode cX12_pointHere 42 = .ok (.aload_n 0, 1) := by decide +kernel
theorem dX12_pointHere_43 : decode cX12_pointHere 43 = .ok (.dup, 1) := by decide +kernel
theorem dX12_pointHere_44 : decode cX12_pointHere 44 = .ok (.getfield 315, 3) := by decide +kernel
theorem dX12_pointHere_47 : decode cX12_pointHere 47 = .ok (.iconst 1, 1) := by decide +kernel
theorem dX12_pointHere_48 : decode cX12_pointHere 48 = .ok (.iadd, 1) := by decide +kernel
theorem dX12_pointHere_49 : decode cX12_pointHere 49 = .ok (.putfield 315, 3) := by decide +kernel
theorem dX12_pointHere_52 : decode cX12_pointHere 52 = .ok (.aload_n 0, 1) := by decide +kernel
theorem dX12_pointHere_53 : decode cX12_pointHere 53 = .ok (.aload_n 0, 1) := by decide +kernel
theorem dX12_pointHere_54 : decode cX12_pointHere 54 = .ok (.getfield 315, 3) := by decide +kernel
theorem dX12_pointHere_57 : decode cX12_pointHere 57 = .ok (.aload_n 0, 1) := by decide +kernel
theorem dX12_pointHere_58 : decode cX12_pointHere 58 = .ok (.getfield 175, 3) := by decide +kernel
theorem dX12_pointHere_61 : decode cX12_pointHere 61 = .ok (.bipush 10, 2) := by decide +kernel
theorem dX12_pointHere_63 : decode cX12_pointHere 63 = .ok (.aload_n 0, 1) := by decide +kernel
theorem dX12_pointHere_64 : decode cX12_pointHere 64 = .ok (.getfield 465, 3) := by decide +kernel
theorem dX12_pointHere_67 : decode cX12_pointHere 67 = .ok (.iconst 1, 1) := by decide +kernel
theorem dX12_pointHere_68 : decode cX12_pointHere 68 = .ok (.iadd, 1) := by decide +kernel
theorem dX12_pointHere_69 : decode cX12_pointHere 69 = .ok (.imul, 1) := by decide +kernel
theorem dX12_pointHere_70 : decode cX12_pointHere 70 = .ok (.invokevirtual 703, 3) := by decide +kernel
theorem dX12_pointHere_73 : decode cX12_pointHere 73 = .ok (.aload_n 0, 1) := by decide +kernel
theorem dX12_pointHere_74 : decode cX12_pointHere 74 = .ok (.dup, 1) := by decide +kernel
theorem dX12_pointHere_75 : decode cX12_pointHere 75 = .ok (.getfield 315, 3) := by decide +kernel
theorem dX12_pointHere_78 : decode cX12_pointHere 78 = .ok (.iconst 1, 1) := by decide +kernel
theorem dX12_pointHere_79 : decode cX12_pointHere 79 = .ok (.iadd, 1) := by decide +kernel
theorem dX12_pointHere_80 : decode cX12_pointHere 80 = .ok (.putfield 315, 3) := by decide +kernel
theorem dX12_pointHere_83 : decode cX12_pointHere 83 = .ok (.return_, 1) := by decide +kernel
theorem w_188 : Cond.selects RX12 yX12_numberAt yX12_numberAt ∈ tb := sel_12 (q := (yX12_numberAt, 105)) 12 (by decide +kernel)
theorem w_191 : Cond.selects RX12 yX12_along yX12_along ∈ tb := sel_12 (q := (yX12_along, 105)) 15 (by decide +kernel)
theorem w_2055 : Cond.fieldLink RX12 172 (TX12 94).1 (TX12 94).2.1 (TX12 94).2.2.1 ∈ tb := tbc_8 172 (by decide +kernel) rfl
theorem w_2056 : Cond.fieldLink RX12 175 (TX12 95).1 (TX12 95).2.1 (TX12 95).2.2.1 ∈ tb := tbc_8 173 (by decide +kernel) rfl
theorem w_2057 : Cond.fieldLink RX12 178 (TX12 96).1 (TX12 96).2.1 (TX12 96).2.2.1 ∈ tb := tbc_8 174 (by decide +kernel) rfl
theorem w_2058 : Cond.fieldLink RX12 181 (TX12 97).1 (TX12 97).2.1 (TX12 97).2.2.1 ∈ tb := tbc_8 175 (by decide +kernel) rfl
theorem w_2741 : Cond.methodLink RX12 703 yX12_numberAt ∈ tb := tbc_11 138 (by decide +kernel) rfl
theorem w_2743 : Cond.instanceMethod yX12_numberAt ∈ tb := tbc_11 140 (by decide +kernel) rfl
theorem w_2744 : Cond.code yX12_numberAt cX12_numberAt 10 none ∈ tb := tbc_11 141 (by decide +kernel) rfl
theorem w_2754 : Cond.methodLink RX12 707 yX12_along ∈ tb := tbc_11 151 (by decide +kernel) rfl
theorem w_2756 : Cond.instanceMethod yX12_along ∈ tb := tbc_11 153 (by decide +kernel) rfl
theorem w_2757 : Cond.code yX12_along cX12_along 3 none ∈ tb := tbc_11 154 (by decide +kernel) rfl
section RW83
variable {p : Program} {l : Launch} {e : Env} {R : Room} {s : State} {m : MethodId} {args : Array Value} {below : List Frame} {meth : Method} {c : Code} {H : Heap} {locs : List Loc} {cells slots : Nat} {Q : State → Prop}
variable {cc : ByteArray} {pc nL : Nat} {ls : Array Slot} {rest st0 : List Value} {G : sG} {n : Nat} {S : sS}
theorem g_X12_175 (Cx : sC G p m c cc nL s args RX12) (hW : sW G n S H) {k : Nat} (hk : k < n) (ht : tau k = .inl 12) {v : Value} (hv : S.2.2.2 k 95 = v) (hdg : decode cc pc = .ok (.getfield 175, 3)) (kk : W p l e R s m args below meth c H locs cells slots Q (F0 m (pc + 3) ls (v :: rest))) : W p l e R s m args below meth c H locs cells slots Q (F0 m pc ls (.ref (G.2.2.1 + k) :: rest)) :=
  sGet Cx inX12 rfl 95 (by decide) w_2056 hW hk ht hv hdg kk
theorem c_X12_703 (Cx : sC G p m c cc nL s args RX12) {rm : Room} {mc ms : Nat} (h1 : rm.cells = mc) (h2 : rm.slots = ms) (h3 : rm.frames + 1 ≤ R.frames ∧ 8 + (10 + 11) + rm.locals ≤ R.locals) : CallW R s args RX12 RX12 703 yX12_numberAt cX12_numberAt 10 none (.code yX12_numberAt cX12_numberAt 10 none :: tb) rm mc ms 3 :=
  sCw Cx 3 w_2741 w_2743 w_188 w_217 w_2744 (by decide +kernel) h1 h2 h3
theorem g_X12_172 (Cx : sC G p m c cc nL s args RX12) (hW : sW G n S H) {k : Nat} (hk : k < n) (ht : tau k = .inl 12) {v : Value} (hv : S.2.2.2 k 94 = v) (hdg : decode cc pc = .ok (.getfield 172, 3)) (kk : W p l e R s m args below meth c H locs cells slots Q (F0 m (pc + 3) ls (v :: rest))) : W p l e R s m args below meth c H locs cells slots Q (F0 m pc ls (.ref (G.2.2.1 + k) :: rest)) :=
  sGet Cx inX12 rfl 94 (by decide) w_2055 hW hk ht hv hdg kk
theorem c_X12_707 (Cx : sC G p m c cc nL s args RX12) {rm : Room} {mc ms : Nat} (h1 : rm.cells = mc) (h2 : rm.slots = ms) (h3 : rm.frames + 1 ≤ R.frames ∧ 8 + (3 + 11) + rm.locals ≤ R.locals) : CallW R s args RX12 RX12 707 yX12_along cX12_along 3 none (.code yX12_along cX12_along 3 none :: tb) rm mc ms 1 :=
  sCw Cx 1 w_2754 w_2756 w_191 w_217 w_2757 (by decide +kernel) h1 h2 h3
theorem g_X12_181 (Cx : sC G p m c cc nL s args RX12) (hW : sW G n S H) {k : Nat} (hk : k < n) (ht : tau k = .inl 12) {v : Value} (hv : S.2.2.2 k 97 = v) (hdg : decode cc pc = .ok (.getfield 181, 3)) (kk : W p l e R s m args below meth c H locs cells slots Q (F0 m (pc + 3) ls (v :: rest))) : W p l e R s m args below meth c H locs cells slots Q (F0 m pc ls (.ref (G.2.2.1 + k) :: rest)) :=
  sGet Cx inX12 rfl 97 (by decide) w_2058 hW hk ht hv hdg kk
theorem g_X12_178 (Cx : sC G p m c cc nL s args RX12) (hW : sW G n S H) {k : Nat} (hk : k < n) (ht : tau k = .inl 12) {v : Value} (hv : S.2.2.2 k 96 = v) (hdg : decode cc pc = .ok (.getfield 178, 3)) (kk : W p l e R s m args below meth c H locs cells slots Q (F0 m (pc + 3) ls (v :: rest))) : W p l e R s m args below meth c H locs cells slots Q (F0 m pc ls (.ref (G.2.2.1 + k) :: rest)) :=
  sGet Cx inX12 rfl 96 (by decide) w_2057 hW hk ht hv hdg kk
end RW83
