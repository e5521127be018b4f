theorem dX2_addCut_0 : decode cX2_addCut 0 = .ok (.aload_n 0, 1) := by decide +kernel
theorem dX2_addCut_1 : decode cX2_addCut 1 = .ok (.getfield 66, 3) := by decide +kernel
theorem dX2_addCut_4 : decode cX2_addCut 4 = .ok (.bipush 40, 2) := by decide +kernel
theorem dX2_addCut_6 : decode cX2_addCut 6 = .ok (.if_icmp .lt 4, 3) := by decide +kernel
theorem dX2_addCut_9 : decode cX2_addCut 9 = .ok (.return_, 1) := by decide +kernel
theorem dX2_addCut_10 : decode cX2_addCut 10 = .ok (.iconst 0, 1) := by decide +kernel
theorem dX2_addCut_11 : decode cX2_addCut 11 = .ok (.istore_n 2, 1) := by decide +kernel
theorem dX2_addCut_12 : decode cX2_addCut 12 = .ok (.iload_n 2, 1) := by decide +kernel
theorem dX2_addCut_13 : decode cX2_addCut 13 = .ok (.aload_n 0, 1) := by decide +kernel
theorem dX2_addCut_14 : decode cX2_addCut 14 = .ok (.getfield 67, 3) := by decide +kernel
theorem dX2_addCut_17 : decode cX2_addCut 17 = .ok (.if_icmp .gt 61, 3) := by decide +kernel
theorem dX2_addCut_20 : decode cX2_addCut 20 = .ok (.aload_n 0, 1) := by decide +kernel
theorem dX2_addCut_21 : decode cX2_addCut 21 = .ok (.getfield 41, 3) := by decide +kernel
theorem dX2_addCut_24 : decode cX2_addCut 24 = .ok (.aload_n 0, 1) := by decide +kernel
theorem dX2_addCut_25 : decode cX2_addCut 25 = .ok (.getfield 13, 3) := by decide +kernel
theorem dX2_addCut_28 : decode cX2_addCut 28 = .ok (.iload_n 1, 1) := by decide +kernel
theorem dX2_addCut_29 : decode cX2_addCut 29 = .ok (.iload_n 2, 1) := by decide +kernel
theorem dX2_addCut_30 : decode cX2_addCut 30 = .ok (.invokestatic 77, 3) := by decide +kernel
theorem dX2_addCut_33 : decode cX2_addCut 33 = .ok (.invokevirtual 106, 3) := by decide +kernel
theorem dX2_addCut_36 : decode cX2_addCut 36 = .ok (.aload_n 0, 1) := by decide +kernel
theorem dX2_addCut_37 : decode cX2_addCut 37 = .ok (.aload_n 0, 1) := by decide +kernel
theorem dX2_addCut_38 : decode cX2_addCut 38 = .ok (.getfield 41, 3) := by decide +kernel
theorem dX2_addCut_41 : decode cX2_addCut 41 = .ok (.invokevirtual 203, 3) := by decide +kernel
theorem dX2_addCut_44 : decode cX2_addCut 44 = .ok (.aload_n 0, 1) := by decide +kernel
theorem dX2_addCut_45 : decode cX2_addCut 45 = .ok (.getfield 41, 3) := by decide +kernel
theorem dX2_addCut_48 : decode cX2_addCut 48 = .ok (.invokevirtual 134, 3) := by decide +kernel
theorem dX2_addCut_51 : decode cX2_addCut 51 = .ok (.aload_n 0, 1) := by decide +kernel
theorem dX2_addCut_52 : decode cX2_addCut 52 = .ok (.getfield 41, 3) := by decide +kernel
theorem dX2_addCut_55 : decode cX2_addCut 55 = .ok (.aload_n 0, 1) := by decide +kernel
theorem dX2_addCut_56 : decode cX2_addCut 56 = .ok (.getfield 13, 3) := by decide +kernel
theorem dX2_addCut_59 : decode cX2_addCut 59 = .ok (.aload_n 0, 1) := by decide +kernel
theorem dX2_addCut_60 : decode cX2_addCut 60 = .ok (.getfield 66, 3) := by decide +kernel
theorem dX2_addCut_63 : decode cX2_addCut 63 = .ok (.iconst 1, 1) := by decide +kernel
theorem dX2_addCut_64 : decode cX2_addCut 64 = .ok (.iadd, 1) := by decide +kernel
theorem dX2_addCut_65 : decode cX2_addCut 65 = .ok (.iload_n 2, 1) := by decide +kernel
theorem dX2_addCut_66 : decode cX2_addCut 66 = .ok (.invokestatic 77, 3) := by decide +kernel
theorem dX2_addCut_69 : decode cX2_addCut 69 = .ok (.invokevirtual 154, 3) := by decide +kernel
theorem dX2_addCut_72 : decode cX2_addCut 72 = .ok (.iinc 2 1, 3) := by decide +kernel
theorem dX2_addCut_75 : decode cX2_addCut 75 = .ok (.goto (-63), 3) := by decide +kernel
theorem dX2_addCut_78 : decode cX2_addCut 78 = .ok (.aload_n 0, 1) := by decide +kernel
theorem dX2_addCut_79 : decode cX2_addCut 79 = .ok (.invokevirtual 206, 3) := by decide +kernel
theorem dX2_addCut_82 : decode cX2_addCut 82 = .ok (.return_, 1) := by decide +kernel
theorem dX2_addLimit_0 : decode cX2_addLimit 0 = .ok (.aload_n 0, 1) := by decide +kernel
theorem dX2_addLimit_1 : decode cX2_addLimit 1 = .ok (.getfield 66, 3) := by decide +kernel
theorem dX2_addLimit_4 : decode cX2_addLimit 4 = .ok (.bipush 40, 2) := by decide +kernel
theorem dX2_addLimit_6 : decode cX2_addLimit 6 = .ok (.if_icmp .lt 4, 3) := by decide +kernel
theorem dX2_addLimit_9 : decode cX2_addLimit 9 = .ok (.return_, 1) := by decide +kernel
theorem dX2_addLimit_10 : decode cX2_addLimit 10 = .ok (.aload_n 0, 1) := by decide +kernel
theorem dX2_addLimit_11 : decode cX2_addLimit 11 = .ok (.getfield 41, 3) := by decide +kernel
theorem dX2_addLimit_14 : decode cX2_addLimit 14 = .ok (.aload_n 0, 1) := by decide +kernel
theorem dX2_addLimit_15 : decode cX2_addLimit 15 = .ok (.getfield 13, 3) := by decide +kernel
theorem dX2_addLimit_18 : decode cX2_addLimit 18 = .ok (.iload_n 1, 1) := by decide +kernel
theorem dX2_addLimit_19 : decode cX2_addLimit 19 = .ok (.iconst 0, 1) := by decide +kernel
theorem dX2_addLimit_20 : decode cX2_addLimit 20 = .ok (.invokestatic 77, 3) := by decide +kernel
theorem dX2_addLimit_23 : decode cX2_addLimit 23 = .ok (.invokevirtual 106, 3) := by decide +kernel
theorem dX2_addLimit_26 : decode cX2_addLimit 26 = .ok (.aload_n 0, 1) := by decide +kernel
theorem dX2_addLimit_27 : decode cX2_addLimit 27 = .ok (.aload_n 0, 1) := by decide +kernel
theorem dX2_addLimit_28 : decode cX2_addLimit 28 = .ok (.getfield 41, 3) := by decide +kernel
theorem dX2_addLimit_31 : decode cX2_addLimit 31 = .ok (.invokevirtual 203, 3) := by decide +kernel
theorem dX2_addLimit_34 : decode cX2_addLimit 34 = .ok (.iload_n 2, 1) := by decide +kernel
theorem dX2_addLimit_35 : decode cX2_addLimit 35 = .ok (.ifCond .eq 18, 3) := by decide +kernel
theorem dX2_addLimit_38 : decode cX2_addLimit 38 = .ok (.aload_n 0, 1) := by decide +kernel
theorem dX2_addLimit_39 : decode cX2_addLimit 39 = .ok (.getfield 41, 3) := by decide +kernel
theorem dX2_addLimit_42 : decode cX2_addLimit 42 = .ok (.aload_n 0, 1) := by decide +kernel
theorem dX2_addLimit_43 : decode cX2_addLimit 43 = .ok (.getfield 35, 3) := by decide +kernel
theorem dX2_addLimit_46 : decode cX2_addLimit 46 = .ok (.iconst (-1), 1) := by decide +kernel
theorem dX2_addLimit_47 : decode cX2_addLimit 47 = .ok (.invokevirtual 196, 3) := by decide +kernel
theorem dX2_addLimit_50 : decode cX2_addLimit 50 = .ok (.goto 10, 3) := by decide +kernel
theorem dX2_addLimit_53 : decode cX2_addLimit 53 = .ok (.aload_n 0, 1) := by decide +kernel
theorem dX2_addLimit_54 : decode cX2_addLimit 54 = .ok (.getfield 41, 3) := by decide +kernel
theorem dX2_addLimit_57 : decode cX2_addLimit 57 = .ok (.invokevirtual 134, 3) := by decide +kernel
theorem dX2_addLimit_60 : decode cX2_addLimit 60 = .ok (.aload_n 0, 1) := by decide +kernel
theorem dX2_addLimit_61 : decode cX2_addLimit 61 = .ok (.getfield 41, 3) := by decide +kernel
theorem dX2_addLimit_64 : decode cX2_addLimit 64 = .ok (.aload_n 0, 1) := by decide +kernel
theorem dX2_addLimit_65 : decode cX2_addLimit 65 = .ok (.getfield 13, 3) := by decide +kernel
theorem dX2_addLimit_68 : decode cX2_addLimit 68 = .ok (.aload_n 0, 1) := by decide +kernel
theorem dX2_addLimit_69 : decode cX2_addLimit 69 = .ok (.getfield 66, 3) := by decide +kernel
theorem dX2_addLimit_72 : decode cX2_addLimit 72 = .ok (.iconst 1, 1) := by decide +kernel
theorem dX2_addLimit_73 : decode cX2_addLimit 73 = .ok (.iadd, 1) := by decide +kernel
theorem dX2_addLimit_74 : decode cX2_addLimit 74 = .ok (.iconst 0, 1) := by decide +kernel
theorem dX2_addLimit_75 : decode cX2_addLimit 75 = .ok (.invokestatic 77, 3) := by decide +kernel
theorem dX2_addLimit_78 : decode cX2_addLimit 78 = .ok (.invokevirtual 154, 3) := by decide +kernel
theorem dX2_addLimit_81 : decode cX2_addLimit 81 = .ok (.iconst 1, 1) := by decide +kernel
theorem dX2_addLimit_82 : decode cX2_addLimit 82 = .ok (.istore_n 3, 1) := by decide +kernel
theorem dX2_addLimit_83 : decode cX2_addLimit 83 = .ok (.iload_n 3, 1) := by decide +kernel
theorem dX2_addLimit_84 : decode cX2_addLimit 84 = .ok (.aload_n 0, 1) := by decide +kernel
theorem dX2_addLimit_85 : decode cX2_addLimit 85 = .ok (.getfield 67, 3) := by decide +kernel
theorem dX2_addLimit_88 : decode cX2_addLimit 88 = .ok (.if_icmp .gt 57, 3) := by decide +kernel
theorem dX2_addLimit_91 : decode cX2_addLimit 91 = .ok (.aload_n 0, 1) := by decide +kernel
theorem dX2_addLimit_92 : decode cX2_addLimit 92 = .ok (.getfield 41, 3) := by decide +kernel
theorem dX2_addLimit_95 : decode cX2_addLimit 95 = .ok (.aload_n 0, 1) := by decide +kernel
theorem dX2_addLimit_96 : decode cX2_addLimit 96 = .ok (.getfield 13, 3) := by decide +kernel
theorem dX2_addLimit_99 : decode cX2_addLimit 99 = .ok (.iload_n 1, 1) := by decide +kernel
theorem dX2_addLimit_100 : decode cX2_addLimit 100 = .ok (.iload_n 3, 1) := by decide +kernel
theorem dX2_addLimit_101 : decode cX2_addLimit 101 = .ok (.invokestatic 77, 3) := by decide +kernel
theorem dX2_addLimit_104 : decode cX2_addLimit 104 = .ok (.invokevirtual 106, 3) := by decide +kernel
theorem dX2_addLimit_107 : decode cX2_addLimit 107 = .ok (.iload_n 2, 1) := by decide +kernel
theorem dX2_addLimit_108 : decode cX2_addLimit 108 = .ok (.ifCond .ne 10, 3) := by decide +kernel
theorem dX2_addLimit_111 : decode cX2_addLimit 111 = .ok (.aload_n 0, 1) := by decide +kernel
theorem dX2_addLimit_112 : decode cX2_addLimit 112 = .ok (.getfield 41, 3) := by decide +kernel
theorem dX2_addLimit_115 : decode cX2_addLimit 115 = .ok (.invokevirtual 134, 3) := by decide +kernel
theorem dX2_addLimit_118 : decode cX2_addLimit 118 = .ok (.aload_n 0, 1) := by decide +kernel
theorem dX2_addLimit_119 : decode cX2_addLimit 119 = .ok (.getfield 41, 3) := by decide +kernel
theorem dX2_addLimit_122 : decode cX2_addLimit 122 = .ok (.aload_n 0, 1) := by decide +kernel
theorem dX2_addLimit_123 : decode cX2_addLimit 123 = .ok (.getfield 13, 3) := by decide +kernel
theorem dX2_addLimit_126 : decode cX2_addLimit 126 = .ok (.aload_n 0, 1) := by decide +kernel
theorem dX2_addLimit_127 : decode cX2_addLimit 127 = .ok (.getfield 66, 3) := by decide +kernel
theorem dX2_addLimit_130 : decode cX2_addLimit 130 = .ok (.iconst 1, 1) := by decide +kernel
theorem dX2_addLimit_131 : decode cX2_addLimit 131 = .ok (.iadd, 1) := by decide +kernel
theorem dX2_addLimit_132 : decode cX2_addLimit 132 = .ok (.iload_n 3, 1) := by decide +kernel
theorem dX2_addLimit_133 : decode cX2_addLimit 133 = .ok (.invokestatic 77, 3) := by decide +kernel
theorem dX2_addLimit_136 : decode cX2_addLimit 136 = .ok (.invokevirtual 154, 3) := by decide +kernel
theorem dX2_addLimit_139 : decode cX2_addLimit 139 = .ok (.iinc 3 1, 3) := by decide +kernel
theorem dX2_addLimit_142 : decode cX2_addLimit 142 = .ok (.goto (-59), 3) := by decide +kernel
theorem dX2_addLimit_145 : decode cX2_addLimit 145 = .ok (.aload_n 0, 1) := by decide +kernel
theorem dX2_addLimit_146 : decode cX2_addLimit 146 = .ok (.invokevirtual 206, 3) := by decide +kernel
theorem dX2_addLimit_149 : decode cX2_addLimit 149 = .ok (.return_, 1) := by decide +kernel
theorem dX2_keep_0 : decode cX2_keep 0 = .ok (.aload_n 0, 1) := by decide +kernel
theorem dX2_keep_1 : decode cX2_keep 1 = .ok (.getfield 66, 3) := by decide +kernel
theorem dX2_keep_4 : decode cX2_keep 4 = .ok (.iconst 1, 1) := by decide +kernel
theorem dX2_keep_5 : decode cX2_keep 5 = .ok (.iadd, 1) := by decide +kernel
theorem dX2_keep_6 : decode cX2_keep 6 = .ok (.iconst 0, 1) := by decide +kernel
theorem dX2_keep_7 : decode cX2_keep 7 = .ok (.invokestatic 77, 3) := by decide +kernel
theorem dX2_keep_10 : decode cX2_keep 10 = .ok (.istore_n 2, 1) := by decide +kernel
theorem dX2_keep_11 : decode cX2_keep 11 = .ok (.aload_n 0, 1) := by decide +kernel
theorem dX2_keep_12 : decode cX2_keep 12 = .ok (.getfield 74, 3) := by decide +kernel
theorem dX2_keep_15 : decode cX2_keep 15 = .ok (.iload_n 2, 1) := by decide +kernel
theorem dX2_keep_16 : decode cX2_keep 16 = .ok (.iadd, 1) := by decide +kernel
theorem dX2_keep_17 : decode cX2_keep 17 = .ok (.aload_n 0, 1) := by decide +kernel
theorem dX2_keep_18 : decode cX2_keep 18 = .ok (.getfield 66, 3) := by decide +kernel
theorem dX2_keep_21 : decode cX2_keep 21 = .ok (.iadd, 1) := by decide +kernel
theorem dX2_keep_22 : decode cX2_keep 22 = .ok (.aload_n 0, 1) := by decide +kernel
theorem dX2_keep_23 : decode cX2_keep 23 = .ok (.getfield 67, 3) := by decide +kernel
theorem dX2_keep_26 : decode cX2_keep 26 = .ok (.iadd, 1) := by decide +kernel
theorem dX2_keep_27 : decode cX2_keep 27 = .ok (.iconst 3, 1) := by decide +kernel
theorem dX2_keep_28 : decode cX2_keep 28 = .ok (.iadd, 1) := by decide +kernel
theorem dX2_keep_29 : decode cX2_keep 29 = .ok (.istore_n 3, 1) := by decide +kernel
theorem dX2_keep_30 : decode cX2_keep 30 = .ok (.iload_n 3, 1) := by decide +kernel
theorem dX2_keep_31 : decode cX2_keep 31 = .ok (.aload_n 0, 1) := by decide +kernel
theorem dX2_keep_32 : decode cX2_keep 32 = .ok (.getfield 27, 3) := by decide +kernel
theorem dX2_keep_35 : decode cX2_keep 35 = .ok (.arraylength, 1) := by decide +kernel
theorem dX2_keep_36 : decode cX2_keep 36 = .ok (.if_icmp .le 4, 3) := by decide +kernel
theorem dX2_keep_39 : decode cX2_keep 39 = .ok (.return_, 1) := by decide +kernel
theorem dX2_keep_40 : decode cX2_keep 40 = .ok (.aload_n 0, 1) := by decide +kernel
theorem dX2_keep_41 : decode cX2_keep 41 = .ok (.getfield 13, 3) := by decide +kernel
theorem dX2_keep_44 : decode cX2_keep 44 = .ok (.iconst 0, 1) := by decide +kernel
theorem dX2_keep_45 : decode cX2_keep 45 = .ok (.aload_n 0, 1) := by decide +kernel
theorem dX2_keep_46 : decode cX2_keep 46 = .ok (.getfield 27, 3) := by decide +kernel
theorem dX2_keep_49 : decode cX2_keep 49 = .ok (.aload_n 0, 1) := by decide +kernel
theorem dX2_keep_50 : decode cX2_keep 50 = .ok (.getfield 74, 3) := by decide +kernel
theorem dX2_keep_53 : decode cX2_keep 53 = .ok (.iload_n 2, 1) := by decide +kernel
theorem dX2_keep_54 : decode cX2_keep 54 = .ok (.invokestatic 209, 3) := by decide +kernel
theorem dX2_keep_57 : decode cX2_keep 57 = .ok (.aload_n 0, 1) := by decide +kernel
theorem dX2_keep_58 : decode cX2_keep 58 = .ok (.getfield 20, 3) := by decide +kernel
theorem dX2_keep_61 : decode cX2_keep 61 = .ok (.iconst 1, 1) := by decide +kernel
theorem dX2_keep_62 : decode cX2_keep 62 = .ok (.aload_n 0, 1) := by decide +kernel
theorem dX2_keep_63 : decode cX2_keep 63 = .ok (.getfield 27, 3) := by decide +kernel
theorem dX2_keep_66 : decode cX2_keep 66 = .ok (.aload_n 0, 1) := by decide +kernel
theorem dX2_keep_67 : decode cX2_keep 67 = .ok (.getfield 74, 3) := by decide +kernel
theorem dX2_keep_70 : decode cX2_keep 70 = .ok (.iload_n 2, 1) := by decide +kernel
theorem dX2_keep_71 : decode cX2_keep 71 = .ok (.iadd, 1) := by decide +kernel
theorem dX2_keep_72 : decode cX2_keep 72 = .ok (.aload_n 0, 1) := by decide +kernel
theorem dX2_keep_73 : decode cX2_keep 73 = .ok (.getfield 66, 3) := by decide +kernel
theorem dX2_keep_76 : decode cX2_keep 76 = .ok (.invokestatic 209, 3) := by decide +kernel
theorem dX2_keep_79 : decode cX2_keep 79 = .ok (.aload_n 0, 1) := by decide +kernel
theorem dX2_keep_80 : decode cX2_keep 80 = .ok (.getfield 23, 3) := by decide +kernel
theorem dX2_keep_83 : decode cX2_keep 83 = .ok (.iconst 1, 1) := by decide +kernel
theorem dX2_keep_84 : decode cX2_keep 84 = .ok (.aload_n 0, 1) := by decide +kernel
theorem dX2_keep_85 : decode cX2_keep 85 = .ok (.getfield 27, 3) := by decide +kernel
theorem dX2_keep_88 : decode cX2_keep 88 = .ok (.aload_n 0, 1) := by decide +kernel
theorem dX2_keep_89 : decode cX2_keep 89 = .ok (.getfield 74, 3) := by decide +kernel
theorem dX2_keep_92 : decode cX2_keep 92 = .ok (.iload_n 2, 1) := by decide +kernel
theorem dX2_keep_93 : decode cX2_keep 93 = .ok (.iadd, 1) := by decide +kernel
theorem dX2_keep_94 : decode cX2_keep 94 = .ok (.aload_n 0, 1) := by decide +kernel
theorem dX2_keep_95 : decode cX2_keep 95 = .ok (.getfield 66, 3) := by decide +kernel
theorem dX2_keep_98 : decode cX2_keep 98 = .ok (.iadd, 1) := by decide +kernel
theorem dX2_keep_99 : decode cX2_keep 99 = .ok (.aload_n 0, 1) := by decide +kernel
theorem dX2_keep_100 : decode cX2_keep 100 = .ok (.getfield 67, 3) := by decide +kernel
theorem dX2_keep_103 : decode cX2_keep 103 = .ok (.invokestatic 209, 3) := by decide +kernel
theorem dX2_keep_106 : decode cX2_keep 106 = .ok (.aload_n 0, 1) := by decide +kernel
theorem dX2_keep_107 : decode cX2_keep 107 = .ok (.getfield 27, 3) := by decide +kernel
theorem dX2_keep_110 : decode cX2_keep 110 = .ok (.iload_n 3, 1) := by decide +kernel
theorem dX2_keep_111 : decode cX2_keep 111 = .ok (.iconst 3, 1) := by decide +kernel
theorem dX2_keep_112 : decode cX2_keep 112 = .ok (.isub, 1) := by decide +kernel
theorem dX2_keep_113 : decode cX2_keep 113 = .ok (.iload_n 1, 1) := by decide +kernel
theorem dX2_keep_114 : decode cX2_keep 114 = .ok (.iastore, 1) := by decide +kernel
theorem dX2_keep_115 : decode cX2_keep 115 = .ok (.aload_n 0, 1) := by decide +kernel
theorem dX2_keep_116 : decode cX2_keep 116 = .ok (.getfield 27, 3) := by decide +kernel
theorem dX2_keep_119 : decode cX2_keep 119 = .ok (.iload_n 3, 1) := by decide +kernel
theorem dX2_keep_120 : decode cX2_keep 120 = .ok (.iconst 2, 1) := by decide +kernel
theorem dX2_keep_121 : decode cX2_keep 121 = .ok (.isub, 1) := by decide +kernel
theorem dX2_keep_122 : decode cX2_keep 122 = .ok (.aload_n 0, 1) := by decide +kernel
theorem dX2_keep_123 : decode cX2_keep 123 = .ok (.getfield 66, 3) := by decide +kernel
theorem dX2_keep_126 : decode cX2_keep 126 = .ok (.iastore, 1) := by decide +kernel
theorem dX2_keep_127 : decode cX2_keep 127 = .ok (.aload_n 0, 1) := by decide +kernel
theorem dX2_keep_128 : decode cX2_keep 128 = .ok (.getfield 27, 3) := by decide +kernel
theorem dX2_keep_131 : decode cX2_keep 131 = .ok (.iload_n 3, 1) := by decide +kernel
theorem dX2_keep_132 : decode cX2_keep 132 = .ok (.iconst 1, 1) := by decide +kernel
theorem dX2_keep_133 : decode cX2_keep 133 = .ok (.isub, 1) := by decide +kernel
theorem dX2_keep_134 : decode cX2_keep 134 = .ok (.aload_n 0, 1) := by decide +kernel
theorem dX2_keep_135 : decode cX2_keep 135 = .ok (.getfield 67, 3) := by decide +kernel
theorem dX2_keep_138 : decode cX2_keep 138 = .ok (.iastore, 1) := by decide +kernel
theorem dX2_keep_139 : decode cX2_keep 139 = .ok (.aload_n 0, 1) := by decide +kernel
theorem dX2_keep_140 : decode cX2_keep 140 = .ok (.iload_n 3, 1) := by decide +kernel
theorem dX2_keep_141 : decode cX2_keep 141 = .ok (.putfield 74, 3) := by decide +kernel
theorem dX2_keep_144 : decode cX2_keep 144 = .ok (.return_, 1) := by decide +kernel
theorem dX2_pivot_0 : decode cX2_pivot 0 = .ok (.aload_n 0, 1) := by decide +kernel
theorem dX2_pivot_1 : decode cX2_pivot 1 = .ok (.getfield 147, 3) := by decide +kernel
theorem dX2_pivot_4 : decode cX2_pivot 4 = .ok (.iconst 1, 1) := by decide +kernel
theorem dX2_pivot_5 : decode cX2_pivot 5 = .ok (.if_icmp .lt 26, 3) := by decide +kernel
theorem dX2_pivot_8 : decode cX2_pivot 8 = .ok (.aload_n 0, 1) := by decide +kernel
theorem dX2_pivot_9 : decode cX2_pivot 9 = .ok (.getfield 131, 3) := by decide +kernel
theorem dX2_pivot_12 : decode cX2_pivot 12 = .ok (.iconst 1, 1) := by decide +kernel
theorem dX2_pivot_13 : decode cX2_pivot 13 = .ok (.if_icmp .lt 18, 3) := by decide +kernel
theorem dX2_pivot_16 : decode cX2_pivot 16 = .ok (.aload_n 0, 1) := by decide +kernel
theorem dX2_pivot_17 : decode cX2_pivot 17 = .ok (.aload_n 0, 1) := by decide +kernel
theorem dX2_pivot_18 : decode cX2_pivot 18 = .ok (.getfield 147, 3) := by decide +kernel
theorem dX2_pivot_21 : decode cX2_pivot 21 = .ok (.aload_n 0, 1) := by decide +kernel
theorem dX2_pivot_22 : decode cX2_pivot 22 = .ok (.getfield 131, 3) := by decide +kernel
theorem dX2_pivot_25 : decode cX2_pivot 25 = .ok (.invokevirtual 95, 3) := by decide +kernel
theorem dX2_pivot_28 : decode cX2_pivot 28 = .ok (.ifCond .ne 5, 3) := by decide +kernel
theorem dX2_pivot_31 : decode cX2_pivot 31 = .ok (.iconst 0, 1) := by decide +kernel
theorem dX2_pivot_32 : decode cX2_pivot 32 = .ok (.ireturn, 1) := by decide +kernel
theorem dX2_pivot_33 : decode cX2_pivot 33 = .ok (.aload_n 0, 1) := by decide +kernel
theorem dX2_pivot_34 : decode cX2_pivot 34 = .ok (.aload_n 0, 1) := by decide +kernel
theorem dX2_pivot_35 : decode cX2_pivot 35 = .ok (.getfield 147, 3) := by decide +kernel
theorem dX2_pivot_38 : decode cX2_pivot 38 = .ok (.aload_n 0, 1) := by decide +kernel
theorem dX2_pivot_39 : decode cX2_pivot 39 = .ok (.getfield 131, 3) := by decide +kernel
theorem dX2_pivot_42 : decode cX2_pivot 42 = .ok (.invokevirtual 95, 3) := by decide +kernel
theorem dX2_pivot_45 : decode cX2_pivot 45 = .ok (.istore_n 1, 1) := by decide +kernel
theorem dX2_pivot_46 : decode cX2_pivot 46 = .ok (.aload_n 0, 1) := by decide +kernel
theorem dX2_pivot_47 : decode cX2_pivot 47 = .ok (.getfield 31, 3) := by decide +kernel
theorem dX2_pivot_50 : decode cX2_pivot 50 = .ok (.aload_n 0, 1) := by decide +kernel
theorem dX2_pivot_51 : decode cX2_pivot 51 = .ok (.getfield 13, 3) := by decide +kernel
theorem dX2_pivot_54 : decode cX2_pivot 54 = .ok (.aload_n 0, 1) := by decide +kernel
theorem dX2_pivot_55 : decode cX2_pivot 55 = .ok (.getfield 147, 3) := by decide +kernel
theorem dX2_pivot_58 : decode cX2_pivot 58 = .ok (.aload_n 0, 1) := by decide +kernel
theorem dX2_pivot_59 : decode cX2_pivot 59 = .ok (.getfield 131, 3) := by decide +kernel
theorem dX2_pivot_62 : decode cX2_pivot 62 = .ok (.invokestatic 77, 3) := by decide +kernel
theorem dX2_pivot_65 : decode cX2_pivot 65 = .ok (.invokevirtual 106, 3) := by decide +kernel
theorem dX2_pivot_68 : decode cX2_pivot 68 = .ok (.aload_n 0, 1) := by decide +kernel
theorem dX2_pivot_69 : decode cX2_pivot 69 = .ok (.aload_n 0, 1) := by decide +kernel
theorem dX2_pivot_70 : decode cX2_pivot 70 = .ok (.getfield 35, 3) := by decide +kernel
theorem dX2_pivot_73 : decode cX2_pivot 73 = .ok (.invokevirtual 121, 3) := by decide +kernel
theorem dX2_pivot_76 : decode cX2_pivot 76 = .ok (.aload_n 0, 1) := by decide +kernel
theorem dX2_pivot_77 : decode cX2_pivot 77 = .ok (.getfield 70, 3) := by decide +kernel
theorem dX2_pivot_80 : decode cX2_pivot 80 = .ok (.ifCond .eq 7, 3) := by decide +kernel
theorem dX2_pivot_83 : decode cX2_pivot 83 = .ok (.iconst (-1), 1) := by decide +kernel
theorem dX2_pivot_84 : decode cX2_pivot 84 = .ok (.goto 4, 3) := by decide +kernel
theorem dX2_pivot_87 : decode cX2_pivot 87 = .ok (.iconst 0, 1) := by decide +kernel
theorem dX2_pivot_88 : decode cX2_pivot 88 = .ok (.istore_n 2, 1) := by decide +kernel
theorem dX2_pivot_89 : decode cX2_pivot 89 = .ok (.iload_n 2, 1) := by decide +kernel
theorem dX2_pivot_90 : decode cX2_pivot 90 = .ok (.aload_n 0, 1) := by decide +kernel
theorem dX2_pivot_91 : decode cX2_pivot 91 = .ok (.getfield 66, 3) := by decide +kernel
theorem dX2_pivot_94 : decode cX2_pivot 94 = .ok (.if_icmp .gt 28, 3) := by decide +kernel
theorem dX2_pivot_97 : decode cX2_pivot 97 = .ok (.iload_n 2, 1) := by decide +kernel
theorem dX2_pivot_98 : decode cX2_pivot 98 = .ok (.aload_n 0, 1) := by decide +kernel
theorem dX2_pivot_99 : decode cX2_pivot 99 = .ok (.getfield 147, 3) := by decide +kernel
theorem dX2_pivot_102 : decode cX2_pivot 102 = .ok (.if_icmp .eq 14, 3) := by decide +kernel
theorem dX2_pivot_105 : decode cX2_pivot 105 = .ok (.aload_n 0, 1) := by decide +kernel
theorem dX2_pivot_106 : decode cX2_pivot 106 = .ok (.iload_n 2, 1) := by decide +kernel
theorem dX2_pivot_107 : decode cX2_pivot 107 = .ok (.iload_n 1, 1) := by decide +kernel
theorem dX2_pivot_108 : decode cX2_pivot 108 = .ok (.invokevirtual 184, 3) := by decide +kernel
theorem dX2_pivot_111 : decode cX2_pivot 111 = .ok (.ifCond .ne 5, 3) := by decide +kernel
theorem dX2_pivot_114 : decode cX2_pivot 114 = .ok (.iconst 0, 1) := by decide +kernel
theorem dX2_pivot_115 : decode cX2_pivot 115 = .ok (.ireturn, 1) := by decide +kernel
theorem dX2_pivot_116 : decode cX2_pivot 116 = .ok (.iinc 2 1, 3) := by decide +kernel
theorem dX2_pivot_119 : decode cX2_pivot 119 = .ok (.goto (-30), 3) := by decide +kernel
theorem dX2_pivot_122 : decode cX2_pivot 122 = .ok (.iconst 0, 1) := by decide +kernel
theorem dX2_pivot_123 : decode cX2_pivot 123 = .ok (.istore_n 2, 1) := by decide +kernel
theorem dX2_pivot_124 : decode cX2_pivot 124 = .ok (.iload_n 2, 1) := by decide +kernel
theorem dX2_pivot_125 : decode cX2_pivot 125 = .ok (.aload_n 0, 1) := by decide +kernel
theorem dX2_pivot_126 : decode cX2_pivot 126 = .ok (.getfield 67, 3) := by decide +kernel
theorem dX2_pivot_129 : decode cX2_pivot 129 = .ok (.if_icmp .gt 29, 3) := by decide +kernel
theorem dX2_pivot_132 : decode cX2_pivot 132 = .ok (.aload_n 0, 1) := by decide +kernel
theorem dX2_pivot_133 : decode cX2_pivot 133 = .ok (.getfield 13, 3) := by decide +kernel
theorem dX2_pivot_136 : decode cX2_pivot 136 = .ok (.aload_n 0, 1) := by decide +kernel
theorem dX2_pivot_137 : decode cX2_pivot 137 = .ok (.getfield 17, 3) := by decide +kernel
theorem dX2_pivot_140 : decode cX2_pivot 140 = .ok (.aload_n 0, 1) := by decide +kernel
theorem dX2_pivot_141 : decode cX2_pivot 141 = .ok (.getfield 147, 3) := by decide +kernel
theorem dX2_pivot_144 : decode cX2_pivot 144 = .ok (.iload_n 2, 1) := by decide +kernel
theorem dX2_pivot_145 : decode cX2_pivot 145 = .ok (.invokestatic 77, 3) := by decide +kernel
theorem dX2_pivot_148 : decode cX2_pivot 148 = .ok (.iload_n 1, 1) := by decide +kernel
theorem dX2_pivot_149 : decode cX2_pivot 149 = .ok (.invokestatic 188, 3) := by decide +kernel
theorem dX2_pivot_152 : decode cX2_pivot 152 = .ok (.iinc 2 1, 3) := by decide +kernel
theorem dX2_pivot_155 : decode cX2_pivot 155 = .ok (.goto (-31), 3) := by decide +kernel
theorem dX2_pivot_158 : decode cX2_pivot 158 = .ok (.aload_n 0, 1) := by decide +kernel
theorem dX2_pivot_159 : decode cX2_pivot 159 = .ok (.getfield 35, 3) := by decide +kernel
theorem dX2_pivot_162 : decode cX2_pivot 162 = .ok (.iload_n 1, 1) := by decide +kernel
theorem dX2_pivot_163 : decode cX2_pivot 163 = .ok (.putfield 145, 3) := by decide +kernel
theorem dX2_pivot_166 : decode cX2_pivot 166 = .ok (.aload_n 0, 1) := by decide +kernel
theorem dX2_pivot_167 : decode cX2_pivot 167 = .ok (.getfield 35, 3) := by decide +kernel
theorem dX2_pivot_170 : decode cX2_pivot 170 = .ok (.aload_n 0, 1) := by decide +kernel
theorem dX2_pivot_171 : decode cX2_pivot 171 = .ok (.getfield 17, 3) := by decide +kernel
theorem dX2_pivot_174 : decode cX2_pivot 174 = .ok (.aload_n 0, 1) := by decide +kernel
theorem dX2_pivot_175 : decode cX2_pivot 175 = .ok (.getfield 147, 3) := by decide +kernel
theorem dX2_pivot_178 : decode cX2_pivot 178 = .ok (.aload_n 0, 1) := by decide +kernel
theorem dX2_pivot_179 : decode cX2_pivot 179 = .ok (.getfield 131, 3) := by decide +kernel
theorem dX2_pivot_182 : decode cX2_pivot 182 = .ok (.invokestatic 77, 3) := by decide +kernel
theorem dX2_pivot_185 : decode cX2_pivot 185 = .ok (.invokevirtual 154, 3) := by decide +kernel
theorem dX2_pivot_188 : decode cX2_pivot 188 = .ok (.aload_n 0, 1) := by decide +kernel
theorem dX2_pivot_189 : decode cX2_pivot 189 = .ok (.getfield 31, 3) := by decide +kernel
theorem dX2_pivot_192 : decode cX2_pivot 192 = .ok (.iconst 1, 1) := by decide +kernel
theorem dX2_pivot_193 : decode cX2_pivot 193 = .ok (.putfield 145, 3) := by decide +kernel
theorem dX2_pivot_196 : decode cX2_pivot 196 = .ok (.aload_n 0, 1) := by decide +kernel
theorem dX2_pivot_197 : decode cX2_pivot 197 = .ok (.getfield 31, 3) := by decide +kernel
theorem dX2_pivot_200 : decode cX2_pivot 200 = .ok (.aload_n 0, 1) := by decide +kernel
theorem dX2_pivot_201 : decode cX2_pivot 201 = .ok (.getfield 17, 3) := by decide +kernel
theorem dX2_pivot_204 : decode cX2_pivot 204 = .ok (.bipush (-2), 2) := by decide +kernel
theorem dX2_pivot_206 : decode cX2_pivot 206 = .ok (.iconst 0, 1) := by decide +kernel
theorem dX2_pivot_207 : decode cX2_pivot 207 = .ok (.invokestatic 77, 3) := by decide +kernel
theorem dX2_pivot_210 : decode cX2_pivot 210 = .ok (.invokevirtual 154, 3) := by decide +kernel
theorem dX2_pivot_213 : decode cX2_pivot 213 = .ok (.aload_n 0, 1) := by decide +kernel
theorem dX2_pivot_214 : decode cX2_pivot 214 = .ok (.getfield 13, 3) := by decide +kernel
theorem dX2_pivot_217 : decode cX2_pivot 217 = .ok (.astore_n 2, 1) := by decide +kernel
theorem dX2_pivot_218 : decode cX2_pivot 218 = .ok (.aload_n 0, 1) := by decide +kernel
theorem dX2_pivot_219 : decode cX2_pivot 219 = .ok (.aload_n 0, 1) := by decide +kernel
theorem dX2_pivot_220 : decode cX2_pivot 220 = .ok (.getfield 17, 3) := by decide +kernel
theorem dX2_pivot_223 : decode cX2_pivot 223 = .ok (.putfield 13, 3) := by decide +kernel
theorem dX2_pivot_226 : decode cX2_pivot 226 = .ok (.aload_n 0, 1) := by decide +kernel
theorem dX2_pivot_227 : decode cX2_pivot 227 = .ok (.aload_n 2, 1) := by decide +kernel
theorem dX2_pivot_228 : decode cX2_pivot 228 = .ok (.putfield 17, 3) := by decide +kernel
theorem dX2_pivot_231 : decode cX2_pivot 231 = .ok (.aload_n 0, 1) := by decide +kernel
theorem dX2_pivot_232 : decode cX2_pivot 232 = .ok (.getfield 20, 3) := by decide +kernel
theorem dX2_pivot_235 : decode cX2_pivot 235 = .ok (.aload_n 0, 1) := by decide +kernel
theorem dX2_pivot_236 : decode cX2_pivot 236 = .ok (.getfield 147, 3) := by decide +kernel
theorem dX2_pivot_239 : decode cX2_pivot 239 = .ok (.iaload, 1) := by decide +kernel
theorem dX2_pivot_240 : decode cX2_pivot 240 = .ok (.istore_n 3, 1) := by decide +kernel
theorem dX2_pivot_241 : decode cX2_pivot 241 = .ok (.aload_n 0, 1) := by decide +kernel
theorem dX2_pivot_242 : decode cX2_pivot 242 = .ok (.getfield 20, 3) := by decide +kernel
theorem dX2_pivot_245 : decode cX2_pivot 245 = .ok (.aload_n 0, 1) := by decide +kernel
theorem dX2_pivot_246 : decode cX2_pivot 246 = .ok (.getfield 147, 3) := by decide +kernel
theorem dX2_pivot_249 : decode cX2_pivot 249 = .ok (.aload_n 0, 1) := by decide +kernel
theorem dX2_pivot_250 : decode cX2_pivot 250 = .ok (.getfield 23, 3) := by decide +kernel
theorem dX2_pivot_253 : decode cX2_pivot 253 = .ok (.aload_n 0, 1) := by decide +kernel
theorem dX2_pivot_254 : decode cX2_pivot 254 = .ok (.getfield 131, 3) := by decide +kernel
theorem dX2_pivot_257 : decode cX2_pivot 257 = .ok (.iaload, 1) := by decide +kernel
theorem dX2_pivot_258 : decode cX2_pivot 258 = .ok (.iastore, 1) := by decide +kernel
theorem dX2_pivot_259 : decode cX2_pivot 259 = .ok (.aload_n 0, 1) := by decide +kernel
theorem dX2_pivot_260 : decode cX2_pivot 260 = .ok (.getfield 23, 3) := by decide +kernel
theorem dX2_pivot_263 : decode cX2_pivot 263 = .ok (.aload_n 0, 1) := by decide +kernel
theorem dX2_pivot_264 : decode cX2_pivot 264 = .ok (.getfield 131, 3) := by decide +kernel
theorem dX2_pivot_267 : decode cX2_pivot 267 = .ok (.iload_n 3, 1) := by decide +kernel
theorem dX2_pivot_268 : decode cX2_pivot 268 = .ok (.iastore, 1) := by decide +kernel
theorem dX2_pivot_269 : decode cX2_pivot 269 = .ok (.iconst 1, 1) := by decide +kernel
theorem dX2_pivot_270 : decode cX2_pivot 270 = .ok (.ireturn, 1) := by decide +kernel
theorem dX2_restore_0 : decode cX2_restore 0 = .ok (.aload_n 0, 1) := by decide +kernel
theorem dX2_restore_1 : decode cX2_restore 1 = .ok (.getfield 74, 3) := by decide +kernel
theorem dX2_restore_4 : decode cX2_restore 4 = .ok (.iconst 3, 1) := by decide +kernel
theorem dX2_restore_5 : decode cX2_restore 5 = .ok (.if_icmp .ge 5, 3) := by decide +kernel
theorem dX2_restore_8 : decode cX2_restore 8 = .ok (.iconst 0, 1) := by decide +kernel
theorem dX2_restore_9 : decode cX2_restore 9 = .ok (.ireturn, 1) := by decide +kernel
theorem dX2_restore_10 : decode cX2_restore 10 = .ok (.aload_n 0, 1) := by decide +kernel
theorem dX2_restore_11 : decode cX2_restore 11 = .ok (.getfield 27, 3) := by decide +kernel
theorem dX2_restore_14 : decode cX2_restore 14 = .ok (.aload_n 0, 1) := by decide +kernel
theorem dX2_restore_15 : decode cX2_restore 15 = .ok (.getfield 74, 3) := by decide +kernel
theorem dX2_restore_18 : decode cX2_restore 18 = .ok (.iconst 3, 1) := by decide +kernel
theorem dX2_restore_19 : decode cX2_restore 19 = .ok (.isub, 1) := by decide +kernel
theorem dX2_restore_20 : decode cX2_restore 20 = .ok (.iaload, 1) := by decide +kernel
theorem dX2_restore_21 : decode cX2_restore 21 = .ok (.istore_n 1, 1) := by decide +kernel
theorem dX2_restore_22 : decode cX2_restore 22 = .ok (.aload_n 0, 1) := by decide +kernel
theorem dX2_restore_23 : decode cX2_restore 23 = .ok (.getfield 27, 3) := by decide +kernel
theorem dX2_restore_26 : decode cX2_restore 26 = .ok (.aload_n 0, 1) := by decide +kernel
theorem dX2_restore_27 : decode cX2_restore 27 = .ok (.getfield 74, 3) := by decide +kernel
theorem dX2_restore_30 : decode cX2_restore 30 = .ok (.iconst 2, 1) := by decide +kernel
theorem dX2_restore_31 : decode cX2_restore 31 = .ok (.isub, 1) := by decide +kernel
theorem dX2_restore_32 : decode cX2_restore 32 = .ok (.iaload, 1) := by decide +kernel
theorem dX2_restore_33 : decode cX2_restore 33 = .ok (.istore_n 2, 1) := by decide +kernel
theorem dX2_restore_34 : decode cX2_restore 34 = .ok (.aload_n 0, 1) := by decide +kernel
theorem dX2_restore_35 : decode cX2_restore 35 = .ok (.getfield 27, 3) := by decide +kernel
theorem dX2_restore_38 : decode cX2_restore 38 = .ok (.aload_n 0, 1) := by decide +kernel
theorem dX2_restore_39 : decode cX2_restore 39 = .ok (.getfield 74, 3) := by decide +kernel
theorem dX2_restore_42 : decode cX2_restore 42 = .ok (.iconst 1, 1) := by decide +kernel
theorem dX2_restore_43 : decode cX2_restore 43 = .ok (.isub, 1) := by decide +kernel
theorem dX2_restore_44 : decode cX2_restore 44 = .ok (.iaload, 1) := by decide +kernel
theorem dX2_restore_45 : decode cX2_restore 45 = .ok (.istore_n 3, 1) := by decide +kernel
theorem dX2_restore_46 : decode cX2_restore 46 = .ok (.iload_n 2, 1) := by decide +kernel
theorem dX2_restore_47 : decode cX2_restore 47 = .ok (.iconst 1, 1) := by decide +kernel
theorem dX2_restore_48 : decode cX2_restore 48 = .ok (.iadd, 1) := by decide +kernel
theorem dX2_restore_49 : decode cX2_restore 49 = .ok (.iconst 0, 1) := by decide +kernel
theorem dX2_restore_50 : decode cX2_restore 50 = .ok (.invokestatic 77, 3) := by decide +kernel
theorem dX2_restore_53 : decode cX2_restore 53 = .ok (.istore 4, 2) := by decide +kernel
theorem dX2_restore_55 : decode cX2_restore 55 = .ok (.aload_n 0, 1) := by decide +kernel
theorem dX2_restore_56 : decode cX2_restore 56 = .ok (.getfield 74, 3) := by decide +kernel
theorem dX2_restore_59 : decode cX2_restore 59 = .ok (.iconst 3, 1) := by decide +kernel
theorem dX2_restore_60 : decode cX2_restore 60 = .ok (.isub, 1) := by decide +kernel
theorem dX2_restore_61 : decode cX2_restore 61 = .ok (.iload_n 3, 1) := by decide +kernel
theorem dX2_restore_62 : decode cX2_restore 62 = .ok (.isub, 1) := by decide +kernel
theorem dX2_restore_63 : decode cX2_restore 63 = .ok (.iload_n 2, 1) := by decide +kernel
theorem dX2_restore_64 : decode cX2_restore 64 = .ok (.isub, 1) := by decide +kernel
theorem dX2_restore_65 : decode cX2_restore 65 = .ok (.iload 4, 2) := by decide +kernel
theorem dX2_restore_67 : decode cX2_restore 67 = .ok (.isub, 1) := by decide +kernel
theorem dX2_restore_68 : decode cX2_restore 68 = .ok (.istore 5, 2) := by decide +kernel
theorem dX2_restore_70 : decode cX2_restore 70 = .ok (.iload 5, 2) := by decide +kernel
theorem dX2_restore_72 : decode cX2_restore 72 = .ok (.ifCond .ge 5, 3) := by decide +kernel
theorem dX2_restore_75 : decode cX2_restore 75 = .ok (.iconst 0, 1) := by decide +kernel
theorem dX2_restore_76 : decode cX2_restore 76 = .ok (.ireturn, 1) := by decide +kernel
theorem dX2_restore_77 : decode cX2_restore 77 = .ok (.aload_n 0, 1) := by decide +kernel
theorem dX2_restore_78 : decode cX2_restore 78 = .ok (.getfield 27, 3) := by decide +kernel
theorem dX2_restore_81 : decode cX2_restore 81 = .ok (.iload 5, 2) := by decide +kernel
theorem dX2_restore_83 : decode cX2_restore 83 = .ok (.aload_n 0, 1) := by decide +kernel
theorem dX2_restore_84 : decode cX2_restore 84 = .ok (.getfield 13, 3) := by decide +kernel
theorem dX2_restore_87 : decode cX2_restore 87 = .ok (.iconst 0, 1) := by decide +kernel
theorem dX2_restore_88 : decode cX2_restore 88 = .ok (.iload 4, 2) := by decide +kernel
theorem dX2_restore_90 : decode cX2_restore 90 = .ok (.invokestatic 209, 3) := by decide +kernel
theorem dX2_restore_93 : decode cX2_restore 93 = .ok (.aload_n 0, 1) := by decide +kernel
theorem dX2_restore_94 : decode cX2_restore 94 = .ok (.getfield 27, 3) := by decide +kernel
theorem dX2_restore_97 : decode cX2_restore 97 = .ok (.iload 5, 2) := by decide +kernel
theorem dX2_restore_99 : decode cX2_restore 99 = .ok (.iload 4, 2) := by decide +kernel
theorem dX2_restore_101 : decode cX2_restore 101 = .ok (.iadd, 1) := by decide +kernel
theorem dX2_restore_102 : decode cX2_restore 102 = .ok (.aload_n 0, 1) := by decide +kernel
theorem dX2_restore_103 : decode cX2_restore 103 = .ok (.getfield 20, 3) := by decide +kernel
theorem dX2_restore_106 : decode cX2_restore 106 = .ok (.iconst 1, 1) := by decide +kernel
theorem dX2_restore_107 : decode cX2_restore 107 = .ok (.iload_n 2, 1) := by decide +kernel
theorem dX2_restore_108 : decode cX2_restore 108 = .ok (.invokestatic 209, 3) := by decide +kernel
theorem dX2_restore_111 : decode cX2_restore 111 = .ok (.aload_n 0, 1) := by decide +kernel
theorem dX2_restore_112 : decode cX2_restore 112 = .ok (.getfield 27, 3) := by decide +kernel
theorem dX2_restore_115 : decode cX2_restore 115 = .ok (.iload 5, 2) := by decide +kernel
theorem dX2_restore_117 : decode cX2_restore 117 = .ok (.iload 4, 2) := by decide +kernel
theorem dX2_restore_119 : decode cX2_restore 119 = .ok (.iadd, 1) := by decide +kernel
theorem dX2_restore_120 : decode cX2_restore 120 = .ok (.iload_n 2, 1) := by decide +kernel
theorem dX2_restore_121 : decode cX2_restore 121 = .ok (.iadd, 1) := by decide +kernel
theorem dX2_restore_122 : decode cX2_restore 122 = .ok (.aload_n 0, 1) := by decide +kernel
theorem dX2_restore_123 : decode cX2_restore 123 = .ok (.getfield 23, 3) := by decide +kernel
theorem dX2_restore_126 : decode cX2_restore 126 = .ok (.iconst 1, 1) := by decide +kernel
theorem dX2_restore_127 : decode cX2_restore 127 = .ok (.iload_n 3, 1) := by decide +kernel
theorem dX2_restore_128 : decode cX2_restore 128 = .ok (.invokestatic 209, 3) := by decide +kernel
theorem dX2_restore_131 : decode cX2_restore 131 = .ok (.aload_n 0, 1) := by decide +kernel
theorem dX2_restore_132 : decode cX2_restore 132 = .ok (.iload_n 2, 1) := by decide +kernel
theorem dX2_restore_133 : decode cX2_restore 133 = .ok (.putfield 66, 3) := by decide +kernel
theorem dX2_restore_136 : decode cX2_restore 136 = .ok (.aload_n 0, 1) := by decide +kernel
theorem dX2_restore_137 : decode cX2_restore 137 = .ok (.iload_n 3, 1) := by decide +kernel
theorem dX2_restore_138 : decode cX2_restore 138 = .ok (.putfield 67, 3) := by decide +kernel
theorem dX2_restore_141 : decode cX2_restore 141 = .ok (.aload_n 0, 1) := by decide +kernel
theorem dX2_restore_142 : decode cX2_restore 142 = .ok (.iload 5, 2) := by decide +kernel
theorem dX2_restore_144 : decode cX2_restore 144 = .ok (.putfield 74, 3) := by decide +kernel
theorem dX2_restore_147 : decode cX2_restore 147 = .ok (.iload_n 1, 1) := by decide +kernel
theorem dX2_restore_148 : decode cX2_restore 148 = .ok (.ireturn, 1) := by decide +kernel
theorem w_44 : Cond.selects RX2 yX2_pivotRow yX2_pivotRow ∈ tb := sel_3 (q := (yX2_pivotRow, 20)) 12 (by decide +kernel)
theorem w_64 : Cond.selects RX2 yX2_addRow yX2_addRow ∈ tb := sel_5 (q := (yX2_addRow, 20)) 0 (by decide +kernel)
theorem w_460 : Cond.fieldLink RX2 27 (TX2 4).1 (TX2 4).2.1 (TX2 4).2.2.1 ∈ tb := tbc_2 17 (by decide +kernel) rfl
theorem w_1239 : Cond.methodLink RX2 184 yX2_pivotRow ∈ tb := tbc_5 76 (by decide +kernel) rfl
theorem w_1241 : Cond.instanceMethod yX2_pivotRow ∈ tb := tbc_5 78 (by decide +kernel) rfl
theorem w_1242 : Cond.code yX2_pivotRow cX2_pivotRow 18 (some .boolean) ∈ tb := tbc_5 79 (by decide +kernel) rfl
theorem w_1486 : Cond.instanceMethod yX2_remainder ∈ tb := tbc_6 83 (by decide +kernel) rfl
theorem w_1487 : Cond.selects RX2 yX2_remainder yX2_remainder ∈ tb := tbc_6 84 (by decide +kernel) rfl
theorem w_1488 : Cond.code yX2_remainder cX2_remainder 2 none ∈ tb := tbc_6 85 (by decide +kernel) rfl
theorem w_1523 : Cond.methodLink RX2 203 yX2_remainder ∈ tb := tbc_6 120 (by decide +kernel) rfl
theorem w_1525 : Cond.methodLink RX2 206 yX2_addRow ∈ tb := tbc_6 122 (by decide +kernel) rfl
theorem w_1527 : Cond.instanceMethod yX2_addRow ∈ tb := tbc_6 124 (by decide +kernel) rfl
theorem w_1528 : Cond.code yX2_addRow cX2_addRow 1 none ∈ tb := tbc_6 125 (by decide +kernel) rfl
theorem w_1546 : Cond.methodLink RX2 209 arraycopyName ∈ tb := tbc_6 143 (by decide +kernel) rfl
section RW33
variable {p : Program} {l : Launch} {e : Env} {R : Room} {s : State} {m : MethodId} {args : Array Value} {below : List Frame} {meth : Method} {c : Code} {H : Heap} {locs : List Loc} {cells slots : Nat} {Q : State → Prop}
variable {cc : ByteArray} {pc nL : Nat} {ls : Array Slot} {rest st0 : List Value} {G : sG} {n : Nat} {S : sS}
theorem p_X2_13 (Cx : sC G p m c cc nL s args RX2) (hW : sW G n S H) (hL : sL G locs) {k : Nat} (hk : k < n) (ht : tau k = .inl 2) {v : Nat} (hdg : decode cc pc = .ok (.putfield 13, 3)) (kk : ∀ (H1 : Heap) (locs1 : List Loc), sW G n (uR S k 0 (.ref v)) H1 → sL G locs1 → W p l e R s m args below meth c H1 locs1 cells slots Q (F0 m (pc + 3) ls rest)) : W p l e R s m args below meth c H locs cells slots Q (F0 m pc ls (.ref v :: .ref (G.2.2.1 + k) :: rest)) :=
  sPut Cx inX2 tyX2 tyX2_ok nmX2 rfl 0 (by decide) w_456 rfl hW hL hk ht rfl rfl (fun _ h => uR_same h) (fun _ h => uR_off h) uR_on hdg kk
theorem p_X2_17 (Cx : sC G p m c cc nL s args RX2) (hW : sW G n S H) (hL : sL G locs) {k : Nat} (hk : k < n) (ht : tau k = .inl 2) {v : Nat} (hdg : decode cc pc = .ok (.putfield 17, 3)) (kk : ∀ (H1 : Heap) (locs1 : List Loc), sW G n (uR S k 1 (.ref v)) H1 → sL G locs1 → W p l e R s m args below meth c H1 locs1 cells slots Q (F0 m (pc + 3) ls rest)) : W p l e R s m args below meth c H locs cells slots Q (F0 m pc ls (.ref v :: .ref (G.2.2.1 + k) :: rest)) :=
  sPut Cx inX2 tyX2 tyX2_ok nmX2 rfl 1 (by decide) w_457 rfl hW hL hk ht rfl rfl (fun _ h => uR_same h) (fun _ h => uR_off h) uR_on hdg kk
theorem c_X2_184 (Cx : sC G p m c cc nL s args RX2) {rm : Room} {mc ms : Nat} (h1 : rm.cells = mc) (h2 : rm.slots = ms) (h3 : rm.frames + 1 ≤ R.frames ∧ 8 + (18 + 11) + rm.locals ≤ R.locals) : CallW R s args RX2 RX2 184 yX2_pivotRow cX2_pivotRow 18 (some .boolean) (.code yX2_pivotRow cX2_pivotRow 18 (some .boolean) :: tb) rm mc ms 2 :=
  sCw Cx 2 w_1239 w_1241 w_44 w_213 w_1242 (by decide +kernel) h1 h2 h3
theorem c_X2_206 (Cx : sC G p m c cc nL s args RX2) {rm : Room} {mc ms : Nat} (h1 : rm.cells = mc) (h2 : rm.slots = ms) (h3 : rm.frames + 1 ≤ R.frames ∧ 8 + (1 + 11) + rm.locals ≤ R.locals) : CallW R s args RX2 RX2 206 yX2_addRow cX2_addRow 1 none (.code yX2_addRow cX2_addRow 1 none :: tb) rm mc ms 0 :=
  sCw Cx 0 w_1525 w_1527 w_64 w_213 w_1528 (by decide +kernel) h1 h2 h3
theorem c_X2_203 (Cx : sC G p m c cc nL s args RX2) {rm : Room} {mc ms : Nat} (h1 : rm.cells = mc) (h2 : rm.slots = ms) (h3 : rm.frames + 1 ≤ R.frames ∧ 8 + (2 + 11) + rm.locals ≤ R.locals) : CallW R s args RX2 RX2 203 yX2_remainder cX2_remainder 2 none (.code yX2_remainder cX2_remainder 2 none :: tb) rm mc ms 1 :=
  sCw Cx 1 w_1523 w_1486 w_1487 w_213 w_1488 (by decide +kernel) h1 h2 h3
theorem g_X2_27 (Cx : sC G p m c cc nL s args RX2) (hW : sW G n S H) {k : Nat} (hk : k < n) (ht : tau k = .inl 2) {v : Value} (hv : S.2.2.2 k 4 = v) (hdg : decode cc pc = .ok (.getfield 27, 3)) (kk : W p l e R s m args below meth c H locs cells slots Q (F0 m (pc + 3) ls (v :: rest))) : W p l e R s m args below meth c H locs cells slots Q (F0 m pc ls (.ref (G.2.2.1 + k) :: rest)) :=
  sGet Cx inX2 rfl 4 (by decide) w_460 hW hk ht hv hdg kk
end RW33
