theorem dX7_beginSecondChild_0 : decode cX7_beginSecondChild 0 = .ok (.aload_n 0, 1) := by decide +kernel
theorem dX7_beginSecondChild_1 : decode cX7_beginSecondChild 1 = .ok (.iconst 1, 1) := by decide +kernel
theorem dX7_beginSecondChild_2 : decode cX7_beginSecondChild 2 = .ok (.invokevirtual 258, 3) := by decide +kernel
theorem dX7_beginSecondChild_5 : decode cX7_beginSecondChild 5 = .ok (.ifCond .ne 4, 3) := by decide +kernel
theorem dX7_beginSecondChild_8 : decode cX7_beginSecondChild 8 = .ok (.return_, 1) := by decide +kernel
theorem dX7_beginSecondChild_9 : decode cX7_beginSecondChild 9 = .ok (.aload_n 0, 1) := by decide +kernel
theorem dX7_beginSecondChild_10 : decode cX7_beginSecondChild 10 = .ok (.aload_n 0, 1) := by decide +kernel
theorem dX7_beginSecondChild_11 : decode cX7_beginSecondChild 11 = .ok (.getfield 21, 3) := by decide +kernel
theorem dX7_beginSecondChild_14 : decode cX7_beginSecondChild 14 = .ok (.invokevirtual 285, 3) := by decide +kernel
theorem dX7_beginSecondChild_17 : decode cX7_beginSecondChild 17 = .ok (.putfield 190, 3) := by decide +kernel
theorem dX7_beginSecondChild_20 : decode cX7_beginSecondChild 20 = .ok (.aload_n 0, 1) := by decide +kernel
theorem dX7_beginSecondChild_21 : decode cX7_beginSecondChild 21 = .ok (.getfield 12, 3) := by decide +kernel
theorem dX7_beginSecondChild_24 : decode cX7_beginSecondChild 24 = .ok (.aload_n 0, 1) := by decide +kernel
theorem dX7_beginSecondChild_25 : decode cX7_beginSecondChild 25 = .ok (.getfield 21, 3) := by decide +kernel
theorem dX7_beginSecondChild_28 : decode cX7_beginSecondChild 28 = .ok (.invokevirtual 288, 3) := by decide +kernel
theorem dX7_beginSecondChild_31 : decode cX7_beginSecondChild 31 = .ok (.invokevirtual 291, 3) := by decide +kernel
theorem dX7_beginSecondChild_34 : decode cX7_beginSecondChild 34 = .ok (.aload_n 0, 1) := by decide +kernel
theorem dX7_beginSecondChild_35 : decode cX7_beginSecondChild 35 = .ok (.getfield 21, 3) := by decide +kernel
theorem dX7_beginSecondChild_38 : decode cX7_beginSecondChild 38 = .ok (.aload_n 0, 1) := by decide +kernel
theorem dX7_beginSecondChild_39 : decode cX7_beginSecondChild 39 = .ok (.getfield 190, 3) := by decide +kernel
theorem dX7_beginSecondChild_42 : decode cX7_beginSecondChild 42 = .ok (.aload_n 0, 1) := by decide +kernel
theorem dX7_beginSecondChild_43 : decode cX7_beginSecondChild 43 = .ok (.getfield 42, 3) := by decide +kernel
theorem dX7_beginSecondChild_46 : decode cX7_beginSecondChild 46 = .ok (.invokevirtual 226, 3) := by decide +kernel
theorem dX7_beginSecondChild_49 : decode cX7_beginSecondChild 49 = .ok (.aload_n 0, 1) := by decide +kernel
theorem dX7_beginSecondChild_50 : decode cX7_beginSecondChild 50 = .ok (.getfield 12, 3) := by decide +kernel
theorem dX7_beginSecondChild_53 : decode cX7_beginSecondChild 53 = .ok (.aload_n 0, 1) := by decide +kernel
theorem dX7_beginSecondChild_54 : decode cX7_beginSecondChild 54 = .ok (.getfield 21, 3) := by decide +kernel
theorem dX7_beginSecondChild_57 : decode cX7_beginSecondChild 57 = .ok (.aload_n 0, 1) := by decide +kernel
theorem dX7_beginSecondChild_58 : decode cX7_beginSecondChild 58 = .ok (.getfield 190, 3) := by decide +kernel
theorem dX7_beginSecondChild_61 : decode cX7_beginSecondChild 61 = .ok (.invokevirtual 269, 3) := by decide +kernel
theorem dX7_beginSecondChild_64 : decode cX7_beginSecondChild 64 = .ok (.aload_n 0, 1) := by decide +kernel
theorem dX7_beginSecondChild_65 : decode cX7_beginSecondChild 65 = .ok (.getfield 42, 3) := by decide +kernel
theorem dX7_beginSecondChild_68 : decode cX7_beginSecondChild 68 = .ok (.iconst 1, 1) := by decide +kernel
theorem dX7_beginSecondChild_69 : decode cX7_beginSecondChild 69 = .ok (.invokevirtual 278, 3) := by decide +kernel
theorem dX7_beginSecondChild_72 : decode cX7_beginSecondChild 72 = .ok (.aload_n 0, 1) := by decide +kernel
theorem dX7_beginSecondChild_73 : decode cX7_beginSecondChild 73 = .ok (.getfield 21, 3) := by decide +kernel
theorem dX7_beginSecondChild_76 : decode cX7_beginSecondChild 76 = .ok (.aload_n 0, 1) := by decide +kernel
theorem dX7_beginSecondChild_77 : decode cX7_beginSecondChild 77 = .ok (.getfield 190, 3) := by decide +kernel
theorem dX7_beginSecondChild_80 : decode cX7_beginSecondChild 80 = .ok (.iconst 1, 1) := by decide +kernel
theorem dX7_beginSecondChild_81 : decode cX7_beginSecondChild 81 = .ok (.invokevirtual 282, 3) := by decide +kernel
theorem dX7_beginSecondChild_84 : decode cX7_beginSecondChild 84 = .ok (.return_, 1) := by decide +kernel
theorem dX7_branch_0 : decode cX7_branch 0 = .ok (.aload_n 0, 1) := by decide +kernel
theorem dX7_branch_1 : decode cX7_branch 1 = .ok (.getfield 21, 3) := by decide +kernel
theorem dX7_branch_4 : decode cX7_branch 4 = .ok (.aload_n 0, 1) := by decide +kernel
theorem dX7_branch_5 : decode cX7_branch 5 = .ok (.getfield 190, 3) := by decide +kernel
theorem dX7_branch_8 : decode cX7_branch 8 = .ok (.invokevirtual 269, 3) := by decide +kernel
theorem dX7_branch_11 : decode cX7_branch 11 = .ok (.istore_n 1, 1) := by decide +kernel
theorem dX7_branch_12 : decode cX7_branch 12 = .ok (.aload_n 0, 1) := by decide +kernel
theorem dX7_branch_13 : decode cX7_branch 13 = .ok (.getfield 21, 3) := by decide +kernel
theorem dX7_branch_16 : decode cX7_branch 16 = .ok (.aload_n 0, 1) := by decide +kernel
theorem dX7_branch_17 : decode cX7_branch 17 = .ok (.getfield 190, 3) := by decide +kernel
theorem dX7_branch_20 : decode cX7_branch 20 = .ok (.aload_n 0, 1) := by decide +kernel
theorem dX7_branch_21 : decode cX7_branch 21 = .ok (.getfield 42, 3) := by decide +kernel
theorem dX7_branch_24 : decode cX7_branch 24 = .ok (.invokevirtual 226, 3) := by decide +kernel
theorem dX7_branch_27 : decode cX7_branch 27 = .ok (.aload_n 0, 1) := by decide +kernel
theorem dX7_branch_28 : decode cX7_branch 28 = .ok (.getfield 28, 3) := by decide +kernel
theorem dX7_branch_31 : decode cX7_branch 31 = .ok (.iload_n 1, 1) := by decide +kernel
theorem dX7_branch_32 : decode cX7_branch 32 = .ok (.aload_n 0, 1) := by decide +kernel
theorem dX7_branch_33 : decode cX7_branch 33 = .ok (.getfield 42, 3) := by decide +kernel
theorem dX7_branch_36 : decode cX7_branch 36 = .ok (.invokevirtual 272, 3) := by decide +kernel
theorem dX7_branch_39 : decode cX7_branch 39 = .ok (.aload_n 0, 1) := by decide +kernel
theorem dX7_branch_40 : decode cX7_branch 40 = .ok (.aload_n 0, 1) := by decide +kernel
theorem dX7_branch_41 : decode cX7_branch 41 = .ok (.getfield 12, 3) := by decide +kernel
theorem dX7_branch_44 : decode cX7_branch 44 = .ok (.invokevirtual 255, 3) := by decide +kernel
theorem dX7_branch_47 : decode cX7_branch 47 = .ok (.ifCond .ne 7, 3) := by decide +kernel
theorem dX7_branch_50 : decode cX7_branch 50 = .ok (.iconst 1, 1) := by decide +kernel
theorem dX7_branch_51 : decode cX7_branch 51 = .ok (.goto 4, 3) := by decide +kernel
theorem dX7_branch_54 : decode cX7_branch 54 = .ok (.iconst 0, 1) := by decide +kernel
theorem dX7_branch_55 : decode cX7_branch 55 = .ok (.invokevirtual 258, 3) := by decide +kernel
theorem dX7_branch_58 : decode cX7_branch 58 = .ok (.ifCond .ne 4, 3) := by decide +kernel
theorem dX7_branch_61 : decode cX7_branch 61 = .ok (.return_, 1) := by decide +kernel
theorem dX7_branch_62 : decode cX7_branch 62 = .ok (.aload_n 0, 1) := by decide +kernel
theorem dX7_branch_63 : decode cX7_branch 63 = .ok (.getfield 21, 3) := by decide +kernel
theorem dX7_branch_66 : decode cX7_branch 66 = .ok (.aload_n 0, 1) := by decide +kernel
theorem dX7_branch_67 : decode cX7_branch 67 = .ok (.getfield 190, 3) := by decide +kernel
theorem dX7_branch_70 : decode cX7_branch 70 = .ok (.invokevirtual 275, 3) := by decide +kernel
theorem dX7_branch_73 : decode cX7_branch 73 = .ok (.aload_n 0, 1) := by decide +kernel
theorem dX7_branch_74 : decode cX7_branch 74 = .ok (.getfield 12, 3) := by decide +kernel
theorem dX7_branch_77 : decode cX7_branch 77 = .ok (.iload_n 1, 1) := by decide +kernel
theorem dX7_branch_78 : decode cX7_branch 78 = .ok (.aload_n 0, 1) := by decide +kernel
theorem dX7_branch_79 : decode cX7_branch 79 = .ok (.getfield 42, 3) := by decide +kernel
theorem dX7_branch_82 : decode cX7_branch 82 = .ok (.iconst 0, 1) := by decide +kernel
theorem dX7_branch_83 : decode cX7_branch 83 = .ok (.invokevirtual 278, 3) := by decide +kernel
theorem dX7_branch_86 : decode cX7_branch 86 = .ok (.aload_n 0, 1) := by decide +kernel
theorem dX7_branch_87 : decode cX7_branch 87 = .ok (.getfield 21, 3) := by decide +kernel
theorem dX7_branch_90 : decode cX7_branch 90 = .ok (.aload_n 0, 1) := by decide +kernel
theorem dX7_branch_91 : decode cX7_branch 91 = .ok (.getfield 190, 3) := by decide +kernel
theorem dX7_branch_94 : decode cX7_branch 94 = .ok (.iconst 0, 1) := by decide +kernel
theorem dX7_branch_95 : decode cX7_branch 95 = .ok (.invokevirtual 282, 3) := by decide +kernel
theorem dX7_branch_98 : decode cX7_branch 98 = .ok (.return_, 1) := by decide +kernel
theorem dX7_choose_0 : decode cX7_choose 0 = .ok (.aload_n 0, 1) := by decide +kernel
theorem dX7_choose_1 : decode cX7_choose 1 = .ok (.getfield 88, 3) := by decide +kernel
theorem dX7_choose_4 : decode cX7_choose 4 = .ok (.lookupswitch 69 #[(1, 28), (2, 57)], 28) := by decide +kernel
theorem dX7_choose_32 : decode cX7_choose 32 = .ok (.aload_n 0, 1) := by decide +kernel
theorem dX7_choose_33 : decode cX7_choose 33 = .ok (.getfield 72, 3) := by decide +kernel
theorem dX7_choose_36 : decode cX7_choose 36 = .ok (.ifCond .ne 13, 3) := by decide +kernel
theorem dX7_choose_39 : decode cX7_choose 39 = .ok (.aload_n 0, 1) := by decide +kernel
theorem dX7_choose_40 : decode cX7_choose 40 = .ok (.getfield 21, 3) := by decide +kernel
theorem dX7_choose_43 : decode cX7_choose 43 = .ok (.invokevirtual 174, 3) := by decide +kernel
theorem dX7_choose_46 : decode cX7_choose 46 = .ok (.goto 11, 3) := by decide +kernel
theorem dX7_choose_49 : decode cX7_choose 49 = .ok (.aload_n 0, 1) := by decide +kernel
theorem dX7_choose_50 : decode cX7_choose 50 = .ok (.getfield 21, 3) := by decide +kernel
theorem dX7_choose_53 : decode cX7_choose 53 = .ok (.iconst (-1), 1) := by decide +kernel
theorem dX7_choose_54 : decode cX7_choose 54 = .ok (.invokevirtual 177, 3) := by decide +kernel
theorem dX7_choose_57 : decode cX7_choose 57 = .ok (.istore_n 1, 1) := by decide +kernel
theorem dX7_choose_58 : decode cX7_choose 58 = .ok (.goto 23, 3) := by decide +kernel
theorem dX7_choose_61 : decode cX7_choose 61 = .ok (.aload_n 0, 1) := by decide +kernel
theorem dX7_choose_62 : decode cX7_choose 62 = .ok (.getfield 21, 3) := by decide +kernel
theorem dX7_choose_65 : decode cX7_choose 65 = .ok (.iconst 0, 1) := by decide +kernel
theorem dX7_choose_66 : decode cX7_choose 66 = .ok (.invokevirtual 177, 3) := by decide +kernel
theorem dX7_choose_69 : decode cX7_choose 69 = .ok (.istore_n 1, 1) := by decide +kernel
theorem dX7_choose_70 : decode cX7_choose 70 = .ok (.goto 11, 3) := by decide +kernel
theorem dX7_choose_73 : decode cX7_choose 73 = .ok (.aload_n 0, 1) := by decide +kernel
theorem dX7_choose_74 : decode cX7_choose 74 = .ok (.getfield 21, 3) := by decide +kernel
theorem dX7_choose_77 : decode cX7_choose 77 = .ok (.invokevirtual 181, 3) := by decide +kernel
theorem dX7_choose_80 : decode cX7_choose 80 = .ok (.istore_n 1, 1) := by decide +kernel
theorem dX7_choose_81 : decode cX7_choose 81 = .ok (.iload_n 1, 1) := by decide +kernel
theorem dX7_choose_82 : decode cX7_choose 82 = .ok (.iconst 1, 1) := by decide +kernel
theorem dX7_choose_83 : decode cX7_choose 83 = .ok (.if_icmp .ne 11, 3) := by decide +kernel
theorem dX7_choose_86 : decode cX7_choose 86 = .ok (.aload_n 0, 1) := by decide +kernel
theorem dX7_choose_87 : decode cX7_choose 87 = .ok (.iconst 1, 1) := by decide +kernel
theorem dX7_choose_88 : decode cX7_choose 88 = .ok (.putfield 91, 3) := by decide +kernel
theorem dX7_choose_91 : decode cX7_choose 91 = .ok (.goto 62, 3) := by decide +kernel
theorem dX7_choose_94 : decode cX7_choose 94 = .ok (.aload_n 0, 1) := by decide +kernel
theorem dX7_choose_95 : decode cX7_choose 95 = .ok (.getfield 88, 3) := by decide +kernel
theorem dX7_choose_98 : decode cX7_choose 98 = .ok (.iconst 1, 1) := by decide +kernel
theorem dX7_choose_99 : decode cX7_choose 99 = .ok (.if_icmp .ne 10, 3) := by decide +kernel
theorem dX7_choose_102 : decode cX7_choose 102 = .ok (.aload_n 0, 1) := by decide +kernel
theorem dX7_choose_103 : decode cX7_choose 103 = .ok (.invokevirtual 184, 3) := by decide +kernel
theorem dX7_choose_106 : decode cX7_choose 106 = .ok (.goto 47, 3) := by decide +kernel
theorem dX7_choose_109 : decode cX7_choose 109 = .ok (.iload_n 1, 1) := by decide +kernel
theorem dX7_choose_110 : decode cX7_choose 110 = .ok (.ifCond .ne 11, 3) := by decide +kernel
theorem dX7_choose_113 : decode cX7_choose 113 = .ok (.aload_n 0, 1) := by decide +kernel
theorem dX7_choose_114 : decode cX7_choose 114 = .ok (.iconst 2, 1) := by decide +kernel
theorem dX7_choose_115 : decode cX7_choose 115 = .ok (.putfield 91, 3) := by decide +kernel
theorem dX7_choose_118 : decode cX7_choose 118 = .ok (.goto 35, 3) := by decide +kernel
theorem dX7_choose_121 : decode cX7_choose 121 = .ok (.aload_n 0, 1) := by decide +kernel
theorem dX7_choose_122 : decode cX7_choose 122 = .ok (.getfield 88, 3) := by decide +kernel
theorem dX7_choose_125 : decode cX7_choose 125 = .ok (.iconst 2, 1) := by decide +kernel
theorem dX7_choose_126 : decode cX7_choose 126 = .ok (.if_icmp .ne 11, 3) := by decide +kernel
theorem dX7_choose_129 : decode cX7_choose 129 = .ok (.aload_n 0, 1) := by decide +kernel
theorem dX7_choose_130 : decode cX7_choose 130 = .ok (.iconst 4, 1) := by decide +kernel
theorem dX7_choose_131 : decode cX7_choose 131 = .ok (.putfield 69, 3) := by decide +kernel
theorem dX7_choose_134 : decode cX7_choose 134 = .ok (.goto 19, 3) := by decide +kernel
theorem dX7_choose_137 : decode cX7_choose 137 = .ok (.aload_n 0, 1) := by decide +kernel
theorem dX7_choose_138 : decode cX7_choose 138 = .ok (.aload_n 0, 1) := by decide +kernel
theorem dX7_choose_139 : decode cX7_choose 139 = .ok (.getfield 21, 3) := by decide +kernel
theorem dX7_choose_142 : decode cX7_choose 142 = .ok (.invokevirtual 187, 3) := by decide +kernel
theorem dX7_choose_145 : decode cX7_choose 145 = .ok (.putfield 190, 3) := by decide +kernel
theorem dX7_choose_148 : decode cX7_choose 148 = .ok (.aload_n 0, 1) := by decide +kernel
theorem dX7_choose_149 : decode cX7_choose 149 = .ok (.iconst 3, 1) := by decide +kernel
theorem dX7_choose_150 : decode cX7_choose 150 = .ok (.putfield 91, 3) := by decide +kernel
theorem dX7_choose_153 : decode cX7_choose 153 = .ok (.return_, 1) := by decide +kernel
theorem dX7_countChild_0 : decode cX7_countChild 0 = .ok (.aload_n 0, 1) := by decide +kernel
theorem dX7_countChild_1 : decode cX7_countChild 1 = .ok (.getfield 28, 3) := by decide +kernel
theorem dX7_countChild_4 : decode cX7_countChild 4 = .ok (.invokevirtual 245, 3) := by decide +kernel
theorem dX7_countChild_7 : decode cX7_countChild 7 = .ok (.ifCond .ne 17, 3) := by decide +kernel
theorem dX7_countChild_10 : decode cX7_countChild 10 = .ok (.iload_n 1, 1) := by decide +kernel
theorem dX7_countChild_11 : decode cX7_countChild 11 = .ok (.ifCond .eq 13, 3) := by decide +kernel
theorem dX7_countChild_14 : decode cX7_countChild 14 = .ok (.aload_n 0, 1) := by decide +kernel
theorem dX7_countChild_15 : decode cX7_countChild 15 = .ok (.getfield 75, 3) := by decide +kernel
theorem dX7_countChild_18 : decode cX7_countChild 18 = .ok (.sipush 1000, 3) := by decide +kernel
theorem dX7_countChild_21 : decode cX7_countChild 21 = .ok (.if_icmp .lt 11, 3) := by decide +kernel
theorem dX7_countChild_24 : decode cX7_countChild 24 = .ok (.aload_n 0, 1) := by decide +kernel
theorem dX7_countChild_25 : decode cX7_countChild 25 = .ok (.bipush 6, 2) := by decide +kernel
theorem dX7_countChild_27 : decode cX7_countChild 27 = .ok (.putfield 69, 3) := by decide +kernel
theorem dX7_countChild_30 : decode cX7_countChild 30 = .ok (.iconst 0, 1) := by decide +kernel
theorem dX7_countChild_31 : decode cX7_countChild 31 = .ok (.ireturn, 1) := by decide +kernel
theorem dX7_countChild_32 : decode cX7_countChild 32 = .ok (.aload_n 0, 1) := by decide +kernel
theorem dX7_countChild_33 : decode cX7_countChild 33 = .ok (.dup, 1) := by decide +kernel
theorem dX7_countChild_34 : decode cX7_countChild 34 = .ok (.getfield 75, 3) := by decide +kernel
theorem dX7_countChild_37 : decode cX7_countChild 37 = .ok (.iconst 1, 1) := by decide +kernel
theorem dX7_countChild_38 : decode cX7_countChild 38 = .ok (.iadd, 1) := by decide +kernel
theorem dX7_countChild_39 : decode cX7_countChild 39 = .ok (.putfield 75, 3) := by decide +kernel
theorem dX7_countChild_42 : decode cX7_countChild 42 = .ok (.aload_n 0, 1) := by decide +kernel
theorem dX7_countChild_43 : decode cX7_countChild 43 = .ok (.iconst 3, 1) := by decide +kernel
theorem dX7_countChild_44 : decode cX7_countChild 44 = .ok (.putfield 88, 3) := by decide +kernel
theorem dX7_countChild_47 : decode cX7_countChild 47 = .ok (.aload_n 0, 1) := by decide +kernel
theorem dX7_countChild_48 : decode cX7_countChild 48 = .ok (.iconst 0, 1) := by decide +kernel
theorem dX7_countChild_49 : decode cX7_countChild 49 = .ok (.putfield 91, 3) := by decide +kernel
theorem dX7_countChild_52 : decode cX7_countChild 52 = .ok (.iconst 1, 1) := by decide +kernel
theorem dX7_countChild_53 : decode cX7_countChild 53 = .ok (.ireturn, 1) := by decide +kernel
theorem dX7_cut_0 : decode cX7_cut 0 = .ok (.aload_n 0, 1) := by decide +kernel
theorem dX7_cut_1 : decode cX7_cut 1 = .ok (.getfield 28, 3) := by decide +kernel
theorem dX7_cut_4 : decode cX7_cut 4 = .ok (.aload_n 0, 1) := by decide +kernel
theorem dX7_cut_5 : decode cX7_cut 5 = .ok (.getfield 21, 3) := by decide +kernel
theorem dX7_cut_8 : decode cX7_cut 8 = .ok (.aload_n 0, 1) := by decide +kernel
theorem dX7_cut_9 : decode cX7_cut 9 = .ok (.getfield 51, 3) := by decide +kernel
theorem dX7_cut_12 : decode cX7_cut 12 = .ok (.getfield 110, 3) := by decide +kernel
theorem dX7_cut_15 : decode cX7_cut 15 = .ok (.aload_n 0, 1) := by decide +kernel
theorem dX7_cut_16 : decode cX7_cut 16 = .ok (.getfield 190, 3) := by decide +kernel
theorem dX7_cut_19 : decode cX7_cut 19 = .ok (.aload_n 0, 1) := by decide +kernel
theorem dX7_cut_20 : decode cX7_cut 20 = .ok (.getfield 12, 3) := by decide +kernel
theorem dX7_cut_23 : decode cX7_cut 23 = .ok (.invokevirtual 251, 3) := by decide +kernel
theorem dX7_cut_26 : decode cX7_cut 26 = .ok (.aload_n 0, 1) := by decide +kernel
theorem dX7_cut_27 : decode cX7_cut 27 = .ok (.aload_n 0, 1) := by decide +kernel
theorem dX7_cut_28 : decode cX7_cut 28 = .ok (.getfield 12, 3) := by decide +kernel
theorem dX7_cut_31 : decode cX7_cut 31 = .ok (.invokevirtual 255, 3) := by decide +kernel
theorem dX7_cut_34 : decode cX7_cut 34 = .ok (.ifCond .ne 7, 3) := by decide +kernel
theorem dX7_cut_37 : decode cX7_cut 37 = .ok (.iconst 1, 1) := by decide +kernel
theorem dX7_cut_38 : decode cX7_cut 38 = .ok (.goto 4, 3) := by decide +kernel
theorem dX7_cut_41 : decode cX7_cut 41 = .ok (.iconst 0, 1) := by decide +kernel
theorem dX7_cut_42 : decode cX7_cut 42 = .ok (.invokevirtual 258, 3) := by decide +kernel
theorem dX7_cut_45 : decode cX7_cut 45 = .ok (.ifCond .ne 4, 3) := by decide +kernel
theorem dX7_cut_48 : decode cX7_cut 48 = .ok (.return_, 1) := by decide +kernel
theorem dX7_cut_49 : decode cX7_cut 49 = .ok (.aload_n 0, 1) := by decide +kernel
theorem dX7_cut_50 : decode cX7_cut 50 = .ok (.dup, 1) := by decide +kernel
theorem dX7_cut_51 : decode cX7_cut 51 = .ok (.getfield 81, 3) := by decide +kernel
theorem dX7_cut_54 : decode cX7_cut 54 = .ok (.iconst 1, 1) := by decide +kernel
theorem dX7_cut_55 : decode cX7_cut 55 = .ok (.iadd, 1) := by decide +kernel
theorem dX7_cut_56 : decode cX7_cut 56 = .ok (.putfield 81, 3) := by decide +kernel
theorem dX7_cut_59 : decode cX7_cut 59 = .ok (.aload_n 0, 1) := by decide +kernel
theorem dX7_cut_60 : decode cX7_cut 60 = .ok (.getfield 21, 3) := by decide +kernel
theorem dX7_cut_63 : decode cX7_cut 63 = .ok (.aload_n 0, 1) := by decide +kernel
theorem dX7_cut_64 : decode cX7_cut 64 = .ok (.getfield 45, 3) := by decide +kernel
theorem dX7_cut_67 : decode cX7_cut 67 = .ok (.invokevirtual 117, 3) := by decide +kernel
theorem dX7_cut_70 : decode cX7_cut 70 = .ok (.aload_n 0, 1) := by decide +kernel
theorem dX7_cut_71 : decode cX7_cut 71 = .ok (.getfield 12, 3) := by decide +kernel
theorem dX7_cut_74 : decode cX7_cut 74 = .ok (.aload_n 0, 1) := by decide +kernel
theorem dX7_cut_75 : decode cX7_cut 75 = .ok (.getfield 45, 3) := by decide +kernel
theorem dX7_cut_78 : decode cX7_cut 78 = .ok (.invokevirtual 262, 3) := by decide +kernel
theorem dX7_cut_81 : decode cX7_cut 81 = .ok (.pop, 1) := by decide +kernel
theorem dX7_cut_82 : decode cX7_cut 82 = .ok (.aload_n 0, 1) := by decide +kernel
theorem dX7_cut_83 : decode cX7_cut 83 = .ok (.getfield 21, 3) := by decide +kernel
theorem dX7_cut_86 : decode cX7_cut 86 = .ok (.aload_n 0, 1) := by decide +kernel
theorem dX7_cut_87 : decode cX7_cut 87 = .ok (.getfield 190, 3) := by decide +kernel
theorem dX7_cut_90 : decode cX7_cut 90 = .ok (.invokevirtual 266, 3) := by decide +kernel
theorem dX7_cut_93 : decode cX7_cut 93 = .ok (.return_, 1) := by decide +kernel
theorem dX7_endPhaseOne_0 : decode cX7_endPhaseOne 0 = .ok (.aload_n 0, 1) := by decide +kernel
theorem dX7_endPhaseOne_1 : decode cX7_endPhaseOne 1 = .ok (.getfield 21, 3) := by decide +kernel
theorem dX7_endPhaseOne_4 : decode cX7_endPhaseOne 4 = .ok (.iconst (-1), 1) := by decide +kernel
theorem dX7_endPhaseOne_5 : decode cX7_endPhaseOne 5 = .ok (.iconst 0, 1) := by decide +kernel
theorem dX7_endPhaseOne_6 : decode cX7_endPhaseOne 6 = .ok (.invokevirtual 193, 3) := by decide +kernel
theorem dX7_endPhaseOne_9 : decode cX7_endPhaseOne 9 = .ok (.ifCond .ge 16, 3) := by decide +kernel
theorem dX7_endPhaseOne_12 : decode cX7_endPhaseOne 12 = .ok (.aload_n 0, 1) := by decide +kernel
theorem dX7_endPhaseOne_13 : decode cX7_endPhaseOne 13 = .ok (.iconst (-1), 1) := by decide +kernel
theorem dX7_endPhaseOne_14 : decode cX7_endPhaseOne 14 = .ok (.putfield 190, 3) := by decide +kernel
theorem dX7_endPhaseOne_17 : decode cX7_endPhaseOne 17 = .ok (.aload_n 0, 1) := by decide +kernel
theorem dX7_endPhaseOne_18 : decode cX7_endPhaseOne 18 = .ok (.iconst 3, 1) := by decide +kernel
theorem dX7_endPhaseOne_19 : decode cX7_endPhaseOne 19 = .ok (.putfield 91, 3) := by decide +kernel
theorem dX7_endPhaseOne_22 : decode cX7_endPhaseOne 22 = .ok (.goto 44, 3) := by decide +kernel
theorem dX7_endPhaseOne_25 : decode cX7_endPhaseOne 25 = .ok (.aload_n 0, 1) := by decide +kernel
theorem dX7_endPhaseOne_26 : decode cX7_endPhaseOne 26 = .ok (.getfield 21, 3) := by decide +kernel
theorem dX7_endPhaseOne_29 : decode cX7_endPhaseOne 29 = .ok (.invokevirtual 197, 3) := by decide +kernel
theorem dX7_endPhaseOne_32 : decode cX7_endPhaseOne 32 = .ok (.ifCond .eq 22, 3) := by decide +kernel
theorem dX7_endPhaseOne_35 : decode cX7_endPhaseOne 35 = .ok (.aload_n 0, 1) := by decide +kernel
theorem dX7_endPhaseOne_36 : decode cX7_endPhaseOne 36 = .ok (.getfield 21, 3) := by decide +kernel
theorem dX7_endPhaseOne_39 : decode cX7_endPhaseOne 39 = .ok (.invokevirtual 200, 3) := by decide +kernel
theorem dX7_endPhaseOne_42 : decode cX7_endPhaseOne 42 = .ok (.iconst 1, 1) := by decide +kernel
theorem dX7_endPhaseOne_43 : decode cX7_endPhaseOne 43 = .ok (.if_icmp .ne 11, 3) := by decide +kernel
theorem dX7_endPhaseOne_46 : decode cX7_endPhaseOne 46 = .ok (.aload_n 0, 1) := by decide +kernel
theorem dX7_endPhaseOne_47 : decode cX7_endPhaseOne 47 = .ok (.iconst 1, 1) := by decide +kernel
theorem dX7_endPhaseOne_48 : decode cX7_endPhaseOne 48 = .ok (.putfield 91, 3) := by decide +kernel
theorem dX7_endPhaseOne_51 : decode cX7_endPhaseOne 51 = .ok (.goto 15, 3) := by decide +kernel
theorem dX7_endPhaseOne_54 : decode cX7_endPhaseOne 54 = .ok (.aload_n 0, 1) := by decide +kernel
theorem dX7_endPhaseOne_55 : decode cX7_endPhaseOne 55 = .ok (.getfield 21, 3) := by decide +kernel
theorem dX7_endPhaseOne_58 : decode cX7_endPhaseOne 58 = .ok (.invokevirtual 203, 3) := by decide +kernel
theorem dX7_endPhaseOne_61 : decode cX7_endPhaseOne 61 = .ok (.aload_n 0, 1) := by decide +kernel
theorem dX7_endPhaseOne_62 : decode cX7_endPhaseOne 62 = .ok (.iconst 2, 1) := by decide +kernel
theorem dX7_endPhaseOne_63 : decode cX7_endPhaseOne 63 = .ok (.putfield 88, 3) := by decide +kernel
theorem dX7_endPhaseOne_66 : decode cX7_endPhaseOne 66 = .ok (.return_, 1) := by decide +kernel
theorem dX7_isAboveBest_0 : decode cX7_isAboveBest 0 = .ok (.aload_n 0, 1) := by decide +kernel
theorem dX7_isAboveBest_1 : decode cX7_isAboveBest 1 = .ok (.getfield 21, 3) := by decide +kernel
theorem dX7_isAboveBest_4 : decode cX7_isAboveBest 4 = .ok (.iconst 0, 1) := by decide +kernel
theorem dX7_isAboveBest_5 : decode cX7_isAboveBest 5 = .ok (.iconst 0, 1) := by decide +kernel
theorem dX7_isAboveBest_6 : decode cX7_isAboveBest 6 = .ok (.aload_n 0, 1) := by decide +kernel
theorem dX7_isAboveBest_7 : decode cX7_isAboveBest 7 = .ok (.getfield 42, 3) := by decide +kernel
theorem dX7_isAboveBest_10 : decode cX7_isAboveBest 10 = .ok (.invokevirtual 220, 3) := by decide +kernel
theorem dX7_isAboveBest_13 : decode cX7_isAboveBest 13 = .ok (.aload_n 0, 1) := by decide +kernel
theorem dX7_isAboveBest_14 : decode cX7_isAboveBest 14 = .ok (.getfield 21, 3) := by decide +kernel
theorem dX7_isAboveBest_17 : decode cX7_isAboveBest 17 = .ok (.aload_n 0, 1) := by decide +kernel
theorem dX7_isAboveBest_18 : decode cX7_isAboveBest 18 = .ok (.getfield 45, 3) := by decide +kernel
theorem dX7_isAboveBest_21 : decode cX7_isAboveBest 21 = .ok (.invokevirtual 117, 3) := by decide +kernel
theorem dX7_isAboveBest_24 : decode cX7_isAboveBest 24 = .ok (.aload_n 0, 1) := by decide +kernel
theorem dX7_isAboveBest_25 : decode cX7_isAboveBest 25 = .ok (.getfield 51, 3) := by decide +kernel
theorem dX7_isAboveBest_28 : decode cX7_isAboveBest 28 = .ok (.invokevirtual 223, 3) := by decide +kernel
theorem dX7_isAboveBest_31 : decode cX7_isAboveBest 31 = .ok (.ifCond .eq 23, 3) := by decide +kernel
theorem dX7_isAboveBest_34 : decode cX7_isAboveBest 34 = .ok (.aload_n 0, 1) := by decide +kernel
theorem dX7_isAboveBest_35 : decode cX7_isAboveBest 35 = .ok (.getfield 21, 3) := by decide +kernel
theorem dX7_isAboveBest_38 : decode cX7_isAboveBest 38 = .ok (.iconst 0, 1) := by decide +kernel
theorem dX7_isAboveBest_39 : decode cX7_isAboveBest 39 = .ok (.aload_n 0, 1) := by decide +kernel
theorem dX7_isAboveBest_40 : decode cX7_isAboveBest 40 = .ok (.getfield 42, 3) := by decide +kernel
theorem dX7_isAboveBest_43 : decode cX7_isAboveBest 43 = .ok (.invokevirtual 226, 3) := by decide +kernel
theorem dX7_isAboveBest_46 : decode cX7_isAboveBest 46 = .ok (.aload_n 0, 1) := by decide +kernel
theorem dX7_isAboveBest_47 : decode cX7_isAboveBest 47 = .ok (.getfield 45, 3) := by decide +kernel
theorem dX7_isAboveBest_50 : decode cX7_isAboveBest 50 = .ok (.lconst 1, 1) := by decide +kernel
theorem dX7_isAboveBest_51 : decode cX7_isAboveBest 51 = .ok (.invokevirtual 229, 3) := by decide +kernel
theorem dX7_isAboveBest_54 : decode cX7_isAboveBest 54 = .ok (.aload_n 0, 1) := by decide +kernel
theorem dX7_isAboveBest_55 : decode cX7_isAboveBest 55 = .ok (.getfield 28, 3) := by decide +kernel
theorem dX7_isAboveBest_58 : decode cX7_isAboveBest 58 = .ok (.aload_n 0, 1) := by decide +kernel
theorem dX7_isAboveBest_59 : decode cX7_isAboveBest 59 = .ok (.getfield 39, 3) := by decide +kernel
theorem dX7_isAboveBest_62 : decode cX7_isAboveBest 62 = .ok (.invokevirtual 129, 3) := by decide +kernel
theorem dX7_isAboveBest_65 : decode cX7_isAboveBest 65 = .ok (.aload_n 0, 1) := by decide +kernel
theorem dX7_isAboveBest_66 : decode cX7_isAboveBest 66 = .ok (.getfield 35, 3) := by decide +kernel
theorem dX7_isAboveBest_69 : decode cX7_isAboveBest 69 = .ok (.aload_n 0, 1) := by decide +kernel
theorem dX7_isAboveBest_70 : decode cX7_isAboveBest 70 = .ok (.getfield 42, 3) := by decide +kernel
theorem dX7_isAboveBest_73 : decode cX7_isAboveBest 73 = .ok (.aload_n 0, 1) := by decide +kernel
theorem dX7_isAboveBest_74 : decode cX7_isAboveBest 74 = .ok (.getfield 39, 3) := by decide +kernel
theorem dX7_isAboveBest_77 : decode cX7_isAboveBest 77 = .ok (.invokevirtual 233, 3) := by decide +kernel
theorem dX7_isAboveBest_80 : decode cX7_isAboveBest 80 = .ok (.aload_n 0, 1) := by decide +kernel
theorem dX7_isAboveBest_81 : decode cX7_isAboveBest 81 = .ok (.getfield 28, 3) := by decide +kernel
theorem dX7_isAboveBest_84 : decode cX7_isAboveBest 84 = .ok (.iconst 0, 1) := by decide +kernel
theorem dX7_isAboveBest_85 : decode cX7_isAboveBest 85 = .ok (.aload_n 0, 1) := by decide +kernel
theorem dX7_isAboveBest_86 : decode cX7_isAboveBest 86 = .ok (.getfield 42, 3) := by decide +kernel
theorem dX7_isAboveBest_89 : decode cX7_isAboveBest 89 = .ok (.invokevirtual 125, 3) := by decide +kernel
theorem dX7_isAboveBest_92 : decode cX7_isAboveBest 92 = .ok (.aload_n 0, 1) := by decide +kernel
theorem dX7_isAboveBest_93 : decode cX7_isAboveBest 93 = .ok (.getfield 39, 3) := by decide +kernel
theorem dX7_isAboveBest_96 : decode cX7_isAboveBest 96 = .ok (.aload_n 0, 1) := by decide +kernel
theorem dX7_isAboveBest_97 : decode cX7_isAboveBest 97 = .ok (.getfield 42, 3) := by decide +kernel
theorem dX7_isAboveBest_100 : decode cX7_isAboveBest 100 = .ok (.aload_n 0, 1) := by decide +kernel
theorem dX7_isAboveBest_101 : decode cX7_isAboveBest 101 = .ok (.getfield 45, 3) := by decide +kernel
theorem dX7_isAboveBest_104 : decode cX7_isAboveBest 104 = .ok (.invokevirtual 233, 3) := by decide +kernel
theorem dX7_isAboveBest_107 : decode cX7_isAboveBest 107 = .ok (.aload_n 0, 1) := by decide +kernel
theorem dX7_isAboveBest_108 : decode cX7_isAboveBest 108 = .ok (.getfield 35, 3) := by decide +kernel
theorem dX7_isAboveBest_111 : decode cX7_isAboveBest 111 = .ok (.aload_n 0, 1) := by decide +kernel
theorem dX7_isAboveBest_112 : decode cX7_isAboveBest 112 = .ok (.getfield 39, 3) := by decide +kernel
theorem dX7_isAboveBest_115 : decode cX7_isAboveBest 115 = .ok (.invokevirtual 237, 3) := by decide +kernel
theorem dX7_isAboveBest_118 : decode cX7_isAboveBest 118 = .ok (.ifCond .le 7, 3) := by decide +kernel
theorem dX7_isAboveBest_121 : decode cX7_isAboveBest 121 = .ok (.iconst 1, 1) := by decide +kernel
theorem dX7_isAboveBest_122 : decode cX7_isAboveBest 122 = .ok (.goto 4, 3) := by decide +kernel
theorem dX7_isAboveBest_125 : decode cX7_isAboveBest 125 = .ok (.iconst 0, 1) := by decide +kernel
theorem dX7_isAboveBest_126 : decode cX7_isAboveBest 126 = .ok (.ireturn, 1) := by decide +kernel
theorem dX7_isProved_0 : decode cX7_isProved 0 = .ok (.aload_n 0, 1) := by decide +kernel
theorem dX7_isProved_1 : decode cX7_isProved 1 = .ok (.getfield 69, 3) := by decide +kernel
theorem dX7_isProved_4 : decode cX7_isProved 4 = .ok (.iconst 2, 1) := by decide +kernel
theorem dX7_isProved_5 : decode cX7_isProved 5 = .ok (.if_icmp .lt 15, 3) := by decide +kernel
theorem dX7_isProved_8 : decode cX7_isProved 8 = .ok (.aload_n 0, 1) := by decide +kernel
theorem dX7_isProved_9 : decode cX7_isProved 9 = .ok (.getfield 69, 3) := by decide +kernel
theorem dX7_isProved_12 : decode cX7_isProved 12 = .ok (.iconst 4, 1) := by decide +kernel
theorem dX7_isProved_13 : decode cX7_isProved 13 = .ok (.if_icmp .gt 7, 3) := by decide +kernel
theorem dX7_isProved_16 : decode cX7_isProved 16 = .ok (.iconst 1, 1) := by decide +kernel
theorem dX7_isProved_17 : decode cX7_isProved 17 = .ok (.goto 4, 3) := by decide +kernel
theorem dX7_isProved_20 : decode cX7_isProved 20 = .ok (.iconst 0, 1) := by decide +kernel
theorem dX7_isProved_21 : decode cX7_isProved 21 = .ok (.ireturn, 1) := by decide +kernel
theorem dX7_judge_0 : decode cX7_judge 0 = .ok (.aload_n 0, 1) := by decide +kernel
theorem dX7_judge_1 : decode cX7_judge 1 = .ok (.iconst 0, 1) := by decide +kernel
theorem dX7_judge_2 : decode cX7_judge 2 = .ok (.putfield 190, 3) := by decide +kernel
theorem dX7_judge_5 : decode cX7_judge 5 = .ok (.aload_n 0, 1) := by decide +kernel
theorem dX7_judge_6 : decode cX7_judge 6 = .ok (.iconst 3, 1) := by decide +kernel
theorem dX7_judge_7 : decode cX7_judge 7 = .ok (.putfield 91, 3) := by decide +kernel
theorem dX7_judge_10 : decode cX7_judge 10 = .ok (.aload_n 0, 1) := by decide +kernel
theorem dX7_judge_11 : decode cX7_judge 11 = .ok (.getfield 78, 3) := by decide +kernel
theorem dX7_judge_14 : decode cX7_judge 14 = .ok (.ifCond .le 11, 3) := by decide +kernel
theorem dX7_judge_17 : decode cX7_judge 17 = .ok (.aload_n 0, 1) := by decide +kernel
theorem dX7_judge_18 : decode cX7_judge 18 = .ok (.invokevirtual 206, 3) := by decide +kernel
theorem dX7_judge_21 : decode cX7_judge 21 = .ok (.ifCond .ne 4, 3) := by decide +kernel
theorem dX7_judge_24 : decode cX7_judge 24 = .ok (.return_, 1) := by decide +kernel
theorem dX7_judge_25 : decode cX7_judge 25 = .ok (.aload_n 0, 1) := by decide +kernel
theorem dX7_judge_26 : decode cX7_judge 26 = .ok (.getfield 21, 3) := by decide +kernel
theorem dX7_judge_29 : decode cX7_judge 29 = .ok (.aload_n 0, 1) := by decide +kernel
theorem dX7_judge_30 : decode cX7_judge 30 = .ok (.getfield 51, 3) := by decide +kernel
theorem dX7_judge_33 : decode cX7_judge 33 = .ok (.invokevirtual 209, 3) := by decide +kernel
theorem dX7_judge_36 : decode cX7_judge 36 = .ok (.istore_n 1, 1) := by decide +kernel
theorem dX7_judge_37 : decode cX7_judge 37 = .ok (.iload_n 1, 1) := by decide +kernel
theorem dX7_judge_38 : decode cX7_judge 38 = .ok (.ifCond .ne 32, 3) := by decide +kernel
theorem dX7_judge_41 : decode cX7_judge 41 = .ok (.aload_n 0, 1) := by decide +kernel
theorem dX7_judge_42 : decode cX7_judge 42 = .ok (.dup, 1) := by decide +kernel
theorem dX7_judge_43 : decode cX7_judge 43 = .ok (.getfield 78, 3) := by decide +kernel
theorem dX7_judge_46 : decode cX7_judge 46 = .ok (.iconst 1, 1) := by decide +kernel
theorem dX7_judge_47 : decode cX7_judge 47 = .ok (.iadd, 1) := by decide +kernel
theorem dX7_judge_48 : decode cX7_judge 48 = .ok (.putfield 78, 3) := by decide +kernel
theorem dX7_judge_51 : decode cX7_judge 51 = .ok (.aload_n 0, 1) := by decide +kernel
theorem dX7_judge_52 : decode cX7_judge 52 = .ok (.getfield 28, 3) := by decide +kernel
theorem dX7_judge_55 : decode cX7_judge 55 = .ok (.aload_n 0, 1) := by decide +kernel
theorem dX7_judge_56 : decode cX7_judge 56 = .ok (.getfield 21, 3) := by decide +kernel
theorem dX7_judge_59 : decode cX7_judge 59 = .ok (.aload_n 0, 1) := by decide +kernel
theorem dX7_judge_60 : decode cX7_judge 60 = .ok (.getfield 51, 3) := by decide +kernel
theorem dX7_judge_63 : decode cX7_judge 63 = .ok (.getfield 110, 3) := by decide +kernel
theorem dX7_judge_66 : decode cX7_judge 66 = .ok (.invokevirtual 213, 3) := by decide +kernel
theorem dX7_judge_69 : decode cX7_judge 69 = .ok (.return_, 1) := by decide +kernel
theorem dX7_judge_70 : decode cX7_judge 70 = .ok (.aload_n 0, 1) := by decide +kernel
theorem dX7_judge_71 : decode cX7_judge 71 = .ok (.iload_n 1, 1) := by decide +kernel
theorem dX7_judge_72 : decode cX7_judge 72 = .ok (.putfield 190, 3) := by decide +kernel
theorem dX7_judge_75 : decode cX7_judge 75 = .ok (.aload_n 0, 1) := by decide +kernel
theorem dX7_judge_76 : decode cX7_judge 76 = .ok (.aload_n 0, 1) := by decide +kernel
theorem dX7_judge_77 : decode cX7_judge 77 = .ok (.getfield 51, 3) := by decide +kernel
theorem dX7_judge_80 : decode cX7_judge 80 = .ok (.invokevirtual 217, 3) := by decide +kernel
theorem dX7_judge_83 : decode cX7_judge 83 = .ok (.ifCond .eq 18, 3) := by decide +kernel
theorem dX7_judge_86 : decode cX7_judge 86 = .ok (.aload_n 0, 1) := by decide +kernel
theorem dX7_judge_87 : decode cX7_judge 87 = .ok (.getfield 81, 3) := by decide +kernel
theorem dX7_judge_90 : decode cX7_judge 90 = .ok (.aload_n 0, 1) := by decide +kernel
theorem dX7_judge_91 : decode cX7_judge 91 = .ok (.getfield 55, 3) := by decide +kernel
theorem dX7_judge_94 : decode cX7_judge 94 = .ok (.if_icmp .ge 7, 3) := by decide +kernel
theorem dX7_judge_97 : decode cX7_judge 97 = .ok (.iconst 4, 1) := by decide +kernel
theorem dX7_judge_98 : decode cX7_judge 98 = .ok (.goto 4, 3) := by decide +kernel
theorem dX7_judge_101 : decode cX7_judge 101 = .ok (.iconst 5, 1) := by decide +kernel
theorem dX7_judge_102 : decode cX7_judge 102 = .ok (.putfield 91, 3) := by decide +kernel
theorem dX7_judge_105 : decode cX7_judge 105 = .ok (.return_, 1) := by decide +kernel
theorem dX7_leaf_0 : decode cX7_leaf 0 = .ok (.aload_n 0, 1) := by decide +kernel
theorem dX7_leaf_1 : decode cX7_leaf 1 = .ok (.getfield 28, 3) := by decide +kernel
theorem dX7_leaf_4 : decode cX7_leaf 4 = .ok (.aload_n 0, 1) := by decide +kernel
theorem dX7_leaf_5 : decode cX7_leaf 5 = .ok (.getfield 21, 3) := by decide +kernel
theorem dX7_leaf_8 : decode cX7_leaf 8 = .ok (.aload_n 0, 1) := by decide +kernel
theorem dX7_leaf_9 : decode cX7_leaf 9 = .ok (.getfield 51, 3) := by decide +kernel
theorem dX7_leaf_12 : decode cX7_leaf 12 = .ok (.getfield 110, 3) := by decide +kernel
theorem dX7_leaf_15 : decode cX7_leaf 15 = .ok (.aload_n 0, 1) := by decide +kernel
theorem dX7_leaf_16 : decode cX7_leaf 16 = .ok (.getfield 190, 3) := by decide +kernel
theorem dX7_leaf_19 : decode cX7_leaf 19 = .ok (.invokevirtual 241, 3) := by decide +kernel
theorem dX7_leaf_22 : decode cX7_leaf 22 = .ok (.aload_n 0, 1) := by decide +kernel
theorem dX7_leaf_23 : decode cX7_leaf 23 = .ok (.getfield 28, 3) := by decide +kernel
theorem dX7_leaf_26 : decode cX7_leaf 26 = .ok (.invokevirtual 245, 3) := by decide +kernel
theorem dX7_leaf_29 : decode cX7_leaf 29 = .ok (.ifCond .eq 12, 3) := by decide +kernel
theorem dX7_leaf_32 : decode cX7_leaf 32 = .ok (.aload_n 0, 1) := by decide +kernel
theorem dX7_leaf_33 : decode cX7_leaf 33 = .ok (.bipush 6, 2) := by decide +kernel
theorem dX7_leaf_35 : decode cX7_leaf 35 = .ok (.putfield 69, 3) := by decide +kernel
theorem dX7_leaf_38 : decode cX7_leaf 38 = .ok (.goto 38, 3) := by decide +kernel
theorem dX7_leaf_41 : decode cX7_leaf 41 = .ok (.aload_n 0, 1) := by decide +kernel
theorem dX7_leaf_42 : decode cX7_leaf 42 = .ok (.getfield 21, 3) := by decide +kernel
theorem dX7_leaf_45 : decode cX7_leaf 45 = .ok (.invokevirtual 248, 3) := by decide +kernel
theorem dX7_leaf_48 : decode cX7_leaf 48 = .ok (.ifCond .eq 12, 3) := by decide +kernel
theorem dX7_leaf_51 : decode cX7_leaf 51 = .ok (.aload_n 0, 1) := by decide +kernel
theorem dX7_leaf_52 : decode cX7_leaf 52 = .ok (.bipush 6, 2) := by decide +kernel
theorem dX7_leaf_54 : decode cX7_leaf 54 = .ok (.putfield 91, 3) := by decide +kernel
theorem dX7_leaf_57 : decode cX7_leaf 57 = .ok (.goto 19, 3) := by decide +kernel
theorem dX7_leaf_60 : decode cX7_leaf 60 = .ok (.aload_n 0, 1) := by decide +kernel
theorem dX7_leaf_61 : decode cX7_leaf 61 = .ok (.aload_n 0, 1) := by decide +kernel
theorem dX7_leaf_62 : decode cX7_leaf 62 = .ok (.getfield 78, 3) := by decide +kernel
theorem dX7_leaf_65 : decode cX7_leaf 65 = .ok (.ifCond .le 7, 3) := by decide +kernel
theorem dX7_leaf_68 : decode cX7_leaf 68 = .ok (.iconst 2, 1) := by decide +kernel
theorem dX7_leaf_69 : decode cX7_leaf 69 = .ok (.goto 4, 3) := by decide +kernel
theorem dX7_leaf_72 : decode cX7_leaf 72 = .ok (.iconst 3, 1) := by decide +kernel
theorem dX7_leaf_73 : decode cX7_leaf 73 = .ok (.putfield 69, 3) := by decide +kernel
theorem dX7_leaf_76 : decode cX7_leaf 76 = .ok (.return_, 1) := by decide +kernel
theorem dX7_prove_0 : decode cX7_prove 0 = .ok (.aload_n 0, 1) := by decide +kernel
theorem dX7_prove_1 : decode cX7_prove 1 = .ok (.invokevirtual 104, 3) := by decide +kernel
theorem dX7_prove_4 : decode cX7_prove 4 = .ok (.ifCond .eq 13, 3) := by decide +kernel
theorem dX7_prove_7 : decode cX7_prove 7 = .ok (.aload_n 0, 1) := by decide +kernel
theorem dX7_prove_8 : decode cX7_prove 8 = .ok (.getfield 28, 3) := by decide +kernel
theorem dX7_prove_11 : decode cX7_prove 11 = .ok (.invokevirtual 158, 3) := by decide +kernel
theorem dX7_prove_14 : decode cX7_prove 14 = .ok (.ifCond .eq 4, 3) := by decide +kernel
theorem dX7_prove_17 : decode cX7_prove 17 = .ok (.return_, 1) := by decide +kernel
theorem dX7_prove_18 : decode cX7_prove 18 = .ok (.aload_n 0, 1) := by decide +kernel
theorem dX7_prove_19 : decode cX7_prove 19 = .ok (.getfield 69, 3) := by decide +kernel
theorem dX7_prove_22 : decode cX7_prove 22 = .ok (.iconst 2, 1) := by decide +kernel
theorem dX7_prove_23 : decode cX7_prove 23 = .ok (.if_icmp .ne 17, 3) := by decide +kernel
theorem dX7_prove_26 : decode cX7_prove 26 = .ok (.aload_n 0, 1) := by decide +kernel
theorem dX7_prove_27 : decode cX7_prove 27 = .ok (.getfield 28, 3) := by decide +kernel
theorem dX7_prove_30 : decode cX7_prove 30 = .ok (.aload_n 0, 1) := by decide +kernel
theorem dX7_prove_31 : decode cX7_prove 31 = .ok (.getfield 51, 3) := by decide +kernel
theorem dX7_prove_34 : decode cX7_prove 34 = .ok (.invokevirtual 161, 3) := by decide +kernel
theorem dX7_prove_37 : decode cX7_prove 37 = .ok (.goto 44, 3) := by decide +kernel
theorem dX7_prove_40 : decode cX7_prove 40 = .ok (.aload_n 0, 1) := by decide +kernel
theorem dX7_prove_41 : decode cX7_prove 41 = .ok (.getfield 69, 3) := by decide +kernel
theorem dX7_prove_44 : decode cX7_prove 44 = .ok (.iconst 3, 1) := by decide +kernel
theorem dX7_prove_45 : decode cX7_prove 45 = .ok (.if_icmp .ne 13, 3) := by decide +kernel
theorem dX7_prove_48 : decode cX7_prove 48 = .ok (.aload_n 0, 1) := by decide +kernel
theorem dX7_prove_49 : decode cX7_prove 49 = .ok (.getfield 28, 3) := by decide +kernel
theorem dX7_prove_52 : decode cX7_prove 52 = .ok (.invokevirtual 164, 3) := by decide +kernel
theorem dX7_prove_55 : decode cX7_prove 55 = .ok (.goto 26, 3) := by decide +kernel
theorem dX7_prove_58 : decode cX7_prove 58 = .ok (.aload_n 0, 1) := by decide +kernel
theorem dX7_prove_59 : decode cX7_prove 59 = .ok (.getfield 69, 3) := by decide +kernel
theorem dX7_prove_62 : decode cX7_prove 62 = .ok (.iconst 4, 1) := by decide +kernel
theorem dX7_prove_63 : decode cX7_prove 63 = .ok (.if_icmp .ne 18, 3) := by decide +kernel
theorem dX7_prove_66 : decode cX7_prove 66 = .ok (.aload_n 0, 1) := by decide +kernel
theorem dX7_prove_67 : decode cX7_prove 67 = .ok (.getfield 28, 3) := by decide +kernel
theorem dX7_prove_70 : decode cX7_prove 70 = .ok (.aload_n 0, 1) := by decide +kernel
theorem dX7_prove_71 : decode cX7_prove 71 = .ok (.getfield 51, 3) := by decide +kernel
theorem dX7_prove_74 : decode cX7_prove 74 = .ok (.aload_n 0, 1) := by decide +kernel
theorem dX7_prove_75 : decode cX7_prove 75 = .ok (.getfield 21, 3) := by decide +kernel
theorem dX7_prove_78 : decode cX7_prove 78 = .ok (.invokevirtual 167, 3) := by decide +kernel
theorem dX7_prove_81 : decode cX7_prove 81 = .ok (.aload_n 0, 1) := by decide +kernel
theorem dX7_prove_82 : decode cX7_prove 82 = .ok (.getfield 28, 3) := by decide +kernel
theorem dX7_prove_85 : decode cX7_prove 85 = .ok (.invokevirtual 171, 3) := by decide +kernel
theorem dX7_prove_88 : decode cX7_prove 88 = .ok (.ifCond .eq 9, 3) := by decide +kernel
theorem dX7_prove_91 : decode cX7_prove 91 = .ok (.aload_n 0, 1) := by decide +kernel
theorem dX7_prove_92 : decode cX7_prove 92 = .ok (.bipush 6, 2) := by decide +kernel
theorem dX7_prove_94 : decode cX7_prove 94 = .ok (.putfield 69, 3) := by decide +kernel
theorem dX7_prove_97 : decode cX7_prove 97 = .ok (.return_, 1) := by decide +kernel
theorem dX7_rowNumber_0 : decode cX7_rowNumber 0 = .ok (.aload_n 0, 1) := by decide +kernel
theorem dX7_rowNumber_1 : decode cX7_rowNumber 1 = .ok (.getfield 12, 3) := by decide +kernel
theorem dX7_rowNumber_4 : decode cX7_rowNumber 4 = .ok (.iload_n 1, 1) := by decide +kernel
theorem dX7_rowNumber_5 : decode cX7_rowNumber 5 = .ok (.iload_n 2, 1) := by decide +kernel
theorem dX7_rowNumber_6 : decode cX7_rowNumber 6 = .ok (.invokevirtual 94, 3) := by decide +kernel
theorem dX7_rowNumber_9 : decode cX7_rowNumber 9 = .ok (.lreturn, 1) := by decide +kernel
theorem dX7_run_0 : decode cX7_run 0 = .ok (.iconst 0, 1) := by decide +kernel
theorem dX7_run_1 : decode cX7_run 1 = .ok (.istore_n 2, 1) := by decide +kernel
theorem dX7_run_2 : decode cX7_run 2 = .ok (.iconst 0, 1) := by decide +kernel
theorem dX7_run_3 : decode cX7_run 3 = .ok (.istore_n 3, 1) := by decide +kernel
theorem dX7_run_4 : decode cX7_run 4 = .ok (.iload_n 3, 1) := by decide +kernel
theorem dX7_run_5 : decode cX7_run 5 = .ok (.ldc 136, 2) := by decide +kernel
theorem dX7_run_7 : decode cX7_run 7 = .ok (.if_icmp .ge 144, 3) := by decide +kernel
theorem dX7_run_10 : decode cX7_run 10 = .ok (.aload_n 0, 1) := by decide +kernel
theorem dX7_run_11 : decode cX7_run 11 = .ok (.getfield 69, 3) := by decide +kernel
theorem dX7_run_14 : decode cX7_run 14 = .ok (.iconst 1, 1) := by decide +kernel
theorem dX7_run_15 : decode cX7_run 15 = .ok (.if_icmp .ne 136, 3) := by decide +kernel
theorem dX7_run_18 : decode cX7_run 18 = .ok (.aload_n 0, 1) := by decide +kernel
theorem dX7_run_19 : decode cX7_run 19 = .ok (.getfield 91, 3) := by decide +kernel
theorem dX7_run_22 : decode cX7_run 22 = .ok (.tableswitch 119 1 6 #[38, 84, 91, 98, 105, 112], 38) := by decide +kernel
theorem dX7_run_60 : decode cX7_run 60 = .ok (.iload_n 2, 1) := by decide +kernel
theorem dX7_run_61 : decode cX7_run 61 = .ok (.iload_n 1, 1) := by decide +kernel
theorem dX7_run_62 : decode cX7_run 62 = .ok (.if_icmp .lt 5, 3) := by decide +kernel
theorem dX7_run_65 : decode cX7_run 65 = .ok (.iload_n 2, 1) := by decide +kernel
theorem dX7_run_66 : decode cX7_run 66 = .ok (.ireturn, 1) := by decide +kernel
theorem dX7_run_67 : decode cX7_run 67 = .ok (.aload_n 0, 1) := by decide +kernel
theorem dX7_run_68 : decode cX7_run 68 = .ok (.getfield 21, 3) := by decide +kernel
theorem dX7_run_71 : decode cX7_run 71 = .ok (.invokevirtual 137, 3) := by decide +kernel
theorem dX7_run_74 : decode cX7_run 74 = .ok (.ifCond .eq 24, 3) := by decide +kernel
theorem dX7_run_77 : decode cX7_run 77 = .ok (.iinc 2 1, 3) := by decide +kernel
theorem dX7_run_80 : decode cX7_run 80 = .ok (.aload_n 0, 1) := by decide +kernel
theorem dX7_run_81 : decode cX7_run 81 = .ok (.dup, 1) := by decide +kernel
theorem dX7_run_82 : decode cX7_run 82 = .ok (.getfield 72, 3) := by decide +kernel
theorem dX7_run_85 : decode cX7_run 85 = .ok (.iconst 1, 1) := by decide +kernel
theorem dX7_run_86 : decode cX7_run 86 = .ok (.iadd, 1) := by decide +kernel
theorem dX7_run_87 : decode cX7_run 87 = .ok (.putfield 72, 3) := by decide +kernel
theorem dX7_run_90 : decode cX7_run 90 = .ok (.aload_n 0, 1) := by decide +kernel
theorem dX7_run_91 : decode cX7_run 91 = .ok (.iconst 0, 1) := by decide +kernel
theorem dX7_run_92 : decode cX7_run 92 = .ok (.putfield 91, 3) := by decide +kernel
theorem dX7_run_95 : decode cX7_run 95 = .ok (.goto 50, 3) := by decide +kernel
theorem dX7_run_98 : decode cX7_run 98 = .ok (.aload_n 0, 1) := by decide +kernel
theorem dX7_run_99 : decode cX7_run 99 = .ok (.iconst 5, 1) := by decide +kernel
theorem dX7_run_100 : decode cX7_run 100 = .ok (.putfield 69, 3) := by decide +kernel
theorem dX7_run_103 : decode cX7_run 103 = .ok (.goto 42, 3) := by decide +kernel
theorem dX7_run_106 : decode cX7_run 106 = .ok (.aload_n 0, 1) := by decide +kernel
theorem dX7_run_107 : decode cX7_run 107 = .ok (.invokevirtual 140, 3) := by decide +kernel
theorem dX7_run_110 : decode cX7_run 110 = .ok (.goto 35, 3) := by decide +kernel
theorem dX7_run_113 : decode cX7_run 113 = .ok (.aload_n 0, 1) := by decide +kernel
theorem dX7_run_114 : decode cX7_run 114 = .ok (.invokevirtual 143, 3) := by decide +kernel
theorem dX7_run_117 : decode cX7_run 117 = .ok (.goto 28, 3) := by decide +kernel
theorem dX7_run_120 : decode cX7_run 120 = .ok (.aload_n 0, 1) := by decide +kernel
theorem dX7_run_121 : decode cX7_run 121 = .ok (.invokevirtual 146, 3) := by decide +kernel
theorem dX7_run_124 : decode cX7_run 124 = .ok (.goto 21, 3) := by decide +kernel
theorem dX7_run_127 : decode cX7_run 127 = .ok (.aload_n 0, 1) := by decide +kernel
theorem dX7_run_128 : decode cX7_run 128 = .ok (.invokevirtual 149, 3) := by decide +kernel
theorem dX7_run_131 : decode cX7_run 131 = .ok (.goto 14, 3) := by decide +kernel
theorem dX7_run_134 : decode cX7_run 134 = .ok (.aload_n 0, 1) := by decide +kernel
theorem dX7_run_135 : decode cX7_run 135 = .ok (.invokevirtual 152, 3) := by decide +kernel
theorem dX7_run_138 : decode cX7_run 138 = .ok (.goto 7, 3) := by decide +kernel
theorem dX7_run_141 : decode cX7_run 141 = .ok (.aload_n 0, 1) := by decide +kernel
theorem dX7_run_142 : decode cX7_run 142 = .ok (.invokevirtual 155, 3) := by decide +kernel
theorem dX7_run_145 : decode cX7_run 145 = .ok (.iinc 3 1, 3) := by decide +kernel
theorem dX7_run_148 : decode cX7_run 148 = .ok (.goto (-144), 3) := by decide +kernel
theorem dX7_run_151 : decode cX7_run 151 = .ok (.iload_n 2, 1) := by decide +kernel
theorem dX7_run_152 : decode cX7_run 152 = .ok (.ireturn, 1) := by decide +kernel
theorem dX7_start_0 : decode cX7_start 0 = .ok (.aload_n 0, 1) := by decide +kernel
theorem dX7_start_1 : decode cX7_start 1 = .ok (.aload_n 1, 1) := by decide +kernel
theorem dX7_start_2 : decode cX7_start 2 = .ok (.putfield 51, 3) := by decide +kernel
theorem dX7_start_5 : decode cX7_start 5 = .ok (.aload_n 0, 1) := by decide +kernel
theorem dX7_start_6 : decode cX7_start 6 = .ok (.iload_n 2, 1) := by decide +kernel
theorem dX7_start_7 : decode cX7_start 7 = .ok (.putfield 55, 3) := by decide +kernel
theorem dX7_start_10 : decode cX7_start 10 = .ok (.aload_n 0, 1) := by decide +kernel
theorem dX7_start_11 : decode cX7_start 11 = .ok (.getfield 12, 3) := by decide +kernel
theorem dX7_start_14 : decode cX7_start 14 = .ok (.aload_n 1, 1) := by decide +kernel
theorem dX7_start_15 : decode cX7_start 15 = .ok (.invokevirtual 59, 3) := by decide +kernel
theorem dX7_start_18 : decode cX7_start 18 = .ok (.aload_n 0, 1) := by decide +kernel
theorem dX7_start_19 : decode cX7_start 19 = .ok (.getfield 21, 3) := by decide +kernel
theorem dX7_start_22 : decode cX7_start 22 = .ok (.aload_n 1, 1) := by decide +kernel
theorem dX7_start_23 : decode cX7_start 23 = .ok (.invokevirtual 63, 3) := by decide +kernel
theorem dX7_start_26 : decode cX7_start 26 = .ok (.aload_n 0, 1) := by decide +kernel
theorem dX7_start_27 : decode cX7_start 27 = .ok (.getfield 28, 3) := by decide +kernel
theorem dX7_start_30 : decode cX7_start 30 = .ok (.invokevirtual 66, 3) := by decide +kernel
theorem dX7_start_33 : decode cX7_start 33 = .ok (.aload_n 0, 1) := by decide +kernel
theorem dX7_start_34 : decode cX7_start 34 = .ok (.iconst 1, 1) := by decide +kernel
theorem dX7_start_35 : decode cX7_start 35 = .ok (.putfield 69, 3) := by decide +kernel
theorem dX7_start_38 : decode cX7_start 38 = .ok (.aload_n 0, 1) := by decide +kernel
theorem dX7_start_39 : decode cX7_start 39 = .ok (.iconst 0, 1) := by decide +kernel
theorem dX7_start_40 : decode cX7_start 40 = .ok (.putfield 72, 3) := by decide +kernel
theorem dX7_start_43 : decode cX7_start 43 = .ok (.aload_n 0, 1) := by decide +kernel
theorem dX7_start_44 : decode cX7_start 44 = .ok (.iconst 1, 1) := by decide +kernel
theorem dX7_start_45 : decode cX7_start 45 = .ok (.putfield 75, 3) := by decide +kernel
theorem dX7_start_48 : decode cX7_start 48 = .ok (.aload_n 0, 1) := by decide +kernel
theorem dX7_start_49 : decode cX7_start 49 = .ok (.iconst 0, 1) := by decide +kernel
theorem dX7_start_50 : decode cX7_start 50 = .ok (.putfield 78, 3) := by decide +kernel
theorem dX7_start_53 : decode cX7_start 53 = .ok (.aload_n 0, 1) := by decide +kernel
theorem dX7_start_54 : decode cX7_start 54 = .ok (.iconst 0, 1) := by decide +kernel
theorem dX7_start_55 : decode cX7_start 55 = .ok (.putfield 81, 3) := by decide +kernel
theorem dX7_start_58 : decode cX7_start 58 = .ok (.aload_n 0, 1) := by decide +kernel
theorem dX7_start_59 : decode cX7_start 59 = .ok (.aload_n 0, 1) := by decide +kernel
theorem dX7_start_60 : decode cX7_start 60 = .ok (.getfield 21, 3) := by decide +kernel
theorem dX7_start_63 : decode cX7_start 63 = .ok (.invokevirtual 84, 3) := by decide +kernel
theorem dX7_start_66 : decode cX7_start 66 = .ok (.ifCond .eq 7, 3) := by decide +kernel
theorem dX7_start_69 : decode cX7_start 69 = .ok (.iconst 1, 1) := by decide +kernel
theorem dX7_start_70 : decode cX7_start 70 = .ok (.goto 4, 3) := by decide +kernel
theorem dX7_start_73 : decode cX7_start 73 = .ok (.iconst 2, 1) := by decide +kernel
theorem dX7_start_74 : decode cX7_start 74 = .ok (.putfield 88, 3) := by decide +kernel
theorem dX7_start_77 : decode cX7_start 77 = .ok (.aload_n 0, 1) := by decide +kernel
theorem dX7_start_78 : decode cX7_start 78 = .ok (.iconst 0, 1) := by decide +kernel
theorem dX7_start_79 : decode cX7_start 79 = .ok (.putfield 91, 3) := by decide +kernel
theorem dX7_start_82 : decode cX7_start 82 = .ok (.return_, 1) := by decide +kernel
theorem dX7_state_0 : decode cX7_state 0 = .ok (.iload_n 1, 1) := by decide +kernel
theorem dX7_state_1 : decode cX7_state 1 = .ok (.tableswitch 124 0 8 #[51, 56, 61, 66, 71, 76, 84, 100, 105], 51) := by decide +kernel
theorem dX7_state_52 : decode cX7_state 52 = .ok (.aload_n 0, 1) := by decide +kernel
theorem dX7_state_53 : decode cX7_state 53 = .ok (.getfield 69, 3) := by decide +kernel
theorem dX7_state_56 : decode cX7_state 56 = .ok (.ireturn, 1) := by decide +kernel
theorem dX7_state_57 : decode cX7_state 57 = .ok (.aload_n 0, 1) := by decide +kernel
theorem dX7_state_58 : decode cX7_state 58 = .ok (.getfield 72, 3) := by decide +kernel
theorem dX7_state_61 : decode cX7_state 61 = .ok (.ireturn, 1) := by decide +kernel
theorem dX7_state_62 : decode cX7_state 62 = .ok (.aload_n 0, 1) := by decide +kernel
theorem dX7_state_63 : decode cX7_state 63 = .ok (.getfield 75, 3) := by decide +kernel
theorem dX7_state_66 : decode cX7_state 66 = .ok (.ireturn, 1) := by decide +kernel
theorem dX7_state_67 : decode cX7_state 67 = .ok (.aload_n 0, 1) := by decide +kernel
theorem dX7_state_68 : decode cX7_state 68 = .ok (.getfield 78, 3) := by decide +kernel
theorem dX7_state_71 : decode cX7_state 71 = .ok (.ireturn, 1) := by decide +kernel
theorem dX7_state_72 : decode cX7_state 72 = .ok (.aload_n 0, 1) := by decide +kernel
theorem dX7_state_73 : decode cX7_state 73 = .ok (.getfield 81, 3) := by decide +kernel
theorem dX7_state_76 : decode cX7_state 76 = .ok (.ireturn, 1) := by decide +kernel
theorem dX7_state_77 : decode cX7_state 77 = .ok (.aload_n 0, 1) := by decide +kernel
theorem dX7_state_78 : decode cX7_state 78 = .ok (.getfield 12, 3) := by decide +kernel
theorem dX7_state_81 : decode cX7_state 81 = .ok (.invokevirtual 98, 3) := by decide +kernel
theorem dX7_state_84 : decode cX7_state 84 = .ok (.ireturn, 1) := by decide +kernel
theorem dX7_state_85 : decode cX7_state 85 = .ok (.aload_n 0, 1) := by decide +kernel
theorem dX7_state_86 : decode cX7_state 86 = .ok (.getfield 12, 3) := by decide +kernel
theorem dX7_state_89 : decode cX7_state 89 = .ok (.invokevirtual 98, 3) := by decide +kernel
theorem dX7_state_92 : decode cX7_state 92 = .ok (.aload_n 0, 1) := by decide +kernel
theorem dX7_state_93 : decode cX7_state 93 = .ok (.getfield 51, 3) := by decide +kernel
theorem dX7_state_96 : decode cX7_state 96 = .ok (.getfield 102, 3) := by decide +kernel
theorem dX7_state_99 : decode cX7_state 99 = .ok (.isub, 1) := by decide +kernel
theorem dX7_state_100 : decode cX7_state 100 = .ok (.ireturn, 1) := by decide +kernel
theorem dX7_state_101 : decode cX7_state 101 = .ok (.aload_n 0, 1) := by decide +kernel
theorem dX7_state_102 : decode cX7_state 102 = .ok (.getfield 88, 3) := by decide +kernel
theorem dX7_state_105 : decode cX7_state 105 = .ok (.ireturn, 1) := by decide +kernel
theorem dX7_state_106 : decode cX7_state 106 = .ok (.aload_n 0, 1) := by decide +kernel
theorem dX7_state_107 : decode cX7_state 107 = .ok (.invokevirtual 104, 3) := by decide +kernel
theorem dX7_state_110 : decode cX7_state 110 = .ok (.ifCond .eq 13, 3) := by decide +kernel
theorem dX7_state_113 : decode cX7_state 113 = .ok (.aload_n 0, 1) := by decide +kernel
theorem dX7_state_114 : decode cX7_state 114 = .ok (.getfield 28, 3) := by decide +kernel
theorem dX7_state_117 : decode cX7_state 117 = .ok (.invokevirtual 107, 3) := by decide +kernel
theorem dX7_state_120 : decode cX7_state 120 = .ok (.goto 4, 3) := by decide +kernel
theorem dX7_state_123 : decode cX7_state 123 = .ok (.iconst 0, 1) := by decide +kernel
theorem dX7_state_124 : decode cX7_state 124 = .ok (.ireturn, 1) := by decide +kernel
theorem dX7_state_125 : decode cX7_state 125 = .ok (.iconst (-1), 1) := by decide +kernel
theorem dX7_state_126 : decode cX7_state 126 = .ok (.ireturn, 1) := by decide +kernel
theorem dX7_writeFraction_0 : decode cX7_writeFraction 0 = .ok (.iload_n 1, 1) := by decide +kernel
theorem dX7_writeFraction_1 : decode cX7_writeFraction 1 = .ok (.aload_n 0, 1) := by decide +kernel
theorem dX7_writeFraction_2 : decode cX7_writeFraction 2 = .ok (.getfield 51, 3) := by decide +kernel
theorem dX7_writeFraction_5 : decode cX7_writeFraction 5 = .ok (.getfield 110, 3) := by decide +kernel
theorem dX7_writeFraction_8 : decode cX7_writeFraction 8 = .ok (.if_icmp .gt 15, 3) := by decide +kernel
theorem dX7_writeFraction_11 : decode cX7_writeFraction 11 = .ok (.iload_n 1, 1) := by decide +kernel
theorem dX7_writeFraction_12 : decode cX7_writeFraction 12 = .ok (.aload_n 0, 1) := by decide +kernel
theorem dX7_writeFraction_13 : decode cX7_writeFraction 13 = .ok (.getfield 12, 3) := by decide +kernel
theorem dX7_writeFraction_16 : decode cX7_writeFraction 16 = .ok (.invokevirtual 98, 3) := by decide +kernel
theorem dX7_writeFraction_19 : decode cX7_writeFraction 19 = .ok (.ineg, 1) := by decide +kernel
theorem dX7_writeFraction_20 : decode cX7_writeFraction 20 = .ok (.if_icmp .ge 5, 3) := by decide +kernel
theorem dX7_writeFraction_23 : decode cX7_writeFraction 23 = .ok (.iconst 0, 1) := by decide +kernel
theorem dX7_writeFraction_24 : decode cX7_writeFraction 24 = .ok (.ireturn, 1) := by decide +kernel
theorem dX7_writeFraction_25 : decode cX7_writeFraction 25 = .ok (.iload_n 1, 1) := by decide +kernel
theorem dX7_writeFraction_26 : decode cX7_writeFraction 26 = .ok (.ifCond .ge 54, 3) := by decide +kernel
theorem dX7_writeFraction_29 : decode cX7_writeFraction 29 = .ok (.aload_n 0, 1) := by decide +kernel
theorem dX7_writeFraction_30 : decode cX7_writeFraction 30 = .ok (.getfield 21, 3) := by decide +kernel
theorem dX7_writeFraction_33 : decode cX7_writeFraction 33 = .ok (.iconst 0, 1) := by decide +kernel
theorem dX7_writeFraction_34 : decode cX7_writeFraction 34 = .ok (.aload_n 0, 1) := by decide +kernel
theorem dX7_writeFraction_35 : decode cX7_writeFraction 35 = .ok (.getfield 51, 3) := by decide +kernel
theorem dX7_writeFraction_38 : decode cX7_writeFraction 38 = .ok (.getfield 110, 3) := by decide +kernel
theorem dX7_writeFraction_41 : decode cX7_writeFraction 41 = .ok (.iload_n 1, 1) := by decide +kernel
theorem dX7_writeFraction_42 : decode cX7_writeFraction 42 = .ok (.isub, 1) := by decide +kernel
theorem dX7_writeFraction_43 : decode cX7_writeFraction 43 = .ok (.aload_n 0, 1) := by decide +kernel
theorem dX7_writeFraction_44 : decode cX7_writeFraction 44 = .ok (.getfield 35, 3) := by decide +kernel
theorem dX7_writeFraction_47 : decode cX7_writeFraction 47 = .ok (.invokevirtual 113, 3) := by decide +kernel
theorem dX7_writeFraction_50 : decode cX7_writeFraction 50 = .ok (.aload_n 0, 1) := by decide +kernel
theorem dX7_writeFraction_51 : decode cX7_writeFraction 51 = .ok (.getfield 21, 3) := by decide +kernel
theorem dX7_writeFraction_54 : decode cX7_writeFraction 54 = .ok (.aload_n 0, 1) := by decide +kernel
theorem dX7_writeFraction_55 : decode cX7_writeFraction 55 = .ok (.getfield 39, 3) := by decide +kernel
theorem dX7_writeFraction_58 : decode cX7_writeFraction 58 = .ok (.invokevirtual 117, 3) := by decide +kernel
theorem dX7_writeFraction_61 : decode cX7_writeFraction 61 = .ok (.aload_n 0, 1) := by decide +kernel
theorem dX7_writeFraction_62 : decode cX7_writeFraction 62 = .ok (.getfield 28, 3) := by decide +kernel
theorem dX7_writeFraction_65 : decode cX7_writeFraction 65 = .ok (.aload_n 0, 1) := by decide +kernel
theorem dX7_writeFraction_66 : decode cX7_writeFraction 66 = .ok (.getfield 35, 3) := by decide +kernel
theorem dX7_writeFraction_69 : decode cX7_writeFraction 69 = .ok (.aload_n 0, 1) := by decide +kernel
theorem dX7_writeFraction_70 : decode cX7_writeFraction 70 = .ok (.getfield 39, 3) := by decide +kernel
theorem dX7_writeFraction_73 : decode cX7_writeFraction 73 = .ok (.iconst 0, 1) := by decide +kernel
theorem dX7_writeFraction_74 : decode cX7_writeFraction 74 = .ok (.aload_n 2, 1) := by decide +kernel
theorem dX7_writeFraction_75 : decode cX7_writeFraction 75 = .ok (.invokevirtual 121, 3) := by decide +kernel
theorem dX7_writeFraction_78 : decode cX7_writeFraction 78 = .ok (.iconst 1, 1) := by decide +kernel
theorem dX7_writeFraction_79 : decode cX7_writeFraction 79 = .ok (.ireturn, 1) := by decide +kernel
theorem dX7_writeFraction_80 : decode cX7_writeFraction 80 = .ok (.aload_n 0, 1) := by decide +kernel
theorem dX7_writeFraction_81 : decode cX7_writeFraction 81 = .ok (.getfield 78, 3) := by decide +kernel
theorem dX7_writeFraction_84 : decode cX7_writeFraction 84 = .ok (.ifCond .ne 5, 3) := by decide +kernel
theorem dX7_writeFraction_87 : decode cX7_writeFraction 87 = .ok (.iconst 0, 1) := by decide +kernel
theorem dX7_writeFraction_88 : decode cX7_writeFraction 88 = .ok (.ireturn, 1) := by decide +kernel
theorem dX7_writeFraction_89 : decode cX7_writeFraction 89 = .ok (.aload_n 0, 1) := by decide +kernel
theorem dX7_writeFraction_90 : decode cX7_writeFraction 90 = .ok (.getfield 28, 3) := by decide +kernel
theorem dX7_writeFraction_93 : decode cX7_writeFraction 93 = .ok (.iload_n 1, 1) := by decide +kernel
theorem dX7_writeFraction_94 : decode cX7_writeFraction 94 = .ok (.aload_n 0, 1) := by decide +kernel
theorem dX7_writeFraction_95 : decode cX7_writeFraction 95 = .ok (.getfield 35, 3) := by decide +kernel
theorem dX7_writeFraction_98 : decode cX7_writeFraction 98 = .ok (.invokevirtual 125, 3) := by decide +kernel
theorem dX7_writeFraction_101 : decode cX7_writeFraction 101 = .ok (.aload_n 0, 1) := by decide +kernel
theorem dX7_writeFraction_102 : decode cX7_writeFraction 102 = .ok (.getfield 28, 3) := by decide +kernel
theorem dX7_writeFraction_105 : decode cX7_writeFraction 105 = .ok (.aload_n 0, 1) := by decide +kernel
theorem dX7_writeFraction_106 : decode cX7_writeFraction 106 = .ok (.getfield 39, 3) := by decide +kernel
theorem dX7_writeFraction_109 : decode cX7_writeFraction 109 = .ok (.invokevirtual 129, 3) := by decide +kernel
theorem dX7_writeFraction_112 : decode cX7_writeFraction 112 = .ok (.aload_n 0, 1) := by decide +kernel
theorem dX7_writeFraction_113 : decode cX7_writeFraction 113 = .ok (.getfield 28, 3) := by decide +kernel
theorem dX7_writeFraction_116 : decode cX7_writeFraction 116 = .ok (.aload_n 0, 1) := by decide +kernel
theorem dX7_writeFraction_117 : decode cX7_writeFraction 117 = .ok (.getfield 35, 3) := by decide +kernel
theorem dX7_writeFraction_120 : decode cX7_writeFraction 120 = .ok (.aload_n 0, 1) := by decide +kernel
theorem dX7_writeFraction_121 : decode cX7_writeFraction 121 = .ok (.getfield 39, 3) := by decide +kernel
theorem dX7_writeFraction_124 : decode cX7_writeFraction 124 = .ok (.iload_n 1, 1) := by decide +kernel
theorem dX7_writeFraction_125 : decode cX7_writeFraction 125 = .ok (.ifCond .ne 17, 3) := by decide +kernel
theorem dX7_writeFraction_128 : decode cX7_writeFraction 128 = .ok (.aload_n 0, 1) := by decide +kernel
theorem dX7_writeFraction_129 : decode cX7_writeFraction 129 = .ok (.getfield 51, 3) := by decide +kernel
theorem dX7_writeFraction_132 : decode cX7_writeFraction 132 = .ok (.getfield 132, 3) := by decide +kernel
theorem dX7_writeFraction_135 : decode cX7_writeFraction 135 = .ok (.ifCond .ne 7, 3) := by decide +kernel
theorem dX7_writeFraction_138 : decode cX7_writeFraction 138 = .ok (.iconst 1, 1) := by decide +kernel
theorem dX7_writeFraction_139 : decode cX7_writeFraction 139 = .ok (.goto 4, 3) := by decide +kernel
theorem dX7_writeFraction_142 : decode cX7_writeFraction 142 = .ok (.iconst 0, 1) := by decide +kernel
theorem dX7_writeFraction_143 : decode cX7_writeFraction 143 = .ok (.aload_n 2, 1) := by decide +kernel
theorem dX7_writeFraction_144 : decode cX7_writeFraction 144 = .ok (.invokevirtual 121, 3) := by decide +kernel
theorem dX7_writeFraction_147 : decode cX7_writeFraction 147 = .ok (.iconst 1, 1) := by decide +kernel
theorem dX7_writeFraction_148 : decode cX7_writeFraction 148 = .ok (.ireturn, 1) := by decide +kernel
theorem w_56 : Cond.selects RX7 yX7_judge yX7_judge ∈ tb := sel_4 (q := (yX7_judge, 17)) 8 (by decide +kernel)
theorem w_57 : Cond.selects RX7 yX7_isAboveBest yX7_isAboveBest ∈ tb := sel_4 (q := (yX7_isAboveBest, 17)) 9 (by decide +kernel)
theorem w_59 : Cond.selects RX7 yX7_leaf yX7_leaf ∈ tb := sel_4 (q := (yX7_leaf, 17)) 11 (by decide +kernel)
theorem w_62 : Cond.selects RX7 yX7_cut yX7_cut ∈ tb := sel_4 (q := (yX7_cut, 17)) 14 (by decide +kernel)
theorem w_63 : Cond.selects RX7 yX7_countChild yX7_countChild ∈ tb := sel_4 (q := (yX7_countChild, 17)) 15 (by decide +kernel)
theorem w_65 : Cond.selects RX7 yX7_branch yX7_branch ∈ tb := sel_5 (q := (yX7_branch, 17)) 1 (by decide +kernel)
theorem w_66 : Cond.selects RX7 yX7_beginSecondChild yX7_beginSecondChild ∈ tb := sel_5 (q := (yX7_beginSecondChild, 17)) 2 (by decide +kernel)
theorem w_67 : Cond.selects RX7 yX7_choose yX7_choose ∈ tb := sel_5 (q := (yX7_choose, 17)) 3 (by decide +kernel)
theorem w_71 : Cond.selects RX7 yX7_endPhaseOne yX7_endPhaseOne ∈ tb := sel_5 (q := (yX7_endPhaseOne, 17)) 7 (by decide +kernel)
theorem w_210 : Cond.initialized RX7 ∈ tb := tbc_1 7 (by decide +kernel) rfl
theorem w_267 : Cond.fieldLinkNest RX7 110 (TX3 2).1 (TX3 2).2.1 (TX3 2).2.2.1 "OptimumHouse" ∈ nst := nsc_1 64 (by decide +kernel) rfl
theorem w_274 : Cond.fieldLinkNest RX7 102 (TX3 3).1 (TX3 3).2.1 (TX3 3).2.2.1 "OptimumHouse" ∈ nst := nsc_1 71 (by decide +kernel) rfl
theorem w_281 : Cond.fieldLinkNest RX7 132 (TX3 4).1 (TX3 4).2.1 (TX3 4).2.2.1 "OptimumHouse" ∈ nst := nsc_1 78 (by decide +kernel) rfl
theorem w_562 : Cond.fieldLink RX7 12 (TX7 0).1 (TX7 0).2.1 (TX7 0).2.2.1 ∈ tb := tbc_2 119 (by decide +kernel) rfl
theorem w_563 : Cond.fieldLink RX7 21 (TX7 1).1 (TX7 1).2.1 (TX7 1).2.2.1 ∈ tb := tbc_2 120 (by decide +kernel) rfl
theorem w_565 : Cond.fieldLink RX7 28 (TX7 2).1 (TX7 2).2.1 (TX7 2).2.2.1 ∈ tb := tbc_2 122 (by decide +kernel) rfl
theorem w_567 : Cond.fieldLink RX7 35 (TX7 3).1 (TX7 3).2.1 (TX7 3).2.2.1 ∈ tb := tbc_2 124 (by decide +kernel) rfl
theorem w_568 : Cond.fieldLink RX7 39 (TX7 4).1 (TX7 4).2.1 (TX7 4).2.2.1 ∈ tb := tbc_2 125 (by decide +kernel) rfl
theorem w_569 : Cond.fieldLink RX7 42 (TX7 5).1 (TX7 5).2.1 (TX7 5).2.2.1 ∈ tb := tbc_2 126 (by decide +kernel) rfl
theorem w_570 : Cond.fieldLink RX7 45 (TX7 6).1 (TX7 6).2.1 (TX7 6).2.2.1 ∈ tb := tbc_2 127 (by decide +kernel) rfl
theorem w_571 : Cond.fieldLink RX7 51 (TX7 7).1 (TX7 7).2.1 (TX7 7).2.2.1 ∈ tb := tbc_2 128 (by decide +kernel) rfl
theorem w_572 : Cond.fieldLink RX7 55 (TX7 8).1 (TX7 8).2.1 (TX7 8).2.2.1 ∈ tb := tbc_2 129 (by decide +kernel) rfl
theorem w_573 : Cond.fieldLink RX7 69 (TX7 9).1 (TX7 9).2.1 (TX7 9).2.2.1 ∈ tb := tbc_2 130 (by decide +kernel) rfl
theorem w_574 : Cond.fieldLink RX7 72 (TX7 10).1 (TX7 10).2.1 (TX7 10).2.2.1 ∈ tb := tbc_2 131 (by decide +kernel) rfl
theorem w_575 : Cond.fieldLink RX7 75 (TX7 11).1 (TX7 11).2.1 (TX7 11).2.2.1 ∈ tb := tbc_2 132 (by decide +kernel) rfl
theorem w_576 : Cond.fieldLink RX7 78 (TX7 12).1 (TX7 12).2.1 (TX7 12).2.2.1 ∈ tb := tbc_2 133 (by decide +kernel) rfl
theorem w_577 : Cond.fieldLink RX7 81 (TX7 13).1 (TX7 13).2.1 (TX7 13).2.2.1 ∈ tb := tbc_2 134 (by decide +kernel) rfl
theorem w_578 : Cond.fieldLink RX7 88 (TX7 14).1 (TX7 14).2.1 (TX7 14).2.2.1 ∈ tb := tbc_2 135 (by decide +kernel) rfl
theorem w_579 : Cond.fieldLink RX7 91 (TX7 15).1 (TX7 15).2.1 (TX7 15).2.2.1 ∈ tb := tbc_2 136 (by decide +kernel) rfl
theorem w_580 : Cond.fieldLink RX7 190 (TX7 16).1 (TX7 16).2.1 (TX7 16).2.2.1 ∈ tb := tbc_2 137 (by decide +kernel) rfl
theorem w_581 : u_lay RX7 TX7 0 ∈ tb := tbc_2 138 (by decide +kernel) rfl
theorem w_583 : u_lay RX7 TX7 1 ∈ tb := tbc_2 140 (by decide +kernel) rfl
theorem w_585 : u_lay RX7 TX7 2 ∈ tb := tbc_2 142 (by decide +kernel) rfl
theorem w_587 : u_lay RX7 TX7 3 ∈ tb := tbc_2 144 (by decide +kernel) rfl
theorem w_589 : u_lay RX7 TX7 4 ∈ tb := tbc_2 146 (by decide +kernel) rfl
theorem w_591 : u_lay RX7 TX7 5 ∈ tb := tbc_2 148 (by decide +kernel) rfl
theorem w_593 : u_lay RX7 TX7 6 ∈ tb := tbc_2 150 (by decide +kernel) rfl
theorem w_595 : u_lay RX7 TX7 7 ∈ tb := tbc_2 152 (by decide +kernel) rfl
theorem w_597 : u_lay RX7 TX7 8 ∈ tb := tbc_2 154 (by decide +kernel) rfl
theorem w_599 : u_lay RX7 TX7 9 ∈ tb := tbc_2 156 (by decide +kernel) rfl
theorem w_601 : u_lay RX7 TX7 10 ∈ tb := tbc_2 158 (by decide +kernel) rfl
theorem w_603 : u_lay RX7 TX7 11 ∈ tb := tbc_2 160 (by decide +kernel) rfl
theorem w_605 : u_lay RX7 TX7 12 ∈ tb := tbc_2 162 (by decide +kernel) rfl
theorem w_607 : u_lay RX7 TX7 13 ∈ tb := tbc_2 164 (by decide +kernel) rfl
theorem w_609 : u_lay RX7 TX7 14 ∈ tb := tbc_2 166 (by decide +kernel) rfl
theorem w_611 : u_lay RX7 TX7 15 ∈ tb := tbc_2 168 (by decide +kernel) rfl
theorem w_613 : u_lay RX7 TX7 16 ∈ tb := tbc_2 170 (by decide +kernel) rfl
theorem w_1141 : Cond.methodLink RX7 94 yX6_lowBits ∈ tb := tbc_4 218 (by decide +kernel) rfl
theorem w_1142 : Cond.instanceMethod yX6_lowBits ∈ tb := tbc_4 219 (by decide +kernel) rfl
theorem w_1143 : Cond.selects RX6 yX6_lowBits yX6_lowBits ∈ tb := tbc_4 220 (by decide +kernel) rfl
theorem w_1144 : Cond.code yX6_lowBits cX6_lowBits 3 (some .long) ∈ tb := tbc_4 221 (by decide +kernel) rfl
theorem w_1176 : Cond.methodLink RX7 59 yX6_take ∈ tb := tbc_5 13 (by decide +kernel) rfl
theorem w_1177 : Cond.instanceMethod yX6_take ∈ tb := tbc_5 14 (by decide +kernel) rfl
theorem w_1178 : Cond.selects RX6 yX6_take yX6_take ∈ tb := tbc_5 15 (by decide +kernel) rfl
theorem w_1179 : Cond.code yX6_take cX6_take 4 none ∈ tb := tbc_5 16 (by decide +kernel) rfl
theorem w_1189 : Cond.methodLink RX7 63 yX2_start ∈ tb := tbc_5 26 (by decide +kernel) rfl
theorem w_1190 : Cond.instanceMethod yX2_start ∈ tb := tbc_5 27 (by decide +kernel) rfl
theorem w_1191 : Cond.selects RX2 yX2_start yX2_start ∈ tb := tbc_5 28 (by decide +kernel) rfl
theorem w_1192 : Cond.code yX2_start cX2_start 6 none ∈ tb := tbc_5 29 (by decide +kernel) rfl
theorem w_1212 : Cond.methodLink RX7 66 yX5_clear ∈ tb := tbc_5 49 (by decide +kernel) rfl
theorem w_1213 : Cond.instanceMethod yX5_clear ∈ tb := tbc_5 50 (by decide +kernel) rfl
theorem w_1214 : Cond.selects RX5 yX5_clear yX5_clear ∈ tb := tbc_5 51 (by decide +kernel) rfl
theorem w_1215 : Cond.code yX5_clear cX5_clear 1 none ∈ tb := tbc_5 52 (by decide +kernel) rfl
theorem w_1217 : Cond.methodLink RX7 84 yX2_hasHelper ∈ tb := tbc_5 54 (by decide +kernel) rfl
theorem w_1218 : Cond.instanceMethod yX2_hasHelper ∈ tb := tbc_5 55 (by decide +kernel) rfl
theorem w_1219 : Cond.selects RX2 yX2_hasHelper yX2_hasHelper ∈ tb := tbc_5 56 (by decide +kernel) rfl
theorem w_1220 : Cond.code yX2_hasHelper cX2_hasHelper 1 (some .boolean) ∈ tb := tbc_5 57 (by decide +kernel) rfl
theorem w_1229 : Cond.constant RX7 136 (iv 1000000) ∈ tb := tbc_5 66 (by decide +kernel) rfl
theorem w_1230 : Cond.methodLink RX7 137 yX2_pivot ∈ tb := tbc_5 67 (by decide +kernel) rfl
theorem w_1231 : Cond.instanceMethod yX2_pivot ∈ tb := tbc_5 68 (by decide +kernel) rfl
theorem w_1232 : Cond.selects RX2 yX2_pivot yX2_pivot ∈ tb := tbc_5 69 (by decide +kernel) rfl
theorem w_1233 : Cond.code yX2_pivot cX2_pivot 4 (some .boolean) ∈ tb := tbc_5 70 (by decide +kernel) rfl
theorem w_1334 : Cond.methodLink RX7 140 yX7_judge ∈ tb := tbc_5 171 (by decide +kernel) rfl
theorem w_1336 : Cond.instanceMethod yX7_judge ∈ tb := tbc_5 173 (by decide +kernel) rfl
theorem w_1337 : Cond.code yX7_judge cX7_judge 2 none ∈ tb := tbc_5 174 (by decide +kernel) rfl
theorem w_1338 : Cond.methodLink RX7 206 yX7_isAboveBest ∈ tb := tbc_5 175 (by decide +kernel) rfl
theorem w_1340 : Cond.instanceMethod yX7_isAboveBest ∈ tb := tbc_5 177 (by decide +kernel) rfl
theorem w_1341 : Cond.code yX7_isAboveBest cX7_isAboveBest 1 (some .boolean) ∈ tb := tbc_5 178 (by decide +kernel) rfl
theorem w_1342 : Cond.methodLink RX7 220 yX2_number ∈ tb := tbc_5 179 (by decide +kernel) rfl
theorem w_1346 : Cond.methodLink RX7 117 yX2_denominator ∈ tb := tbc_5 183 (by decide +kernel) rfl
theorem w_1347 : Cond.methodLink RX7 223 yX3_isGoalWhole ∈ tb := tbc_5 184 (by decide +kernel) rfl
theorem w_1348 : Cond.instanceMethod yX3_isGoalWhole ∈ tb := tbc_5 185 (by decide +kernel) rfl
theorem w_1349 : Cond.selects RX3 yX3_isGoalWhole yX3_isGoalWhole ∈ tb := tbc_5 186 (by decide +kernel) rfl
theorem w_1350 : Cond.code yX3_isGoalWhole cX3_isGoalWhole 2 (some .boolean) ∈ tb := tbc_5 187 (by decide +kernel) rfl
theorem w_1352 : Cond.methodLink RX7 226 yX2_floor ∈ tb := tbc_5 189 (by decide +kernel) rfl
theorem w_1353 : Cond.instanceMethod yX2_floor ∈ tb := tbc_5 190 (by decide +kernel) rfl
theorem w_1354 : Cond.selects RX2 yX2_floor yX2_floor ∈ tb := tbc_5 191 (by decide +kernel) rfl
theorem w_1355 : Cond.code yX2_floor cX2_floor 3 none ∈ tb := tbc_5 192 (by decide +kernel) rfl
theorem w_1356 : Cond.methodLink RX7 229 yX0_put ∈ tb := tbc_5 193 (by decide +kernel) rfl
theorem w_1357 : Cond.methodLink RX7 129 yX5_pointDenominator ∈ tb := tbc_5 194 (by decide +kernel) rfl
theorem w_1362 : Cond.methodLink RX7 233 yX0_product ∈ tb := tbc_5 199 (by decide +kernel) rfl
theorem w_1363 : Cond.methodLink RX7 125 yX5_pointNumber ∈ tb := tbc_5 200 (by decide +kernel) rfl
theorem w_1367 : Cond.methodLink RX7 237 yX0_compareWith ∈ tb := tbc_5 204 (by decide +kernel) rfl
theorem w_1371 : Cond.methodLink RX7 209 yX2_brokenRow ∈ tb := tbc_5 208 (by decide +kernel) rfl
theorem w_1372 : Cond.instanceMethod yX2_brokenRow ∈ tb := tbc_5 209 (by decide +kernel) rfl
theorem w_1373 : Cond.selects RX2 yX2_brokenRow yX2_brokenRow ∈ tb := tbc_5 210 (by decide +kernel) rfl
theorem w_1374 : Cond.code yX2_brokenRow cX2_brokenRow 4 (some .int) ∈ tb := tbc_5 211 (by decide +kernel) rfl
theorem w_1383 : Cond.methodLink RX7 213 yX5_takePoint ∈ tb := tbc_5 220 (by decide +kernel) rfl
theorem w_1395 : Cond.methodLink RX7 217 yX3_isAllWhole ∈ tb := tbc_5 232 (by decide +kernel) rfl
theorem w_1396 : Cond.instanceMethod yX3_isAllWhole ∈ tb := tbc_5 233 (by decide +kernel) rfl
theorem w_1397 : Cond.selects RX3 yX3_isAllWhole yX3_isAllWhole ∈ tb := tbc_5 234 (by decide +kernel) rfl
theorem w_1398 : Cond.code yX3_isAllWhole cX3_isAllWhole 1 (some .boolean) ∈ tb := tbc_5 235 (by decide +kernel) rfl
theorem w_1400 : Cond.methodLink RX7 143 yX7_leaf ∈ tb := tbc_5 237 (by decide +kernel) rfl
theorem w_1402 : Cond.instanceMethod yX7_leaf ∈ tb := tbc_5 239 (by decide +kernel) rfl
theorem w_1403 : Cond.code yX7_leaf cX7_leaf 1 none ∈ tb := tbc_6 0 (by decide +kernel) rfl
theorem w_1404 : Cond.methodLink RX7 241 yX5_writeLeaf ∈ tb := tbc_6 1 (by decide +kernel) rfl
theorem w_1405 : Cond.instanceMethod yX5_writeLeaf ∈ tb := tbc_6 2 (by decide +kernel) rfl
theorem w_1406 : Cond.selects RX5 yX5_writeLeaf yX5_writeLeaf ∈ tb := tbc_6 3 (by decide +kernel) rfl
theorem w_1407 : Cond.code yX5_writeLeaf cX5_writeLeaf 5 none ∈ tb := tbc_6 4 (by decide +kernel) rfl
theorem w_1463 : Cond.methodLink RX7 245 yX5_isTreeOver ∈ tb := tbc_6 60 (by decide +kernel) rfl
theorem w_1464 : Cond.instanceMethod yX5_isTreeOver ∈ tb := tbc_6 61 (by decide +kernel) rfl
theorem w_1465 : Cond.selects RX5 yX5_isTreeOver yX5_isTreeOver ∈ tb := tbc_6 62 (by decide +kernel) rfl
theorem w_1466 : Cond.code yX5_isTreeOver cX5_isTreeOver 1 (some .boolean) ∈ tb := tbc_6 63 (by decide +kernel) rfl
theorem w_1471 : Cond.methodLink RX7 248 yX2_hasKept ∈ tb := tbc_6 68 (by decide +kernel) rfl
theorem w_1472 : Cond.instanceMethod yX2_hasKept ∈ tb := tbc_6 69 (by decide +kernel) rfl
theorem w_1473 : Cond.selects RX2 yX2_hasKept yX2_hasKept ∈ tb := tbc_6 70 (by decide +kernel) rfl
theorem w_1474 : Cond.code yX2_hasKept cX2_hasKept 1 (some .boolean) ∈ tb := tbc_6 71 (by decide +kernel) rfl
theorem w_1475 : Cond.methodLink RX7 146 yX7_cut ∈ tb := tbc_6 72 (by decide +kernel) rfl
theorem w_1477 : Cond.instanceMethod yX7_cut ∈ tb := tbc_6 74 (by decide +kernel) rfl
theorem w_1478 : Cond.code yX7_cut cX7_cut 1 none ∈ tb := tbc_6 75 (by decide +kernel) rfl
theorem w_1479 : Cond.methodLink RX7 251 yX5_writeCut ∈ tb := tbc_6 76 (by decide +kernel) rfl
theorem w_1480 : Cond.instanceMethod yX5_writeCut ∈ tb := tbc_6 77 (by decide +kernel) rfl
theorem w_1481 : Cond.selects RX5 yX5_writeCut yX5_writeCut ∈ tb := tbc_6 78 (by decide +kernel) rfl
theorem w_1482 : Cond.code yX5_writeCut cX5_writeCut 6 none ∈ tb := tbc_6 79 (by decide +kernel) rfl
theorem w_1494 : Cond.methodLink RX7 255 yX6_isFull ∈ tb := tbc_6 91 (by decide +kernel) rfl
theorem w_1498 : Cond.methodLink RX7 258 yX7_countChild ∈ tb := tbc_6 95 (by decide +kernel) rfl
theorem w_1500 : Cond.instanceMethod yX7_countChild ∈ tb := tbc_6 97 (by decide +kernel) rfl
theorem w_1501 : Cond.code yX7_countChild cX7_countChild 2 (some .boolean) ∈ tb := tbc_6 98 (by decide +kernel) rfl
theorem w_1502 : Cond.methodLink RX7 262 yX6_addCut ∈ tb := tbc_6 99 (by decide +kernel) rfl
theorem w_1503 : Cond.instanceMethod yX6_addCut ∈ tb := tbc_6 100 (by decide +kernel) rfl
theorem w_1504 : Cond.selects RX6 yX6_addCut yX6_addCut ∈ tb := tbc_6 101 (by decide +kernel) rfl
theorem w_1505 : Cond.code yX6_addCut cX6_addCut 3 (some .boolean) ∈ tb := tbc_6 102 (by decide +kernel) rfl
theorem w_1519 : Cond.methodLink RX7 266 yX2_addCut ∈ tb := tbc_6 116 (by decide +kernel) rfl
theorem w_1520 : Cond.instanceMethod yX2_addCut ∈ tb := tbc_6 117 (by decide +kernel) rfl
theorem w_1521 : Cond.selects RX2 yX2_addCut yX2_addCut ∈ tb := tbc_6 118 (by decide +kernel) rfl
theorem w_1522 : Cond.code yX2_addCut cX2_addCut 3 none ∈ tb := tbc_6 119 (by decide +kernel) rfl
theorem w_1529 : Cond.methodLink RX7 149 yX7_branch ∈ tb := tbc_6 126 (by decide +kernel) rfl
theorem w_1531 : Cond.instanceMethod yX7_branch ∈ tb := tbc_6 128 (by decide +kernel) rfl
theorem w_1532 : Cond.code yX7_branch cX7_branch 2 none ∈ tb := tbc_6 129 (by decide +kernel) rfl
theorem w_1533 : Cond.methodLink RX7 269 yX2_numberAt ∈ tb := tbc_6 130 (by decide +kernel) rfl
theorem w_1534 : Cond.instanceMethod yX2_numberAt ∈ tb := tbc_6 131 (by decide +kernel) rfl
theorem w_1535 : Cond.selects RX2 yX2_numberAt yX2_numberAt ∈ tb := tbc_6 132 (by decide +kernel) rfl
theorem w_1536 : Cond.code yX2_numberAt cX2_numberAt 2 (some .int) ∈ tb := tbc_6 133 (by decide +kernel) rfl
theorem w_1537 : Cond.methodLink RX7 272 yX5_writeBranch ∈ tb := tbc_6 134 (by decide +kernel) rfl
theorem w_1538 : Cond.instanceMethod yX5_writeBranch ∈ tb := tbc_6 135 (by decide +kernel) rfl
theorem w_1539 : Cond.selects RX5 yX5_writeBranch yX5_writeBranch ∈ tb := tbc_6 136 (by decide +kernel) rfl
theorem w_1540 : Cond.code yX5_writeBranch cX5_writeBranch 3 none ∈ tb := tbc_6 137 (by decide +kernel) rfl
theorem w_1542 : Cond.methodLink RX7 275 yX2_keep ∈ tb := tbc_6 139 (by decide +kernel) rfl
theorem w_1543 : Cond.instanceMethod yX2_keep ∈ tb := tbc_6 140 (by decide +kernel) rfl
theorem w_1544 : Cond.selects RX2 yX2_keep yX2_keep ∈ tb := tbc_6 141 (by decide +kernel) rfl
theorem w_1545 : Cond.code yX2_keep cX2_keep 4 none ∈ tb := tbc_6 142 (by decide +kernel) rfl
theorem w_1547 : Cond.methodLink RX7 278 yX6_addLimit ∈ tb := tbc_6 144 (by decide +kernel) rfl
theorem w_1548 : Cond.instanceMethod yX6_addLimit ∈ tb := tbc_6 145 (by decide +kernel) rfl
theorem w_1549 : Cond.selects RX6 yX6_addLimit yX6_addLimit ∈ tb := tbc_6 146 (by decide +kernel) rfl
theorem w_1550 : Cond.code yX6_addLimit cX6_addLimit 5 none ∈ tb := tbc_6 147 (by decide +kernel) rfl
theorem w_1554 : Cond.methodLink RX7 282 yX2_addLimit ∈ tb := tbc_6 151 (by decide +kernel) rfl
theorem w_1555 : Cond.instanceMethod yX2_addLimit ∈ tb := tbc_6 152 (by decide +kernel) rfl
theorem w_1556 : Cond.selects RX2 yX2_addLimit yX2_addLimit ∈ tb := tbc_6 153 (by decide +kernel) rfl
theorem w_1557 : Cond.code yX2_addLimit cX2_addLimit 4 none ∈ tb := tbc_6 154 (by decide +kernel) rfl
theorem w_1558 : Cond.methodLink RX7 152 yX7_beginSecondChild ∈ tb := tbc_6 155 (by decide +kernel) rfl
theorem w_1560 : Cond.instanceMethod yX7_beginSecondChild ∈ tb := tbc_6 157 (by decide +kernel) rfl
theorem w_1561 : Cond.code yX7_beginSecondChild cX7_beginSecondChild 1 none ∈ tb := tbc_6 158 (by decide +kernel) rfl
theorem w_1562 : Cond.methodLink RX7 285 yX2_restore ∈ tb := tbc_6 159 (by decide +kernel) rfl
theorem w_1563 : Cond.instanceMethod yX2_restore ∈ tb := tbc_6 160 (by decide +kernel) rfl
theorem w_1564 : Cond.selects RX2 yX2_restore yX2_restore ∈ tb := tbc_6 161 (by decide +kernel) rfl
theorem w_1565 : Cond.code yX2_restore cX2_restore 6 (some .int) ∈ tb := tbc_6 162 (by decide +kernel) rfl
theorem w_1566 : Cond.methodLink RX7 288 yX2_rowCount ∈ tb := tbc_6 163 (by decide +kernel) rfl
theorem w_1567 : Cond.methodLink RX7 291 yX6_keep ∈ tb := tbc_6 164 (by decide +kernel) rfl
theorem w_1568 : Cond.instanceMethod yX6_keep ∈ tb := tbc_6 165 (by decide +kernel) rfl
theorem w_1569 : Cond.selects RX6 yX6_keep yX6_keep ∈ tb := tbc_6 166 (by decide +kernel) rfl
theorem w_1570 : Cond.code yX6_keep cX6_keep 2 none ∈ tb := tbc_6 167 (by decide +kernel) rfl
theorem w_1573 : Cond.methodLink RX7 155 yX7_choose ∈ tb := tbc_6 170 (by decide +kernel) rfl
theorem w_1575 : Cond.instanceMethod yX7_choose ∈ tb := tbc_6 172 (by decide +kernel) rfl
theorem w_1576 : Cond.code yX7_choose cX7_choose 2 none ∈ tb := tbc_6 173 (by decide +kernel) rfl
theorem w_1577 : Cond.methodLink RX7 174 yX2_chooseFirst ∈ tb := tbc_6 174 (by decide +kernel) rfl
theorem w_1578 : Cond.instanceMethod yX2_chooseFirst ∈ tb := tbc_6 175 (by decide +kernel) rfl
theorem w_1579 : Cond.selects RX2 yX2_chooseFirst yX2_chooseFirst ∈ tb := tbc_6 176 (by decide +kernel) rfl
theorem w_1580 : Cond.code yX2_chooseFirst cX2_chooseFirst 2 (some .int) ∈ tb := tbc_6 177 (by decide +kernel) rfl
theorem w_1581 : Cond.methodLink RX7 177 yX2_chooseUp ∈ tb := tbc_6 178 (by decide +kernel) rfl
theorem w_1582 : Cond.instanceMethod yX2_chooseUp ∈ tb := tbc_6 179 (by decide +kernel) rfl
theorem w_1583 : Cond.selects RX2 yX2_chooseUp yX2_chooseUp ∈ tb := tbc_6 180 (by decide +kernel) rfl
theorem w_1584 : Cond.code yX2_chooseUp cX2_chooseUp 3 (some .int) ∈ tb := tbc_6 181 (by decide +kernel) rfl
theorem w_1597 : Cond.methodLink RX7 181 yX2_chooseDown ∈ tb := tbc_6 194 (by decide +kernel) rfl
theorem w_1598 : Cond.instanceMethod yX2_chooseDown ∈ tb := tbc_6 195 (by decide +kernel) rfl
theorem w_1599 : Cond.selects RX2 yX2_chooseDown yX2_chooseDown ∈ tb := tbc_6 196 (by decide +kernel) rfl
theorem w_1600 : Cond.code yX2_chooseDown cX2_chooseDown 2 (some .int) ∈ tb := tbc_6 197 (by decide +kernel) rfl
theorem w_1605 : Cond.methodLink RX7 184 yX7_endPhaseOne ∈ tb := tbc_6 202 (by decide +kernel) rfl
theorem w_1607 : Cond.instanceMethod yX7_endPhaseOne ∈ tb := tbc_6 204 (by decide +kernel) rfl
theorem w_1608 : Cond.code yX7_endPhaseOne cX7_endPhaseOne 1 none ∈ tb := tbc_6 205 (by decide +kernel) rfl
theorem w_1609 : Cond.methodLink RX7 193 yX2_sign ∈ tb := tbc_6 206 (by decide +kernel) rfl
theorem w_1610 : Cond.methodLink RX7 197 yX2_helperIsBasic ∈ tb := tbc_6 207 (by decide +kernel) rfl
theorem w_1611 : Cond.instanceMethod yX2_helperIsBasic ∈ tb := tbc_6 208 (by decide +kernel) rfl
theorem w_1612 : Cond.selects RX2 yX2_helperIsBasic yX2_helperIsBasic ∈ tb := tbc_6 209 (by decide +kernel) rfl
theorem w_1613 : Cond.code yX2_helperIsBasic cX2_helperIsBasic 1 (some .boolean) ∈ tb := tbc_6 210 (by decide +kernel) rfl
theorem w_1614 : Cond.methodLink RX7 200 yX2_chooseHelperOut ∈ tb := tbc_6 211 (by decide +kernel) rfl
theorem w_1615 : Cond.instanceMethod yX2_chooseHelperOut ∈ tb := tbc_6 212 (by decide +kernel) rfl
theorem w_1616 : Cond.selects RX2 yX2_chooseHelperOut yX2_chooseHelperOut ∈ tb := tbc_6 213 (by decide +kernel) rfl
theorem w_1617 : Cond.code yX2_chooseHelperOut cX2_chooseHelperOut 2 (some .int) ∈ tb := tbc_6 214 (by decide +kernel) rfl
theorem w_1618 : Cond.methodLink RX7 203 yX2_dropHelper ∈ tb := tbc_6 215 (by decide +kernel) rfl
theorem w_1619 : Cond.instanceMethod yX2_dropHelper ∈ tb := tbc_6 216 (by decide +kernel) rfl
theorem w_1620 : Cond.selects RX2 yX2_dropHelper yX2_dropHelper ∈ tb := tbc_6 217 (by decide +kernel) rfl
theorem w_1621 : Cond.code yX2_dropHelper cX2_dropHelper 3 none ∈ tb := tbc_6 218 (by decide +kernel) rfl
theorem w_1622 : Cond.methodLink RX7 187 yX2_stuckRow ∈ tb := tbc_6 219 (by decide +kernel) rfl
theorem w_1623 : Cond.instanceMethod yX2_stuckRow ∈ tb := tbc_6 220 (by decide +kernel) rfl
theorem w_1624 : Cond.selects RX2 yX2_stuckRow yX2_stuckRow ∈ tb := tbc_6 221 (by decide +kernel) rfl
theorem w_1625 : Cond.code yX2_stuckRow cX2_stuckRow 1 (some .int) ∈ tb := tbc_6 222 (by decide +kernel) rfl
theorem w_1630 : Cond.methodLink RX7 104 yX7_isProved ∈ tb := tbc_6 227 (by decide +kernel) rfl
theorem w_1631 : Cond.instanceMethod yX7_isProved ∈ tb := tbc_6 228 (by decide +kernel) rfl
theorem w_1632 : Cond.selects RX7 yX7_isProved yX7_isProved ∈ tb := tbc_6 229 (by decide +kernel) rfl
theorem w_1633 : Cond.code yX7_isProved cX7_isProved 1 (some .boolean) ∈ tb := tbc_6 230 (by decide +kernel) rfl
theorem w_1634 : Cond.methodLink RX7 158 yX5_isMade ∈ tb := tbc_6 231 (by decide +kernel) rfl
theorem w_1635 : Cond.instanceMethod yX5_isMade ∈ tb := tbc_6 232 (by decide +kernel) rfl
theorem w_1636 : Cond.selects RX5 yX5_isMade yX5_isMade ∈ tb := tbc_6 233 (by decide +kernel) rfl
theorem w_1637 : Cond.code yX5_isMade cX5_isMade 1 (some .boolean) ∈ tb := tbc_6 234 (by decide +kernel) rfl
theorem w_1639 : Cond.methodLink RX7 161 yX5_proveOptimal ∈ tb := tbc_6 236 (by decide +kernel) rfl
theorem w_1640 : Cond.instanceMethod yX5_proveOptimal ∈ tb := tbc_6 237 (by decide +kernel) rfl
theorem w_1641 : Cond.selects RX5 yX5_proveOptimal yX5_proveOptimal ∈ tb := tbc_6 238 (by decide +kernel) rfl
theorem w_1642 : Cond.code yX5_proveOptimal cX5_proveOptimal 2 none ∈ tb := tbc_6 239 (by decide +kernel) rfl
theorem w_1664 : Cond.methodLink RX7 164 yX5_proveInfeasible ∈ tb := tbc_7 21 (by decide +kernel) rfl
theorem w_1665 : Cond.instanceMethod yX5_proveInfeasible ∈ tb := tbc_7 22 (by decide +kernel) rfl
theorem w_1666 : Cond.selects RX5 yX5_proveInfeasible yX5_proveInfeasible ∈ tb := tbc_7 23 (by decide +kernel) rfl
theorem w_1667 : Cond.code yX5_proveInfeasible cX5_proveInfeasible 1 none ∈ tb := tbc_7 24 (by decide +kernel) rfl
theorem w_1669 : Cond.methodLink RX7 167 yX5_proveUnbounded ∈ tb := tbc_7 26 (by decide +kernel) rfl
theorem w_1670 : Cond.instanceMethod yX5_proveUnbounded ∈ tb := tbc_7 27 (by decide +kernel) rfl
theorem w_1671 : Cond.selects RX5 yX5_proveUnbounded yX5_proveUnbounded ∈ tb := tbc_7 28 (by decide +kernel) rfl
theorem w_1672 : Cond.code yX5_proveUnbounded cX5_proveUnbounded 4 none ∈ tb := tbc_7 29 (by decide +kernel) rfl
theorem w_1681 : Cond.methodLink RX7 171 yX5_isOver ∈ tb := tbc_7 38 (by decide +kernel) rfl
theorem w_1682 : Cond.instanceMethod yX5_isOver ∈ tb := tbc_7 39 (by decide +kernel) rfl
theorem w_1683 : Cond.selects RX5 yX5_isOver yX5_isOver ∈ tb := tbc_7 40 (by decide +kernel) rfl
theorem w_1684 : Cond.code yX5_isOver cX5_isOver 1 (some .boolean) ∈ tb := tbc_7 41 (by decide +kernel) rfl
theorem w_1697 : Cond.methodLink RX7 98 yX6_count ∈ tb := tbc_7 54 (by decide +kernel) rfl
theorem w_1698 : Cond.instanceMethod yX6_count ∈ tb := tbc_7 55 (by decide +kernel) rfl
theorem w_1699 : Cond.selects RX6 yX6_count yX6_count ∈ tb := tbc_7 56 (by decide +kernel) rfl
theorem w_1700 : Cond.code yX6_count cX6_count 1 (some .int) ∈ tb := tbc_7 57 (by decide +kernel) rfl
theorem w_1701 : Cond.methodLink RX7 107 yX5_proofLength ∈ tb := tbc_7 58 (by decide +kernel) rfl
theorem w_1726 : Cond.methodLink RX7 113 yX2_multiplier ∈ tb := tbc_7 83 (by decide +kernel) rfl
theorem w_1727 : Cond.methodLink RX7 121 yX5_writeFraction ∈ tb := tbc_7 84 (by decide +kernel) rfl
theorem w_1728 : Cond.instanceMethod yX5_writeFraction ∈ tb := tbc_7 85 (by decide +kernel) rfl
theorem w_1729 : Cond.selects RX5 yX5_writeFraction yX5_writeFraction ∈ tb := tbc_7 86 (by decide +kernel) rfl
theorem w_1730 : Cond.code yX5_writeFraction cX5_writeFraction 5 none ∈ tb := tbc_7 87 (by decide +kernel) rfl
theorem inX7 : ∀ w ∈ u_ws RX7 TX7 17, w ∈ tb := by
  show ∀ w ∈ [u_lay RX7 TX7 0, u_lay RX7 TX7 1, u_lay RX7 TX7 2, u_lay RX7 TX7 3, u_lay RX7 TX7 4, u_lay RX7 TX7 5, u_lay RX7 TX7 6, u_lay RX7 TX7 7, u_lay RX7 TX7 8, u_lay RX7 TX7 9, u_lay RX7 TX7 10, u_lay RX7 TX7 11, u_lay RX7 TX7 12, u_lay RX7 TX7 13, u_lay RX7 TX7 14, u_lay RX7 TX7 15, u_lay RX7 TX7 16], w ∈ tb
  exact List.forall_mem_cons.mpr ⟨w_581, List.forall_mem_cons.mpr ⟨w_583, List.forall_mem_cons.mpr ⟨w_585, List.forall_mem_cons.mpr ⟨w_587, List.forall_mem_cons.mpr ⟨w_589, List.forall_mem_cons.mpr ⟨w_591, List.forall_mem_cons.mpr ⟨w_593, List.forall_mem_cons.mpr ⟨w_595, List.forall_mem_cons.mpr ⟨w_597, List.forall_mem_cons.mpr ⟨w_599, List.forall_mem_cons.mpr ⟨w_601, List.forall_mem_cons.mpr ⟨w_603, List.forall_mem_cons.mpr ⟨w_605, List.forall_mem_cons.mpr ⟨w_607, List.forall_mem_cons.mpr ⟨w_609, List.forall_mem_cons.mpr ⟨w_611, List.forall_mem_cons.mpr ⟨w_613, fun _ h => absurd h List.not_mem_nil⟩⟩⟩⟩⟩⟩⟩⟩⟩⟩⟩⟩⟩⟩⟩⟩⟩
section RW43
variable {p : Program} {l : Launch} {e : Env} {R : Room} {s : State} {m : MethodId} {args : Array Value} {below : List Frame} {meth : Method} {c : Code} {H : Heap} {locs : List Loc} {cells slots : Nat} {Q : State → Prop}
variable {cc : ByteArray} {pc nL : Nat} {ls : Array Slot} {rest st0 : List Value} {G : sG} {n : Nat} {S : sS}
theorem p_X7_51 (Cx : sC G p m c cc nL s args RX7) (hW : sW G n S H) (hL : sL G locs) {k : Nat} (hk : k < n) (ht : tau k = .inl 7) {v : Nat} (hdg : decode cc pc = .ok (.putfield 51, 3)) (kk : ∀ (H1 : Heap) (locs1 : List Loc), sW G n (uR S k 7 (.ref v)) H1 → sL G locs1 → W p l e R s m args below meth c H1 locs1 cells slots Q (F0 m (pc + 3) ls rest)) : W p l e R s m args below meth c H locs cells slots Q (F0 m pc ls (.ref v :: .ref (G.2.2.1 + k) :: rest)) :=
  sPut Cx inX7 tyX7 tyX7_ok nmX7 rfl 7 (by decide) w_571 rfl hW hL hk ht rfl rfl (fun _ h => uR_same h) (fun _ h => uR_off h) uR_on hdg kk
theorem p_X7_55 (Cx : sC G p m c cc nL s args RX7) (hW : sW G n S H) (hL : sL G locs) {k : Nat} (hk : k < n) (ht : tau k = .inl 7) {v : Int} (hdg : decode cc pc = .ok (.putfield 55, 3)) (kk : ∀ (H1 : Heap) (locs1 : List Loc), sW G n (uF S k 8 v) H1 → sL G locs1 → W p l e R s m args below meth c H1 locs1 cells slots Q (F0 m (pc + 3) ls rest)) : W p l e R s m args below meth c H locs cells slots Q (F0 m pc ls (.int (iv v) :: .ref (G.2.2.1 + k) :: rest)) :=
  sPut Cx inX7 tyX7 tyX7_ok nmX7 rfl 8 (by decide) w_572 rfl hW hL hk ht rfl rfl (fun _ h => uF_same h) (fun _ h => uF_off h) (congrArg (fun z => Value.int (iv z)) uF_on) hdg kk
theorem g_X7_12 (Cx : sC G p m c cc nL s args RX7) (hW : sW G n S H) {k : Nat} (hk : k < n) (ht : tau k = .inl 7) {v : Value} (hv : S.2.2.2 k 0 = v) (hdg : decode cc pc = .ok (.getfield 12, 3)) (kk : W p l e R s m args below meth c H locs cells slots Q (F0 m (pc + 3) ls (v :: rest))) : W p l e R s m args below meth c H locs cells slots Q (F0 m pc ls (.ref (G.2.2.1 + k) :: rest)) :=
  sGet Cx inX7 rfl 0 (by decide) w_562 hW hk ht hv hdg kk
theorem c_X7_59 (Cx : sC G p m c cc nL s args RX7) {rm : Room} {mc ms : Nat} (h1 : rm.cells = mc) (h2 : rm.slots = ms) (h3 : rm.frames + 1 ≤ R.frames ∧ 8 + (4 + 11) + rm.locals ≤ R.locals) : CallW R s args RX7 RX6 59 yX6_take cX6_take 4 none (.code yX6_take cX6_take 4 none :: tb) rm mc ms 1 :=
  sCw Cx 1 w_1176 w_1177 w_1178 w_211 w_1179 (by decide +kernel) h1 h2 h3
theorem g_X7_21 (Cx : sC G p m c cc nL s args RX7) (hW : sW G n S H) {k : Nat} (hk : k < n) (ht : tau k = .inl 7) {v : Value} (hv : S.2.2.2 k 1 = v) (hdg : decode cc pc = .ok (.getfield 21, 3)) (kk : W p l e R s m args below meth c H locs cells slots Q (F0 m (pc + 3) ls (v :: rest))) : W p l e R s m args below meth c H locs cells slots Q (F0 m pc ls (.ref (G.2.2.1 + k) :: rest)) :=
  sGet Cx inX7 rfl 1 (by decide) w_563 hW hk ht hv hdg kk
theorem c_X7_63 (Cx : sC G p m c cc nL s args RX7) {rm : Room} {mc ms : Nat} (h1 : rm.cells = mc) (h2 : rm.slots = ms) (h3 : rm.frames + 1 ≤ R.frames ∧ 8 + (6 + 11) + rm.locals ≤ R.locals) : CallW R s args RX7 RX2 63 yX2_start cX2_start 6 none (.code yX2_start cX2_start 6 none :: tb) rm mc ms 1 :=
  sCw Cx 1 w_1189 w_1190 w_1191 w_213 w_1192 (by decide +kernel) h1 h2 h3
theorem g_X7_28 (Cx : sC G p m c cc nL s args RX7) (hW : sW G n S H) {k : Nat} (hk : k < n) (ht : tau k = .inl 7) {v : Value} (hv : S.2.2.2 k 2 = v) (hdg : decode cc pc = .ok (.getfield 28, 3)) (kk : W p l e R s m args below meth c H locs cells slots Q (F0 m (pc + 3) ls (v :: rest))) : W p l e R s m args below meth c H locs cells slots Q (F0 m pc ls (.ref (G.2.2.1 + k) :: rest)) :=
  sGet Cx inX7 rfl 2 (by decide) w_565 hW hk ht hv hdg kk
theorem c_X7_66 (Cx : sC G p m c cc nL s args RX7) {rm : Room} {mc ms : Nat} (h1 : rm.cells = mc) (h2 : rm.slots = ms) (h3 : rm.frames + 1 ≤ R.frames ∧ 8 + (1 + 11) + rm.locals ≤ R.locals) : CallW R s args RX7 RX5 66 yX5_clear cX5_clear 1 none (.code yX5_clear cX5_clear 1 none :: tb) rm mc ms 0 :=
  sCw Cx 0 w_1212 w_1213 w_1214 w_214 w_1215 (by decide +kernel) h1 h2 h3
theorem p_X7_69 (Cx : sC G p m c cc nL s args RX7) (hW : sW G n S H) (hL : sL G locs) {k : Nat} (hk : k < n) (ht : tau k = .inl 7) {v : Int} (hdg : decode cc pc = .ok (.putfield 69, 3)) (kk : ∀ (H1 : Heap) (locs1 : List Loc), sW G n (uF S k 9 v) H1 → sL G locs1 → W p l e R s m args below meth c H1 locs1 cells slots Q (F0 m (pc + 3) ls rest)) : W p l e R s m args below meth c H locs cells slots Q (F0 m pc ls (.int (iv v) :: .ref (G.2.2.1 + k) :: rest)) :=
  sPut Cx inX7 tyX7 tyX7_ok nmX7 rfl 9 (by decide) w_573 rfl hW hL hk ht rfl rfl (fun _ h => uF_same h) (fun _ h => uF_off h) (congrArg (fun z => Value.int (iv z)) uF_on) hdg kk
theorem p_X7_72 (Cx : sC G p m c cc nL s args RX7) (hW : sW G n S H) (hL : sL G locs) {k : Nat} (hk : k < n) (ht : tau k = .inl 7) {v : Int} (hdg : decode cc pc = .ok (.putfield 72, 3)) (kk : ∀ (H1 : Heap) (locs1 : List Loc), sW G n (uF S k 10 v) H1 → sL G locs1 → W p l e R s m args below meth c H1 locs1 cells slots Q (F0 m (pc + 3) ls rest)) : W p l e R s m args below meth c H locs cells slots Q (F0 m pc ls (.int (iv v) :: .ref (G.2.2.1 + k) :: rest)) :=
  sPut Cx inX7 tyX7 tyX7_ok nmX7 rfl 10 (by decide) w_574 rfl hW hL hk ht rfl rfl (fun _ h => uF_same h) (fun _ h => uF_off h) (congrArg (fun z => Value.int (iv z)) uF_on) hdg kk
theorem p_X7_75 (Cx : sC G p m c cc nL s args RX7) (hW : sW G n S H) (hL : sL G locs) {k : Nat} (hk : k < n) (ht : tau k = .inl 7) {v : Int} (hdg : decode cc pc = .ok (.putfield 75, 3)) (kk : ∀ (H1 : Heap) (locs1 : List Loc), sW G n (uF S k 11 v) H1 → sL G locs1 → W p l e R s m args below meth c H1 locs1 cells slots Q (F0 m (pc + 3) ls rest)) : W p l e R s m args below meth c H locs cells slots Q (F0 m pc ls (.int (iv v) :: .ref (G.2.2.1 + k) :: rest)) :=
  sPut Cx inX7 tyX7 tyX7_ok nmX7 rfl 11 (by decide) w_575 rfl hW hL hk ht rfl rfl (fun _ h => uF_same h) (fun _ h => uF_off h) (congrArg (fun z => Value.int (iv z)) uF_on) hdg kk
theorem p_X7_78 (Cx : sC G p m c cc nL s args RX7) (hW : sW G n S H) (hL : sL G locs) {k : Nat} (hk : k < n) (ht : tau k = .inl 7) {v : Int} (hdg : decode cc pc = .ok (.putfield 78, 3)) (kk : ∀ (H1 : Heap) (locs1 : List Loc), sW G n (uF S k 12 v) H1 → sL G locs1 → W p l e R s m args below meth c H1 locs1 cells slots Q (F0 m (pc + 3) ls rest)) : W p l e R s m args below meth c H locs cells slots Q (F0 m pc ls (.int (iv v) :: .ref (G.2.2.1 + k) :: rest)) :=
  sPut Cx inX7 tyX7 tyX7_ok nmX7 rfl 12 (by decide) w_576 rfl hW hL hk ht rfl rfl (fun _ h => uF_same h) (fun _ h => uF_off h) (congrArg (fun z => Value.int (iv z)) uF_on) hdg kk
theorem p_X7_81 (Cx : sC G p m c cc nL s args RX7) (hW : sW G n S H) (hL : sL G locs) {k : Nat} (hk : k < n) (ht : tau k = .inl 7) {v : Int} (hdg : decode cc pc = .ok (.putfield 81, 3)) (kk : ∀ (H1 : Heap) (locs1 : List Loc), sW G n (uF S k 13 v) H1 → sL G locs1 → W p l e R s m args below meth c H1 locs1 cells slots Q (F0 m (pc + 3) ls rest)) : W p l e R s m args below meth c H locs cells slots Q (F0 m pc ls (.int (iv v) :: .ref (G.2.2.1 + k) :: rest)) :=
  sPut Cx inX7 tyX7 tyX7_ok nmX7 rfl 13 (by decide) w_577 rfl hW hL hk ht rfl rfl (fun _ h => uF_same h) (fun _ h => uF_off h) (congrArg (fun z => Value.int (iv z)) uF_on) hdg kk
theorem c_X7_84 (Cx : sC G p m c cc nL s args RX7) {rm : Room} {mc ms : Nat} (h1 : rm.cells = mc) (h2 : rm.slots = ms) (h3 : rm.frames + 1 ≤ R.frames ∧ 8 + (1 + 11) + rm.locals ≤ R.locals) : CallW R s args RX7 RX2 84 yX2_hasHelper cX2_hasHelper 1 (some .boolean) (.code yX2_hasHelper cX2_hasHelper 1 (some .boolean) :: tb) rm mc ms 0 :=
  sCw Cx 0 w_1217 w_1218 w_1219 w_213 w_1220 (by decide +kernel) h1 h2 h3
theorem p_X7_88 (Cx : sC G p m c cc nL s args RX7) (hW : sW G n S H) (hL : sL G locs) {k : Nat} (hk : k < n) (ht : tau k = .inl 7) {v : Int} (hdg : decode cc pc = .ok (.putfield 88, 3)) (kk : ∀ (H1 : Heap) (locs1 : List Loc), sW G n (uF S k 14 v) H1 → sL G locs1 → W p l e R s m args below meth c H1 locs1 cells slots Q (F0 m (pc + 3) ls rest)) : W p l e R s m args below meth c H locs cells slots Q (F0 m pc ls (.int (iv v) :: .ref (G.2.2.1 + k) :: rest)) :=
  sPut Cx inX7 tyX7 tyX7_ok nmX7 rfl 14 (by decide) w_578 rfl hW hL hk ht rfl rfl (fun _ h => uF_same h) (fun _ h => uF_off h) (congrArg (fun z => Value.int (iv z)) uF_on) hdg kk
theorem p_X7_91 (Cx : sC G p m c cc nL s args RX7) (hW : sW G n S H) (hL : sL G locs) {k : Nat} (hk : k < n) (ht : tau k = .inl 7) {v : Int} (hdg : decode cc pc = .ok (.putfield 91, 3)) (kk : ∀ (H1 : Heap) (locs1 : List Loc), sW G n (uF S k 15 v) H1 → sL G locs1 → W p l e R s m args below meth c H1 locs1 cells slots Q (F0 m (pc + 3) ls rest)) : W p l e R s m args below meth c H locs cells slots Q (F0 m pc ls (.int (iv v) :: .ref (G.2.2.1 + k) :: rest)) :=
  sPut Cx inX7 tyX7 tyX7_ok nmX7 rfl 15 (by decide) w_579 rfl hW hL hk ht rfl rfl (fun _ h => uF_same h) (fun _ h => uF_off h) (congrArg (fun z => Value.int (iv z)) uF_on) hdg kk
theorem c_X7_94 (Cx : sC G p m c cc nL s args RX7) {rm : Room} {mc ms : Nat} (h1 : rm.cells = mc) (h2 : rm.slots = ms) (h3 : rm.frames + 1 ≤ R.frames ∧ 8 + (3 + 11) + rm.locals ≤ R.locals) : CallW R s args RX7 RX6 94 yX6_lowBits cX6_lowBits 3 (some .long) (.code yX6_lowBits cX6_lowBits 3 (some .long) :: tb) rm mc ms 2 :=
  sCw Cx 2 w_1141 w_1142 w_1143 w_211 w_1144 (by decide +kernel) h1 h2 h3
theorem g_X7_69 (Cx : sC G p m c cc nL s args RX7) (hW : sW G n S H) {k : Nat} (hk : k < n) (ht : tau k = .inl 7) {v : Int} (hv : S.1 k 9 = v) (hdg : decode cc pc = .ok (.getfield 69, 3)) (kk : W p l e R s m args below meth c H locs cells slots Q (F0 m (pc + 3) ls (.int (iv v) :: rest))) : W p l e R s m args below meth c H locs cells slots Q (F0 m pc ls (.ref (G.2.2.1 + k) :: rest)) :=
  sGet Cx inX7 rfl 9 (by decide) w_573 hW hk ht (congrArg (fun z => Value.int (iv z)) hv) hdg kk
theorem g_X7_72 (Cx : sC G p m c cc nL s args RX7) (hW : sW G n S H) {k : Nat} (hk : k < n) (ht : tau k = .inl 7) {v : Int} (hv : S.1 k 10 = v) (hdg : decode cc pc = .ok (.getfield 72, 3)) (kk : W p l e R s m args below meth c H locs cells slots Q (F0 m (pc + 3) ls (.int (iv v) :: rest))) : W p l e R s m args below meth c H locs cells slots Q (F0 m pc ls (.ref (G.2.2.1 + k) :: rest)) :=
  sGet Cx inX7 rfl 10 (by decide) w_574 hW hk ht (congrArg (fun z => Value.int (iv z)) hv) hdg kk
theorem g_X7_75 (Cx : sC G p m c cc nL s args RX7) (hW : sW G n S H) {k : Nat} (hk : k < n) (ht : tau k = .inl 7) {v : Int} (hv : S.1 k 11 = v) (hdg : decode cc pc = .ok (.getfield 75, 3)) (kk : W p l e R s m args below meth c H locs cells slots Q (F0 m (pc + 3) ls (.int (iv v) :: rest))) : W p l e R s m args below meth c H locs cells slots Q (F0 m pc ls (.ref (G.2.2.1 + k) :: rest)) :=
  sGet Cx inX7 rfl 11 (by decide) w_575 hW hk ht (congrArg (fun z => Value.int (iv z)) hv) hdg kk
theorem g_X7_78 (Cx : sC G p m c cc nL s args RX7) (hW : sW G n S H) {k : Nat} (hk : k < n) (ht : tau k = .inl 7) {v : Int} (hv : S.1 k 12 = v) (hdg : decode cc pc = .ok (.getfield 78, 3)) (kk : W p l e R s m args below meth c H locs cells slots Q (F0 m (pc + 3) ls (.int (iv v) :: rest))) : W p l e R s m args below meth c H locs cells slots Q (F0 m pc ls (.ref (G.2.2.1 + k) :: rest)) :=
  sGet Cx inX7 rfl 12 (by decide) w_576 hW hk ht (congrArg (fun z => Value.int (iv z)) hv) hdg kk
theorem g_X7_81 (Cx : sC G p m c cc nL s args RX7) (hW : sW G n S H) {k : Nat} (hk : k < n) (ht : tau k = .inl 7) {v : Int} (hv : S.1 k 13 = v) (hdg : decode cc pc = .ok (.getfield 81, 3)) (kk : W p l e R s m args below meth c H locs cells slots Q (F0 m (pc + 3) ls (.int (iv v) :: rest))) : W p l e R s m args below meth c H locs cells slots Q (F0 m pc ls (.ref (G.2.2.1 + k) :: rest)) :=
  sGet Cx inX7 rfl 13 (by decide) w_577 hW hk ht (congrArg (fun z => Value.int (iv z)) hv) hdg kk
theorem c_X7_98 (Cx : sC G p m c cc nL s args RX7) {rm : Room} {mc ms : Nat} (h1 : rm.cells = mc) (h2 : rm.slots = ms) (h3 : rm.frames + 1 ≤ R.frames ∧ 8 + (1 + 11) + rm.locals ≤ R.locals) : CallW R s args RX7 RX6 98 yX6_count cX6_count 1 (some .int) (.code yX6_count cX6_count 1 (some .int) :: tb) rm mc ms 0 :=
  sCw Cx 0 w_1697 w_1698 w_1699 w_211 w_1700 (by decide +kernel) h1 h2 h3
theorem g_X7_51 (Cx : sC G p m c cc nL s args RX7) (hW : sW G n S H) {k : Nat} (hk : k < n) (ht : tau k = .inl 7) {v : Value} (hv : S.2.2.2 k 7 = v) (hdg : decode cc pc = .ok (.getfield 51, 3)) (kk : W p l e R s m args below meth c H locs cells slots Q (F0 m (pc + 3) ls (v :: rest))) : W p l e R s m args below meth c H locs cells slots Q (F0 m pc ls (.ref (G.2.2.1 + k) :: rest)) :=
  sGet Cx inX7 rfl 7 (by decide) w_571 hW hk ht hv hdg kk
theorem g_X7_102 (Cx : sC G p m c cc nL s args RX7) (hW : sW G n S H) {k : Nat} (hk : k < n) (ht : tau k = .inl 3) {v : Int} (hv : S.1 k 3 = v) (hdg : decode cc pc = .ok (.getfield 102, 3)) (kk : W p l e R s m args below meth c H locs cells slots Q (F0 m (pc + 3) ls (.int (iv v) :: rest))) : W p l e R s m args below meth c H locs cells slots Q (F0 m pc ls (.ref (G.2.2.1 + k) :: rest)) :=
  sGetN Cx inX3 rfl 3 (by decide) w_274 hW hk ht (congrArg (fun z => Value.int (iv z)) hv) hdg kk
theorem g_X7_88 (Cx : sC G p m c cc nL s args RX7) (hW : sW G n S H) {k : Nat} (hk : k < n) (ht : tau k = .inl 7) {v : Int} (hv : S.1 k 14 = v) (hdg : decode cc pc = .ok (.getfield 88, 3)) (kk : W p l e R s m args below meth c H locs cells slots Q (F0 m (pc + 3) ls (.int (iv v) :: rest))) : W p l e R s m args below meth c H locs cells slots Q (F0 m pc ls (.ref (G.2.2.1 + k) :: rest)) :=
  sGet Cx inX7 rfl 14 (by decide) w_578 hW hk ht (congrArg (fun z => Value.int (iv z)) hv) hdg kk
theorem c_X7_104 (Cx : sC G p m c cc nL s args RX7) {rm : Room} {mc ms : Nat} (h1 : rm.cells = mc) (h2 : rm.slots = ms) (h3 : rm.frames + 1 ≤ R.frames ∧ 8 + (1 + 11) + rm.locals ≤ R.locals) : CallW R s args RX7 RX7 104 yX7_isProved cX7_isProved 1 (some .boolean) (.code yX7_isProved cX7_isProved 1 (some .boolean) :: tb) rm mc ms 0 :=
  sCw Cx 0 w_1630 w_1631 w_1632 w_210 w_1633 (by decide +kernel) h1 h2 h3
theorem c_X7_107 (Cx : sC G p m c cc nL s args RX7) {rm : Room} {mc ms : Nat} (h1 : rm.cells = mc) (h2 : rm.slots = ms) (h3 : rm.frames + 1 ≤ R.frames ∧ 8 + (1 + 11) + rm.locals ≤ R.locals) : CallW R s args RX7 RX5 107 yX5_proofLength cX5_proofLength 1 (some .int) (.code yX5_proofLength cX5_proofLength 1 (some .int) :: tb) rm mc ms 0 :=
  sCw Cx 0 w_1701 w_1686 w_1687 w_214 w_1688 (by decide +kernel) h1 h2 h3
theorem g_X7_110 (Cx : sC G p m c cc nL s args RX7) (hW : sW G n S H) {k : Nat} (hk : k < n) (ht : tau k = .inl 3) {v : Int} (hv : S.1 k 2 = v) (hdg : decode cc pc = .ok (.getfield 110, 3)) (kk : W p l e R s m args below meth c H locs cells slots Q (F0 m (pc + 3) ls (.int (iv v) :: rest))) : W p l e R s m args below meth c H locs cells slots Q (F0 m pc ls (.ref (G.2.2.1 + k) :: rest)) :=
  sGetN Cx inX3 rfl 2 (by decide) w_267 hW hk ht (congrArg (fun z => Value.int (iv z)) hv) hdg kk
theorem g_X7_35 (Cx : sC G p m c cc nL s args RX7) (hW : sW G n S H) {k : Nat} (hk : k < n) (ht : tau k = .inl 7) {v : Value} (hv : S.2.2.2 k 3 = v) (hdg : decode cc pc = .ok (.getfield 35, 3)) (kk : W p l e R s m args below meth c H locs cells slots Q (F0 m (pc + 3) ls (v :: rest))) : W p l e R s m args below meth c H locs cells slots Q (F0 m pc ls (.ref (G.2.2.1 + k) :: rest)) :=
  sGet Cx inX7 rfl 3 (by decide) w_567 hW hk ht hv hdg kk
theorem c_X7_125 (Cx : sC G p m c cc nL s args RX7) {rm : Room} {mc ms : Nat} (h1 : rm.cells = mc) (h2 : rm.slots = ms) (h3 : rm.frames + 1 ≤ R.frames ∧ 8 + (3 + 11) + rm.locals ≤ R.locals) : CallW R s args RX7 RX5 125 yX5_pointNumber cX5_pointNumber 3 none (.code yX5_pointNumber cX5_pointNumber 3 none :: tb) rm mc ms 2 :=
  sCw Cx 2 w_1363 w_1364 w_1365 w_214 w_1366 (by decide +kernel) h1 h2 h3
theorem g_X7_39 (Cx : sC G p m c cc nL s args RX7) (hW : sW G n S H) {k : Nat} (hk : k < n) (ht : tau k = .inl 7) {v : Value} (hv : S.2.2.2 k 4 = v) (hdg : decode cc pc = .ok (.getfield 39, 3)) (kk : W p l e R s m args below meth c H locs cells slots Q (F0 m (pc + 3) ls (v :: rest))) : W p l e R s m args below meth c H locs cells slots Q (F0 m pc ls (.ref (G.2.2.1 + k) :: rest)) :=
  sGet Cx inX7 rfl 4 (by decide) w_568 hW hk ht hv hdg kk
theorem c_X7_129 (Cx : sC G p m c cc nL s args RX7) {rm : Room} {mc ms : Nat} (h1 : rm.cells = mc) (h2 : rm.slots = ms) (h3 : rm.frames + 1 ≤ R.frames ∧ 8 + (2 + 11) + rm.locals ≤ R.locals) : CallW R s args RX7 RX5 129 yX5_pointDenominator cX5_pointDenominator 2 none (.code yX5_pointDenominator cX5_pointDenominator 2 none :: tb) rm mc ms 1 :=
  sCw Cx 1 w_1357 w_1358 w_1359 w_214 w_1360 (by decide +kernel) h1 h2 h3
theorem c_X7_121 (Cx : sC G p m c cc nL s args RX7) {rm : Room} {mc ms : Nat} (h1 : rm.cells = mc) (h2 : rm.slots = ms) (h3 : rm.frames + 1 ≤ R.frames ∧ 8 + (5 + 11) + rm.locals ≤ R.locals) : CallW R s args RX7 RX5 121 yX5_writeFraction cX5_writeFraction 5 none (.code yX5_writeFraction cX5_writeFraction 5 none :: tb) rm mc ms 4 :=
  sCw Cx 4 w_1727 w_1728 w_1729 w_214 w_1730 (by decide +kernel) h1 h2 h3
theorem g_X7_132 (Cx : sC G p m c cc nL s args RX7) (hW : sW G n S H) {k : Nat} (hk : k < n) (ht : tau k = .inl 3) {v : Int} (hv : S.1 k 4 = v) (hdg : decode cc pc = .ok (.getfield 132, 3)) (kk : W p l e R s m args below meth c H locs cells slots Q (F0 m (pc + 3) ls (.int (iv v) :: rest))) : W p l e R s m args below meth c H locs cells slots Q (F0 m pc ls (.ref (G.2.2.1 + k) :: rest)) :=
  sGetN Cx inX3 rfl 4 (by decide) w_281 hW hk ht (congrArg (fun z => Value.int (iv z)) hv) hdg kk
theorem c_X7_113 (Cx : sC G p m c cc nL s args RX7) {rm : Room} {mc ms : Nat} (h1 : rm.cells = mc) (h2 : rm.slots = ms) (h3 : rm.frames + 1 ≤ R.frames ∧ 8 + (5 + 11) + rm.locals ≤ R.locals) : CallW R s args RX7 RX2 113 yX2_multiplier cX2_multiplier 5 none (.code yX2_multiplier cX2_multiplier 5 none :: tb) rm mc ms 3 :=
  sCw Cx 3 w_1726 w_1445 w_1446 w_213 w_1447 (by decide +kernel) h1 h2 h3
theorem c_X7_117 (Cx : sC G p m c cc nL s args RX7) {rm : Room} {mc ms : Nat} (h1 : rm.cells = mc) (h2 : rm.slots = ms) (h3 : rm.frames + 1 ≤ R.frames ∧ 8 + (2 + 11) + rm.locals ≤ R.locals) : CallW R s args RX7 RX2 117 yX2_denominator cX2_denominator 2 none (.code yX2_denominator cX2_denominator 2 none :: tb) rm mc ms 1 :=
  sCw Cx 1 w_1346 w_1236 w_1237 w_213 w_1238 (by decide +kernel) h1 h2 h3
theorem c_X7_193 (Cx : sC G p m c cc nL s args RX7) {rm : Room} {mc ms : Nat} (h1 : rm.cells = mc) (h2 : rm.slots = ms) (h3 : rm.frames + 1 ≤ R.frames ∧ 8 + (3 + 11) + rm.locals ≤ R.locals) : CallW R s args RX7 RX2 193 yX2_sign cX2_sign 3 (some .int) (.code yX2_sign cX2_sign 3 (some .int) :: tb) rm mc ms 2 :=
  sCw Cx 2 w_1609 w_1203 w_1204 w_213 w_1205 (by decide +kernel) h1 h2 h3
theorem c_X7_197 (Cx : sC G p m c cc nL s args RX7) {rm : Room} {mc ms : Nat} (h1 : rm.cells = mc) (h2 : rm.slots = ms) (h3 : rm.frames + 1 ≤ R.frames ∧ 8 + (1 + 11) + rm.locals ≤ R.locals) : CallW R s args RX7 RX2 197 yX2_helperIsBasic cX2_helperIsBasic 1 (some .boolean) (.code yX2_helperIsBasic cX2_helperIsBasic 1 (some .boolean) :: tb) rm mc ms 0 :=
  sCw Cx 0 w_1610 w_1611 w_1612 w_213 w_1613 (by decide +kernel) h1 h2 h3
theorem c_X7_203 (Cx : sC G p m c cc nL s args RX7) {rm : Room} {mc ms : Nat} (h1 : rm.cells = mc) (h2 : rm.slots = ms) (h3 : rm.frames + 1 ≤ R.frames ∧ 8 + (3 + 11) + rm.locals ≤ R.locals) : CallW R s args RX7 RX2 203 yX2_dropHelper cX2_dropHelper 3 none (.code yX2_dropHelper cX2_dropHelper 3 none :: tb) rm mc ms 0 :=
  sCw Cx 0 w_1618 w_1619 w_1620 w_213 w_1621 (by decide +kernel) h1 h2 h3
theorem c_X7_200 (Cx : sC G p m c cc nL s args RX7) {rm : Room} {mc ms : Nat} (h1 : rm.cells = mc) (h2 : rm.slots = ms) (h3 : rm.frames + 1 ≤ R.frames ∧ 8 + (2 + 11) + rm.locals ≤ R.locals) : CallW R s args RX7 RX2 200 yX2_chooseHelperOut cX2_chooseHelperOut 2 (some .int) (.code yX2_chooseHelperOut cX2_chooseHelperOut 2 (some .int) :: tb) rm mc ms 0 :=
  sCw Cx 0 w_1614 w_1615 w_1616 w_213 w_1617 (by decide +kernel) h1 h2 h3
theorem p_X7_190 (Cx : sC G p m c cc nL s args RX7) (hW : sW G n S H) (hL : sL G locs) {k : Nat} (hk : k < n) (ht : tau k = .inl 7) {v : Int} (hdg : decode cc pc = .ok (.putfield 190, 3)) (kk : ∀ (H1 : Heap) (locs1 : List Loc), sW G n (uF S k 16 v) H1 → sL G locs1 → W p l e R s m args below meth c H1 locs1 cells slots Q (F0 m (pc + 3) ls rest)) : W p l e R s m args below meth c H locs cells slots Q (F0 m pc ls (.int (iv v) :: .ref (G.2.2.1 + k) :: rest)) :=
  sPut Cx inX7 tyX7 tyX7_ok nmX7 rfl 16 (by decide) w_580 rfl hW hL hk ht rfl rfl (fun _ h => uF_same h) (fun _ h => uF_off h) (congrArg (fun z => Value.int (iv z)) uF_on) hdg kk
theorem c_X7_177 (Cx : sC G p m c cc nL s args RX7) {rm : Room} {mc ms : Nat} (h1 : rm.cells = mc) (h2 : rm.slots = ms) (h3 : rm.frames + 1 ≤ R.frames ∧ 8 + (3 + 11) + rm.locals ≤ R.locals) : CallW R s args RX7 RX2 177 yX2_chooseUp cX2_chooseUp 3 (some .int) (.code yX2_chooseUp cX2_chooseUp 3 (some .int) :: tb) rm mc ms 1 :=
  sCw Cx 1 w_1581 w_1582 w_1583 w_213 w_1584 (by decide +kernel) h1 h2 h3
theorem c_X7_187 (Cx : sC G p m c cc nL s args RX7) {rm : Room} {mc ms : Nat} (h1 : rm.cells = mc) (h2 : rm.slots = ms) (h3 : rm.frames + 1 ≤ R.frames ∧ 8 + (1 + 11) + rm.locals ≤ R.locals) : CallW R s args RX7 RX2 187 yX2_stuckRow cX2_stuckRow 1 (some .int) (.code yX2_stuckRow cX2_stuckRow 1 (some .int) :: tb) rm mc ms 0 :=
  sCw Cx 0 w_1622 w_1623 w_1624 w_213 w_1625 (by decide +kernel) h1 h2 h3
theorem c_X7_184 (Cx : sC G p m c cc nL s args RX7) {rm : Room} {mc ms : Nat} (h1 : rm.cells = mc) (h2 : rm.slots = ms) (h3 : rm.frames + 1 ≤ R.frames ∧ 8 + (1 + 11) + rm.locals ≤ R.locals) : CallW R s args RX7 RX7 184 yX7_endPhaseOne cX7_endPhaseOne 1 none (.code yX7_endPhaseOne cX7_endPhaseOne 1 none :: tb) rm mc ms 0 :=
  sCw Cx 0 w_1605 w_1607 w_71 w_210 w_1608 (by decide +kernel) h1 h2 h3
theorem c_X7_174 (Cx : sC G p m c cc nL s args RX7) {rm : Room} {mc ms : Nat} (h1 : rm.cells = mc) (h2 : rm.slots = ms) (h3 : rm.frames + 1 ≤ R.frames ∧ 8 + (2 + 11) + rm.locals ≤ R.locals) : CallW R s args RX7 RX2 174 yX2_chooseFirst cX2_chooseFirst 2 (some .int) (.code yX2_chooseFirst cX2_chooseFirst 2 (some .int) :: tb) rm mc ms 0 :=
  sCw Cx 0 w_1577 w_1578 w_1579 w_213 w_1580 (by decide +kernel) h1 h2 h3
theorem c_X7_181 (Cx : sC G p m c cc nL s args RX7) {rm : Room} {mc ms : Nat} (h1 : rm.cells = mc) (h2 : rm.slots = ms) (h3 : rm.frames + 1 ≤ R.frames ∧ 8 + (2 + 11) + rm.locals ≤ R.locals) : CallW R s args RX7 RX2 181 yX2_chooseDown cX2_chooseDown 2 (some .int) (.code yX2_chooseDown cX2_chooseDown 2 (some .int) :: tb) rm mc ms 0 :=
  sCw Cx 0 w_1597 w_1598 w_1599 w_213 w_1600 (by decide +kernel) h1 h2 h3
theorem g_X7_42 (Cx : sC G p m c cc nL s args RX7) (hW : sW G n S H) {k : Nat} (hk : k < n) (ht : tau k = .inl 7) {v : Value} (hv : S.2.2.2 k 5 = v) (hdg : decode cc pc = .ok (.getfield 42, 3)) (kk : W p l e R s m args below meth c H locs cells slots Q (F0 m (pc + 3) ls (v :: rest))) : W p l e R s m args below meth c H locs cells slots Q (F0 m pc ls (.ref (G.2.2.1 + k) :: rest)) :=
  sGet Cx inX7 rfl 5 (by decide) w_569 hW hk ht hv hdg kk
theorem c_X7_220 (Cx : sC G p m c cc nL s args RX7) {rm : Room} {mc ms : Nat} (h1 : rm.cells = mc) (h2 : rm.slots = ms) (h3 : rm.frames + 1 ≤ R.frames ∧ 8 + (4 + 11) + rm.locals ≤ R.locals) : CallW R s args RX7 RX2 220 yX2_number cX2_number 4 none (.code yX2_number cX2_number 4 none :: tb) rm mc ms 3 :=
  sCw Cx 3 w_1342 w_1343 w_1344 w_213 w_1345 (by decide +kernel) h1 h2 h3
theorem g_X7_45 (Cx : sC G p m c cc nL s args RX7) (hW : sW G n S H) {k : Nat} (hk : k < n) (ht : tau k = .inl 7) {v : Value} (hv : S.2.2.2 k 6 = v) (hdg : decode cc pc = .ok (.getfield 45, 3)) (kk : W p l e R s m args below meth c H locs cells slots Q (F0 m (pc + 3) ls (v :: rest))) : W p l e R s m args below meth c H locs cells slots Q (F0 m pc ls (.ref (G.2.2.1 + k) :: rest)) :=
  sGet Cx inX7 rfl 6 (by decide) w_570 hW hk ht hv hdg kk
theorem c_X7_233 (Cx : sC G p m c cc nL s args RX7) {rm : Room} {mc ms : Nat} (h1 : rm.cells = mc) (h2 : rm.slots = ms) (h3 : rm.frames + 1 ≤ R.frames ∧ 8 + (12 + 11) + rm.locals ≤ R.locals) : CallW R s args RX7 RX0 233 yX0_product cX0_product 12 none (.code yX0_product cX0_product 12 none :: tb) rm mc ms 2 :=
  sCw Cx 2 w_1362 w_1259 w_1260 w_212 w_1261 (by decide +kernel) h1 h2 h3
theorem c_X7_237 (Cx : sC G p m c cc nL s args RX7) {rm : Room} {mc ms : Nat} (h1 : rm.cells = mc) (h2 : rm.slots = ms) (h3 : rm.frames + 1 ≤ R.frames ∧ 8 + (2 + 11) + rm.locals ≤ R.locals) : CallW R s args RX7 RX0 237 yX0_compareWith cX0_compareWith 2 (some .int) (.code yX0_compareWith cX0_compareWith 2 (some .int) :: tb) rm mc ms 1 :=
  sCw Cx 1 w_1367 w_1368 w_1369 w_212 w_1370 (by decide +kernel) h1 h2 h3
theorem c_X7_223 (Cx : sC G p m c cc nL s args RX7) {rm : Room} {mc ms : Nat} (h1 : rm.cells = mc) (h2 : rm.slots = ms) (h3 : rm.frames + 1 ≤ R.frames ∧ 8 + (2 + 11) + rm.locals ≤ R.locals) : CallW R s args RX7 RX3 223 yX3_isGoalWhole cX3_isGoalWhole 2 (some .boolean) (.code yX3_isGoalWhole cX3_isGoalWhole 2 (some .boolean) :: tb) rm mc ms 0 :=
  sCw Cx 0 w_1347 w_1348 w_1349 w_207 w_1350 (by decide +kernel) h1 h2 h3
theorem c_X7_226 (Cx : sC G p m c cc nL s args RX7) {rm : Room} {mc ms : Nat} (h1 : rm.cells = mc) (h2 : rm.slots = ms) (h3 : rm.frames + 1 ≤ R.frames ∧ 8 + (3 + 11) + rm.locals ≤ R.locals) : CallW R s args RX7 RX2 226 yX2_floor cX2_floor 3 none (.code yX2_floor cX2_floor 3 none :: tb) rm mc ms 2 :=
  sCw Cx 2 w_1352 w_1353 w_1354 w_213 w_1355 (by decide +kernel) h1 h2 h3
theorem c_X7_229 (Cx : sC G p m c cc nL s args RX7) {rm : Room} {mc ms : Nat} (h1 : rm.cells = mc) (h2 : rm.slots = ms) (h3 : rm.frames + 1 ≤ R.frames ∧ 8 + (6 + 11) + rm.locals ≤ R.locals) : CallW R s args RX7 RX0 229 yX0_put cX0_put 6 none (.code yX0_put cX0_put 6 none :: tb) rm mc ms 1 :=
  sCw Cx 1 w_1356 w_1263 w_1264 w_212 w_1265 (by decide +kernel) h1 h2 h3
theorem c_X7_209 (Cx : sC G p m c cc nL s args RX7) {rm : Room} {mc ms : Nat} (h1 : rm.cells = mc) (h2 : rm.slots = ms) (h3 : rm.frames + 1 ≤ R.frames ∧ 8 + (4 + 11) + rm.locals ≤ R.locals) : CallW R s args RX7 RX2 209 yX2_brokenRow cX2_brokenRow 4 (some .int) (.code yX2_brokenRow cX2_brokenRow 4 (some .int) :: tb) rm mc ms 1 :=
  sCw Cx 1 w_1371 w_1372 w_1373 w_213 w_1374 (by decide +kernel) h1 h2 h3
theorem c_X7_217 (Cx : sC G p m c cc nL s args RX7) {rm : Room} {mc ms : Nat} (h1 : rm.cells = mc) (h2 : rm.slots = ms) (h3 : rm.frames + 1 ≤ R.frames ∧ 8 + (1 + 11) + rm.locals ≤ R.locals) : CallW R s args RX7 RX3 217 yX3_isAllWhole cX3_isAllWhole 1 (some .boolean) (.code yX3_isAllWhole cX3_isAllWhole 1 (some .boolean) :: tb) rm mc ms 0 :=
  sCw Cx 0 w_1395 w_1396 w_1397 w_207 w_1398 (by decide +kernel) h1 h2 h3
theorem g_X7_55 (Cx : sC G p m c cc nL s args RX7) (hW : sW G n S H) {k : Nat} (hk : k < n) (ht : tau k = .inl 7) {v : Int} (hv : S.1 k 8 = v) (hdg : decode cc pc = .ok (.getfield 55, 3)) (kk : W p l e R s m args below meth c H locs cells slots Q (F0 m (pc + 3) ls (.int (iv v) :: rest))) : W p l e R s m args below meth c H locs cells slots Q (F0 m pc ls (.ref (G.2.2.1 + k) :: rest)) :=
  sGet Cx inX7 rfl 8 (by decide) w_572 hW hk ht (congrArg (fun z => Value.int (iv z)) hv) hdg kk
theorem c_X7_213 (Cx : sC G p m c cc nL s args RX7) {rm : Room} {mc ms : Nat} (h1 : rm.cells = mc) (h2 : rm.slots = ms) (h3 : rm.frames + 1 ≤ R.frames ∧ 8 + (4 + 11) + rm.locals ≤ R.locals) : CallW R s args RX7 RX5 213 yX5_takePoint cX5_takePoint 4 none (.code yX5_takePoint cX5_takePoint 4 none :: tb) rm mc ms 2 :=
  sCw Cx 2 w_1383 w_1384 w_1385 w_214 w_1386 (by decide +kernel) h1 h2 h3
theorem c_X7_206 (Cx : sC G p m c cc nL s args RX7) {rm : Room} {mc ms : Nat} (h1 : rm.cells = mc) (h2 : rm.slots = ms) (h3 : rm.frames + 1 ≤ R.frames ∧ 8 + (1 + 11) + rm.locals ≤ R.locals) : CallW R s args RX7 RX7 206 yX7_isAboveBest cX7_isAboveBest 1 (some .boolean) (.code yX7_isAboveBest cX7_isAboveBest 1 (some .boolean) :: tb) rm mc ms 0 :=
  sCw Cx 0 w_1338 w_1340 w_57 w_210 w_1341 (by decide +kernel) h1 h2 h3
theorem g_X7_190 (Cx : sC G p m c cc nL s args RX7) (hW : sW G n S H) {k : Nat} (hk : k < n) (ht : tau k = .inl 7) {v : Int} (hv : S.1 k 16 = v) (hdg : decode cc pc = .ok (.getfield 190, 3)) (kk : W p l e R s m args below meth c H locs cells slots Q (F0 m (pc + 3) ls (.int (iv v) :: rest))) : W p l e R s m args below meth c H locs cells slots Q (F0 m pc ls (.ref (G.2.2.1 + k) :: rest)) :=
  sGet Cx inX7 rfl 16 (by decide) w_580 hW hk ht (congrArg (fun z => Value.int (iv z)) hv) hdg kk
theorem c_X7_241 (Cx : sC G p m c cc nL s args RX7) {rm : Room} {mc ms : Nat} (h1 : rm.cells = mc) (h2 : rm.slots = ms) (h3 : rm.frames + 1 ≤ R.frames ∧ 8 + (5 + 11) + rm.locals ≤ R.locals) : CallW R s args RX7 RX5 241 yX5_writeLeaf cX5_writeLeaf 5 none (.code yX5_writeLeaf cX5_writeLeaf 5 none :: tb) rm mc ms 3 :=
  sCw Cx 3 w_1404 w_1405 w_1406 w_214 w_1407 (by decide +kernel) h1 h2 h3
theorem c_X7_245 (Cx : sC G p m c cc nL s args RX7) {rm : Room} {mc ms : Nat} (h1 : rm.cells = mc) (h2 : rm.slots = ms) (h3 : rm.frames + 1 ≤ R.frames ∧ 8 + (1 + 11) + rm.locals ≤ R.locals) : CallW R s args RX7 RX5 245 yX5_isTreeOver cX5_isTreeOver 1 (some .boolean) (.code yX5_isTreeOver cX5_isTreeOver 1 (some .boolean) :: tb) rm mc ms 0 :=
  sCw Cx 0 w_1463 w_1464 w_1465 w_214 w_1466 (by decide +kernel) h1 h2 h3
theorem c_X7_248 (Cx : sC G p m c cc nL s args RX7) {rm : Room} {mc ms : Nat} (h1 : rm.cells = mc) (h2 : rm.slots = ms) (h3 : rm.frames + 1 ≤ R.frames ∧ 8 + (1 + 11) + rm.locals ≤ R.locals) : CallW R s args RX7 RX2 248 yX2_hasKept cX2_hasKept 1 (some .boolean) (.code yX2_hasKept cX2_hasKept 1 (some .boolean) :: tb) rm mc ms 0 :=
  sCw Cx 0 w_1471 w_1472 w_1473 w_213 w_1474 (by decide +kernel) h1 h2 h3
theorem c_X7_251 (Cx : sC G p m c cc nL s args RX7) {rm : Room} {mc ms : Nat} (h1 : rm.cells = mc) (h2 : rm.slots = ms) (h3 : rm.frames + 1 ≤ R.frames ∧ 8 + (6 + 11) + rm.locals ≤ R.locals) : CallW R s args RX7 RX5 251 yX5_writeCut cX5_writeCut 6 none (.code yX5_writeCut cX5_writeCut 6 none :: tb) rm mc ms 4 :=
  sCw Cx 4 w_1479 w_1480 w_1481 w_214 w_1482 (by decide +kernel) h1 h2 h3
theorem c_X7_258 (Cx : sC G p m c cc nL s args RX7) {rm : Room} {mc ms : Nat} (h1 : rm.cells = mc) (h2 : rm.slots = ms) (h3 : rm.frames + 1 ≤ R.frames ∧ 8 + (2 + 11) + rm.locals ≤ R.locals) : CallW R s args RX7 RX7 258 yX7_countChild cX7_countChild 2 (some .boolean) (.code yX7_countChild cX7_countChild 2 (some .boolean) :: tb) rm mc ms 1 :=
  sCw Cx 1 w_1498 w_1500 w_63 w_210 w_1501 (by decide +kernel) h1 h2 h3
theorem c_X7_262 (Cx : sC G p m c cc nL s args RX7) {rm : Room} {mc ms : Nat} (h1 : rm.cells = mc) (h2 : rm.slots = ms) (h3 : rm.frames + 1 ≤ R.frames ∧ 8 + (3 + 11) + rm.locals ≤ R.locals) : CallW R s args RX7 RX6 262 yX6_addCut cX6_addCut 3 (some .boolean) (.code yX6_addCut cX6_addCut 3 (some .boolean) :: tb) rm mc ms 1 :=
  sCw Cx 1 w_1502 w_1503 w_1504 w_211 w_1505 (by decide +kernel) h1 h2 h3
theorem c_X7_266 (Cx : sC G p m c cc nL s args RX7) {rm : Room} {mc ms : Nat} (h1 : rm.cells = mc) (h2 : rm.slots = ms) (h3 : rm.frames + 1 ≤ R.frames ∧ 8 + (3 + 11) + rm.locals ≤ R.locals) : CallW R s args RX7 RX2 266 yX2_addCut cX2_addCut 3 none (.code yX2_addCut cX2_addCut 3 none :: tb) rm mc ms 1 :=
  sCw Cx 1 w_1519 w_1520 w_1521 w_213 w_1522 (by decide +kernel) h1 h2 h3
theorem c_X7_255 (Cx : sC G p m c cc nL s args RX7) {rm : Room} {mc ms : Nat} (h1 : rm.cells = mc) (h2 : rm.slots = ms) (h3 : rm.frames + 1 ≤ R.frames ∧ 8 + (1 + 11) + rm.locals ≤ R.locals) : CallW R s args RX7 RX6 255 yX6_isFull cX6_isFull 1 (some .boolean) (.code yX6_isFull cX6_isFull 1 (some .boolean) :: tb) rm mc ms 0 :=
  sCw Cx 0 w_1494 w_1495 w_1496 w_211 w_1497 (by decide +kernel) h1 h2 h3
theorem c_X7_269 (Cx : sC G p m c cc nL s args RX7) {rm : Room} {mc ms : Nat} (h1 : rm.cells = mc) (h2 : rm.slots = ms) (h3 : rm.frames + 1 ≤ R.frames ∧ 8 + (2 + 11) + rm.locals ≤ R.locals) : CallW R s args RX7 RX2 269 yX2_numberAt cX2_numberAt 2 (some .int) (.code yX2_numberAt cX2_numberAt 2 (some .int) :: tb) rm mc ms 1 :=
  sCw Cx 1 w_1533 w_1534 w_1535 w_213 w_1536 (by decide +kernel) h1 h2 h3
theorem c_X7_272 (Cx : sC G p m c cc nL s args RX7) {rm : Room} {mc ms : Nat} (h1 : rm.cells = mc) (h2 : rm.slots = ms) (h3 : rm.frames + 1 ≤ R.frames ∧ 8 + (3 + 11) + rm.locals ≤ R.locals) : CallW R s args RX7 RX5 272 yX5_writeBranch cX5_writeBranch 3 none (.code yX5_writeBranch cX5_writeBranch 3 none :: tb) rm mc ms 2 :=
  sCw Cx 2 w_1537 w_1538 w_1539 w_214 w_1540 (by decide +kernel) h1 h2 h3
theorem c_X7_275 (Cx : sC G p m c cc nL s args RX7) {rm : Room} {mc ms : Nat} (h1 : rm.cells = mc) (h2 : rm.slots = ms) (h3 : rm.frames + 1 ≤ R.frames ∧ 8 + (4 + 11) + rm.locals ≤ R.locals) : CallW R s args RX7 RX2 275 yX2_keep cX2_keep 4 none (.code yX2_keep cX2_keep 4 none :: tb) rm mc ms 1 :=
  sCw Cx 1 w_1542 w_1543 w_1544 w_213 w_1545 (by decide +kernel) h1 h2 h3
theorem c_X7_278 (Cx : sC G p m c cc nL s args RX7) {rm : Room} {mc ms : Nat} (h1 : rm.cells = mc) (h2 : rm.slots = ms) (h3 : rm.frames + 1 ≤ R.frames ∧ 8 + (5 + 11) + rm.locals ≤ R.locals) : CallW R s args RX7 RX6 278 yX6_addLimit cX6_addLimit 5 none (.code yX6_addLimit cX6_addLimit 5 none :: tb) rm mc ms 3 :=
  sCw Cx 3 w_1547 w_1548 w_1549 w_211 w_1550 (by decide +kernel) h1 h2 h3
theorem c_X7_282 (Cx : sC G p m c cc nL s args RX7) {rm : Room} {mc ms : Nat} (h1 : rm.cells = mc) (h2 : rm.slots = ms) (h3 : rm.frames + 1 ≤ R.frames ∧ 8 + (4 + 11) + rm.locals ≤ R.locals) : CallW R s args RX7 RX2 282 yX2_addLimit cX2_addLimit 4 none (.code yX2_addLimit cX2_addLimit 4 none :: tb) rm mc ms 2 :=
  sCw Cx 2 w_1554 w_1555 w_1556 w_213 w_1557 (by decide +kernel) h1 h2 h3
theorem c_X7_285 (Cx : sC G p m c cc nL s args RX7) {rm : Room} {mc ms : Nat} (h1 : rm.cells = mc) (h2 : rm.slots = ms) (h3 : rm.frames + 1 ≤ R.frames ∧ 8 + (6 + 11) + rm.locals ≤ R.locals) : CallW R s args RX7 RX2 285 yX2_restore cX2_restore 6 (some .int) (.code yX2_restore cX2_restore 6 (some .int) :: tb) rm mc ms 0 :=
  sCw Cx 0 w_1562 w_1563 w_1564 w_213 w_1565 (by decide +kernel) h1 h2 h3
theorem c_X7_288 (Cx : sC G p m c cc nL s args RX7) {rm : Room} {mc ms : Nat} (h1 : rm.cells = mc) (h2 : rm.slots = ms) (h3 : rm.frames + 1 ≤ R.frames ∧ 8 + (1 + 11) + rm.locals ≤ R.locals) : CallW R s args RX7 RX2 288 yX2_rowCount cX2_rowCount 1 (some .int) (.code yX2_rowCount cX2_rowCount 1 (some .int) :: tb) rm mc ms 0 :=
  sCw Cx 0 w_1566 w_1441 w_1442 w_213 w_1443 (by decide +kernel) h1 h2 h3
theorem c_X7_291 (Cx : sC G p m c cc nL s args RX7) {rm : Room} {mc ms : Nat} (h1 : rm.cells = mc) (h2 : rm.slots = ms) (h3 : rm.frames + 1 ≤ R.frames ∧ 8 + (2 + 11) + rm.locals ≤ R.locals) : CallW R s args RX7 RX6 291 yX6_keep cX6_keep 2 none (.code yX6_keep cX6_keep 2 none :: tb) rm mc ms 1 :=
  sCw Cx 1 w_1567 w_1568 w_1569 w_211 w_1570 (by decide +kernel) h1 h2 h3
theorem g_X7_91 (Cx : sC G p m c cc nL s args RX7) (hW : sW G n S H) {k : Nat} (hk : k < n) (ht : tau k = .inl 7) {v : Int} (hv : S.1 k 15 = v) (hdg : decode cc pc = .ok (.getfield 91, 3)) (kk : W p l e R s m args below meth c H locs cells slots Q (F0 m (pc + 3) ls (.int (iv v) :: rest))) : W p l e R s m args below meth c H locs cells slots Q (F0 m pc ls (.ref (G.2.2.1 + k) :: rest)) :=
  sGet Cx inX7 rfl 15 (by decide) w_579 hW hk ht (congrArg (fun z => Value.int (iv z)) hv) hdg kk
theorem c_X7_137 (Cx : sC G p m c cc nL s args RX7) {rm : Room} {mc ms : Nat} (h1 : rm.cells = mc) (h2 : rm.slots = ms) (h3 : rm.frames + 1 ≤ R.frames ∧ 8 + (4 + 11) + rm.locals ≤ R.locals) : CallW R s args RX7 RX2 137 yX2_pivot cX2_pivot 4 (some .boolean) (.code yX2_pivot cX2_pivot 4 (some .boolean) :: tb) rm mc ms 0 :=
  sCw Cx 0 w_1230 w_1231 w_1232 w_213 w_1233 (by decide +kernel) h1 h2 h3
theorem c_X7_140 (Cx : sC G p m c cc nL s args RX7) {rm : Room} {mc ms : Nat} (h1 : rm.cells = mc) (h2 : rm.slots = ms) (h3 : rm.frames + 1 ≤ R.frames ∧ 8 + (2 + 11) + rm.locals ≤ R.locals) : CallW R s args RX7 RX7 140 yX7_judge cX7_judge 2 none (.code yX7_judge cX7_judge 2 none :: tb) rm mc ms 0 :=
  sCw Cx 0 w_1334 w_1336 w_56 w_210 w_1337 (by decide +kernel) h1 h2 h3
theorem c_X7_143 (Cx : sC G p m c cc nL s args RX7) {rm : Room} {mc ms : Nat} (h1 : rm.cells = mc) (h2 : rm.slots = ms) (h3 : rm.frames + 1 ≤ R.frames ∧ 8 + (1 + 11) + rm.locals ≤ R.locals) : CallW R s args RX7 RX7 143 yX7_leaf cX7_leaf 1 none (.code yX7_leaf cX7_leaf 1 none :: tb) rm mc ms 0 :=
  sCw Cx 0 w_1400 w_1402 w_59 w_210 w_1403 (by decide +kernel) h1 h2 h3
theorem c_X7_146 (Cx : sC G p m c cc nL s args RX7) {rm : Room} {mc ms : Nat} (h1 : rm.cells = mc) (h2 : rm.slots = ms) (h3 : rm.frames + 1 ≤ R.frames ∧ 8 + (1 + 11) + rm.locals ≤ R.locals) : CallW R s args RX7 RX7 146 yX7_cut cX7_cut 1 none (.code yX7_cut cX7_cut 1 none :: tb) rm mc ms 0 :=
  sCw Cx 0 w_1475 w_1477 w_62 w_210 w_1478 (by decide +kernel) h1 h2 h3
theorem c_X7_149 (Cx : sC G p m c cc nL s args RX7) {rm : Room} {mc ms : Nat} (h1 : rm.cells = mc) (h2 : rm.slots = ms) (h3 : rm.frames + 1 ≤ R.frames ∧ 8 + (2 + 11) + rm.locals ≤ R.locals) : CallW R s args RX7 RX7 149 yX7_branch cX7_branch 2 none (.code yX7_branch cX7_branch 2 none :: tb) rm mc ms 0 :=
  sCw Cx 0 w_1529 w_1531 w_65 w_210 w_1532 (by decide +kernel) h1 h2 h3
theorem c_X7_152 (Cx : sC G p m c cc nL s args RX7) {rm : Room} {mc ms : Nat} (h1 : rm.cells = mc) (h2 : rm.slots = ms) (h3 : rm.frames + 1 ≤ R.frames ∧ 8 + (1 + 11) + rm.locals ≤ R.locals) : CallW R s args RX7 RX7 152 yX7_beginSecondChild cX7_beginSecondChild 1 none (.code yX7_beginSecondChild cX7_beginSecondChild 1 none :: tb) rm mc ms 0 :=
  sCw Cx 0 w_1558 w_1560 w_66 w_210 w_1561 (by decide +kernel) h1 h2 h3
theorem c_X7_155 (Cx : sC G p m c cc nL s args RX7) {rm : Room} {mc ms : Nat} (h1 : rm.cells = mc) (h2 : rm.slots = ms) (h3 : rm.frames + 1 ≤ R.frames ∧ 8 + (2 + 11) + rm.locals ≤ R.locals) : CallW R s args RX7 RX7 155 yX7_choose cX7_choose 2 none (.code yX7_choose cX7_choose 2 none :: tb) rm mc ms 0 :=
  sCw Cx 0 w_1573 w_1575 w_67 w_210 w_1576 (by decide +kernel) h1 h2 h3
theorem c_X7_158 (Cx : sC G p m c cc nL s args RX7) {rm : Room} {mc ms : Nat} (h1 : rm.cells = mc) (h2 : rm.slots = ms) (h3 : rm.frames + 1 ≤ R.frames ∧ 8 + (1 + 11) + rm.locals ≤ R.locals) : CallW R s args RX7 RX5 158 yX5_isMade cX5_isMade 1 (some .boolean) (.code yX5_isMade cX5_isMade 1 (some .boolean) :: tb) rm mc ms 0 :=
  sCw Cx 0 w_1634 w_1635 w_1636 w_214 w_1637 (by decide +kernel) h1 h2 h3
theorem c_X7_171 (Cx : sC G p m c cc nL s args RX7) {rm : Room} {mc ms : Nat} (h1 : rm.cells = mc) (h2 : rm.slots = ms) (h3 : rm.frames + 1 ≤ R.frames ∧ 8 + (1 + 11) + rm.locals ≤ R.locals) : CallW R s args RX7 RX5 171 yX5_isOver cX5_isOver 1 (some .boolean) (.code yX5_isOver cX5_isOver 1 (some .boolean) :: tb) rm mc ms 0 :=
  sCw Cx 0 w_1681 w_1682 w_1683 w_214 w_1684 (by decide +kernel) h1 h2 h3
theorem c_X7_167 (Cx : sC G p m c cc nL s args RX7) {rm : Room} {mc ms : Nat} (h1 : rm.cells = mc) (h2 : rm.slots = ms) (h3 : rm.frames + 1 ≤ R.frames ∧ 8 + (4 + 11) + rm.locals ≤ R.locals) : CallW R s args RX7 RX5 167 yX5_proveUnbounded cX5_proveUnbounded 4 none (.code yX5_proveUnbounded cX5_proveUnbounded 4 none :: tb) rm mc ms 2 :=
  sCw Cx 2 w_1669 w_1670 w_1671 w_214 w_1672 (by decide +kernel) h1 h2 h3
theorem c_X7_164 (Cx : sC G p m c cc nL s args RX7) {rm : Room} {mc ms : Nat} (h1 : rm.cells = mc) (h2 : rm.slots = ms) (h3 : rm.frames + 1 ≤ R.frames ∧ 8 + (1 + 11) + rm.locals ≤ R.locals) : CallW R s args RX7 RX5 164 yX5_proveInfeasible cX5_proveInfeasible 1 none (.code yX5_proveInfeasible cX5_proveInfeasible 1 none :: tb) rm mc ms 0 :=
  sCw Cx 0 w_1664 w_1665 w_1666 w_214 w_1667 (by decide +kernel) h1 h2 h3
theorem c_X7_161 (Cx : sC G p m c cc nL s args RX7) {rm : Room} {mc ms : Nat} (h1 : rm.cells = mc) (h2 : rm.slots = ms) (h3 : rm.frames + 1 ≤ R.frames ∧ 8 + (2 + 11) + rm.locals ≤ R.locals) : CallW R s args RX7 RX5 161 yX5_proveOptimal cX5_proveOptimal 2 none (.code yX5_proveOptimal cX5_proveOptimal 2 none :: tb) rm mc ms 1 :=
  sCw Cx 1 w_1639 w_1640 w_1641 w_214 w_1642 (by decide +kernel) h1 h2 h3
end RW43
