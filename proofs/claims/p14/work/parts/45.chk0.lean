theorem dX1_beginSecondTree_0 : decode cX1_beginSecondTree 0 = .ok (.aload_n 0, 1) := by decide +kernel
theorem dX1_beginSecondTree_1 : decode cX1_beginSecondTree 1 = .ok (.dup, 1) := by decide +kernel
theorem dX1_beginSecondTree_2 : decode cX1_beginSecondTree 2 = .ok (.getfield 103, 3) := by decide +kernel
theorem dX1_beginSecondTree_5 : decode cX1_beginSecondTree 5 = .ok (.iconst 1, 1) := by decide +kernel
theorem dX1_beginSecondTree_6 : decode cX1_beginSecondTree 6 = .ok (.isub, 1) := by decide +kernel
theorem dX1_beginSecondTree_7 : decode cX1_beginSecondTree 7 = .ok (.putfield 103, 3) := by decide +kernel
theorem dX1_beginSecondTree_10 : decode cX1_beginSecondTree 10 = .ok (.aload_n 0, 1) := by decide +kernel
theorem dX1_beginSecondTree_11 : decode cX1_beginSecondTree 11 = .ok (.getfield 21, 3) := by decide +kernel
theorem dX1_beginSecondTree_14 : decode cX1_beginSecondTree 14 = .ok (.aload_n 0, 1) := by decide +kernel
theorem dX1_beginSecondTree_15 : decode cX1_beginSecondTree 15 = .ok (.getfield 57, 3) := by decide +kernel
theorem dX1_beginSecondTree_18 : decode cX1_beginSecondTree 18 = .ok (.aload_n 0, 1) := by decide +kernel
theorem dX1_beginSecondTree_19 : decode cX1_beginSecondTree 19 = .ok (.getfield 103, 3) := by decide +kernel
theorem dX1_beginSecondTree_22 : decode cX1_beginSecondTree 22 = .ok (.iaload, 1) := by decide +kernel
theorem dX1_beginSecondTree_23 : decode cX1_beginSecondTree 23 = .ok (.invokevirtual 216, 3) := by decide +kernel
theorem dX1_beginSecondTree_26 : decode cX1_beginSecondTree 26 = .ok (.aload_n 0, 1) := by decide +kernel
theorem dX1_beginSecondTree_27 : decode cX1_beginSecondTree 27 = .ok (.getfield 48, 3) := by decide +kernel
theorem dX1_beginSecondTree_30 : decode cX1_beginSecondTree 30 = .ok (.aload_n 0, 1) := by decide +kernel
theorem dX1_beginSecondTree_31 : decode cX1_beginSecondTree 31 = .ok (.getfield 63, 3) := by decide +kernel
theorem dX1_beginSecondTree_34 : decode cX1_beginSecondTree 34 = .ok (.aload_n 0, 1) := by decide +kernel
theorem dX1_beginSecondTree_35 : decode cX1_beginSecondTree 35 = .ok (.getfield 103, 3) := by decide +kernel
theorem dX1_beginSecondTree_38 : decode cX1_beginSecondTree 38 = .ok (.bipush 8, 2) := by decide +kernel
theorem dX1_beginSecondTree_40 : decode cX1_beginSecondTree 40 = .ok (.imul, 1) := by decide +kernel
theorem dX1_beginSecondTree_41 : decode cX1_beginSecondTree 41 = .ok (.invokevirtual 157, 3) := by decide +kernel
theorem dX1_beginSecondTree_44 : decode cX1_beginSecondTree 44 = .ok (.aload_n 0, 1) := by decide +kernel
theorem dX1_beginSecondTree_45 : decode cX1_beginSecondTree 45 = .ok (.getfield 21, 3) := by decide +kernel
theorem dX1_beginSecondTree_48 : decode cX1_beginSecondTree 48 = .ok (.aload_n 0, 1) := by decide +kernel
theorem dX1_beginSecondTree_49 : decode cX1_beginSecondTree 49 = .ok (.getfield 60, 3) := by decide +kernel
theorem dX1_beginSecondTree_52 : decode cX1_beginSecondTree 52 = .ok (.aload_n 0, 1) := by decide +kernel
theorem dX1_beginSecondTree_53 : decode cX1_beginSecondTree 53 = .ok (.getfield 103, 3) := by decide +kernel
theorem dX1_beginSecondTree_56 : decode cX1_beginSecondTree 56 = .ok (.iaload, 1) := by decide +kernel
theorem dX1_beginSecondTree_57 : decode cX1_beginSecondTree 57 = .ok (.aload_n 0, 1) := by decide +kernel
theorem dX1_beginSecondTree_58 : decode cX1_beginSecondTree 58 = .ok (.getfield 48, 3) := by decide +kernel
theorem dX1_beginSecondTree_61 : decode cX1_beginSecondTree 61 = .ok (.iconst 1, 1) := by decide +kernel
theorem dX1_beginSecondTree_62 : decode cX1_beginSecondTree 62 = .ok (.invokevirtual 212, 3) := by decide +kernel
theorem dX1_beginSecondTree_65 : decode cX1_beginSecondTree 65 = .ok (.return_, 1) := by decide +kernel
theorem dX1_branch_0 : decode cX1_branch 0 = .ok (.aload_n 0, 1) := by decide +kernel
theorem dX1_branch_1 : decode cX1_branch 1 = .ok (.getfield 12, 3) := by decide +kernel
theorem dX1_branch_4 : decode cX1_branch 4 = .ok (.invokevirtual 203, 3) := by decide +kernel
theorem dX1_branch_7 : decode cX1_branch 7 = .ok (.istore_n 1, 1) := by decide +kernel
theorem dX1_branch_8 : decode cX1_branch 8 = .ok (.aload_n 0, 1) := by decide +kernel
theorem dX1_branch_9 : decode cX1_branch 9 = .ok (.getfield 12, 3) := by decide +kernel
theorem dX1_branch_12 : decode cX1_branch 12 = .ok (.aload_n 0, 1) := by decide +kernel
theorem dX1_branch_13 : decode cX1_branch 13 = .ok (.getfield 48, 3) := by decide +kernel
theorem dX1_branch_16 : decode cX1_branch 16 = .ok (.invokevirtual 126, 3) := by decide +kernel
theorem dX1_branch_19 : decode cX1_branch 19 = .ok (.aload_n 0, 1) := by decide +kernel
theorem dX1_branch_20 : decode cX1_branch 20 = .ok (.getfield 69, 3) := by decide +kernel
theorem dX1_branch_23 : decode cX1_branch 23 = .ok (.iload_n 1, 1) := by decide +kernel
theorem dX1_branch_24 : decode cX1_branch 24 = .ok (.invokevirtual 184, 3) := by decide +kernel
theorem dX1_branch_27 : decode cX1_branch 27 = .ok (.ifCond .ne 5, 3) := by decide +kernel
theorem dX1_branch_30 : decode cX1_branch 30 = .ok (.iconst 4, 1) := by decide +kernel
theorem dX1_branch_31 : decode cX1_branch 31 = .ok (.ireturn, 1) := by decide +kernel
theorem dX1_branch_32 : decode cX1_branch 32 = .ok (.aload_n 0, 1) := by decide +kernel
theorem dX1_branch_33 : decode cX1_branch 33 = .ok (.getfield 21, 3) := by decide +kernel
theorem dX1_branch_36 : decode cX1_branch 36 = .ok (.invokevirtual 206, 3) := by decide +kernel
theorem dX1_branch_39 : decode cX1_branch 39 = .ok (.ifCond .ne 12, 3) := by decide +kernel
theorem dX1_branch_42 : decode cX1_branch 42 = .ok (.aload_n 0, 1) := by decide +kernel
theorem dX1_branch_43 : decode cX1_branch 43 = .ok (.getfield 103, 3) := by decide +kernel
theorem dX1_branch_46 : decode cX1_branch 46 = .ok (.bipush 40, 2) := by decide +kernel
theorem dX1_branch_48 : decode cX1_branch 48 = .ok (.if_icmp .lt 6, 3) := by decide +kernel
theorem dX1_branch_51 : decode cX1_branch 51 = .ok (.bipush 6, 2) := by decide +kernel
theorem dX1_branch_53 : decode cX1_branch 53 = .ok (.ireturn, 1) := by decide +kernel
theorem dX1_branch_54 : decode cX1_branch 54 = .ok (.aload_n 0, 1) := by decide +kernel
theorem dX1_branch_55 : decode cX1_branch 55 = .ok (.getfield 57, 3) := by decide +kernel
theorem dX1_branch_58 : decode cX1_branch 58 = .ok (.aload_n 0, 1) := by decide +kernel
theorem dX1_branch_59 : decode cX1_branch 59 = .ok (.getfield 103, 3) := by decide +kernel
theorem dX1_branch_62 : decode cX1_branch 62 = .ok (.aload_n 0, 1) := by decide +kernel
theorem dX1_branch_63 : decode cX1_branch 63 = .ok (.getfield 21, 3) := by decide +kernel
theorem dX1_branch_66 : decode cX1_branch 66 = .ok (.invokevirtual 209, 3) := by decide +kernel
theorem dX1_branch_69 : decode cX1_branch 69 = .ok (.iastore, 1) := by decide +kernel
theorem dX1_branch_70 : decode cX1_branch 70 = .ok (.aload_n 0, 1) := by decide +kernel
theorem dX1_branch_71 : decode cX1_branch 71 = .ok (.getfield 60, 3) := by decide +kernel
theorem dX1_branch_74 : decode cX1_branch 74 = .ok (.aload_n 0, 1) := by decide +kernel
theorem dX1_branch_75 : decode cX1_branch 75 = .ok (.getfield 103, 3) := by decide +kernel
theorem dX1_branch_78 : decode cX1_branch 78 = .ok (.iload_n 1, 1) := by decide +kernel
theorem dX1_branch_79 : decode cX1_branch 79 = .ok (.iastore, 1) := by decide +kernel
theorem dX1_branch_80 : decode cX1_branch 80 = .ok (.aload_n 0, 1) := by decide +kernel
theorem dX1_branch_81 : decode cX1_branch 81 = .ok (.getfield 48, 3) := by decide +kernel
theorem dX1_branch_84 : decode cX1_branch 84 = .ok (.aload_n 0, 1) := by decide +kernel
theorem dX1_branch_85 : decode cX1_branch 85 = .ok (.getfield 63, 3) := by decide +kernel
theorem dX1_branch_88 : decode cX1_branch 88 = .ok (.aload_n 0, 1) := by decide +kernel
theorem dX1_branch_89 : decode cX1_branch 89 = .ok (.getfield 103, 3) := by decide +kernel
theorem dX1_branch_92 : decode cX1_branch 92 = .ok (.bipush 8, 2) := by decide +kernel
theorem dX1_branch_94 : decode cX1_branch 94 = .ok (.imul, 1) := by decide +kernel
theorem dX1_branch_95 : decode cX1_branch 95 = .ok (.invokevirtual 149, 3) := by decide +kernel
theorem dX1_branch_98 : decode cX1_branch 98 = .ok (.aload_n 0, 1) := by decide +kernel
theorem dX1_branch_99 : decode cX1_branch 99 = .ok (.dup, 1) := by decide +kernel
theorem dX1_branch_100 : decode cX1_branch 100 = .ok (.getfield 103, 3) := by decide +kernel
theorem dX1_branch_103 : decode cX1_branch 103 = .ok (.iconst 1, 1) := by decide +kernel
theorem dX1_branch_104 : decode cX1_branch 104 = .ok (.iadd, 1) := by decide +kernel
theorem dX1_branch_105 : decode cX1_branch 105 = .ok (.putfield 103, 3) := by decide +kernel
theorem dX1_branch_108 : decode cX1_branch 108 = .ok (.aload_n 0, 1) := by decide +kernel
theorem dX1_branch_109 : decode cX1_branch 109 = .ok (.getfield 21, 3) := by decide +kernel
theorem dX1_branch_112 : decode cX1_branch 112 = .ok (.iload_n 1, 1) := by decide +kernel
theorem dX1_branch_113 : decode cX1_branch 113 = .ok (.aload_n 0, 1) := by decide +kernel
theorem dX1_branch_114 : decode cX1_branch 114 = .ok (.getfield 48, 3) := by decide +kernel
theorem dX1_branch_117 : decode cX1_branch 117 = .ok (.iconst 0, 1) := by decide +kernel
theorem dX1_branch_118 : decode cX1_branch 118 = .ok (.invokevirtual 212, 3) := by decide +kernel
theorem dX1_branch_121 : decode cX1_branch 121 = .ok (.iconst 0, 1) := by decide +kernel
theorem dX1_branch_122 : decode cX1_branch 122 = .ok (.ireturn, 1) := by decide +kernel
theorem dX1_fail_0 : decode cX1_fail 0 = .ok (.aload_n 0, 1) := by decide +kernel
theorem dX1_fail_1 : decode cX1_fail 1 = .ok (.iload_n 1, 1) := by decide +kernel
theorem dX1_fail_2 : decode cX1_fail 2 = .ok (.putfield 77, 3) := by decide +kernel
theorem dX1_fail_5 : decode cX1_fail 5 = .ok (.aload_n 0, 1) := by decide +kernel
theorem dX1_fail_6 : decode cX1_fail 6 = .ok (.iload_n 2, 1) := by decide +kernel
theorem dX1_fail_7 : decode cX1_fail 7 = .ok (.putfield 73, 3) := by decide +kernel
theorem dX1_fail_10 : decode cX1_fail 10 = .ok (.iconst 0, 1) := by decide +kernel
theorem dX1_fail_11 : decode cX1_fail 11 = .ok (.ireturn, 1) := by decide +kernel
theorem dX1_faultPlace_0 : decode cX1_faultPlace 0 = .ok (.aload_n 0, 1) := by decide +kernel
theorem dX1_faultPlace_1 : decode cX1_faultPlace 1 = .ok (.getfield 73, 3) := by decide +kernel
theorem dX1_faultPlace_4 : decode cX1_faultPlace 4 = .ok (.ireturn, 1) := by decide +kernel
theorem dX1_hold_0 : decode cX1_hold 0 = .ok (.aload_n 0, 1) := by decide +kernel
theorem dX1_hold_1 : decode cX1_hold 1 = .ok (.aload_n 2, 1) := by decide +kernel
theorem dX1_hold_2 : decode cX1_hold 2 = .ok (.putfield 69, 3) := by decide +kernel
theorem dX1_hold_5 : decode cX1_hold 5 = .ok (.aload_n 0, 1) := by decide +kernel
theorem dX1_hold_6 : decode cX1_hold 6 = .ok (.iconst 0, 1) := by decide +kernel
theorem dX1_hold_7 : decode cX1_hold 7 = .ok (.putfield 77, 3) := by decide +kernel
theorem dX1_hold_10 : decode cX1_hold 10 = .ok (.aload_n 0, 1) := by decide +kernel
theorem dX1_hold_11 : decode cX1_hold 11 = .ok (.iconst (-1), 1) := by decide +kernel
theorem dX1_hold_12 : decode cX1_hold 12 = .ok (.putfield 73, 3) := by decide +kernel
theorem dX1_hold_15 : decode cX1_hold 15 = .ok (.aload_n 0, 1) := by decide +kernel
theorem dX1_hold_16 : decode cX1_hold 16 = .ok (.getfield 12, 3) := by decide +kernel
theorem dX1_hold_19 : decode cX1_hold 19 = .ok (.aload_n 1, 1) := by decide +kernel
theorem dX1_hold_20 : decode cX1_hold 20 = .ok (.invokevirtual 80, 3) := by decide +kernel
theorem dX1_hold_23 : decode cX1_hold 23 = .ok (.aload_n 0, 1) := by decide +kernel
theorem dX1_hold_24 : decode cX1_hold 24 = .ok (.getfield 12, 3) := by decide +kernel
theorem dX1_hold_27 : decode cX1_hold 27 = .ok (.aload_n 0, 1) := by decide +kernel
theorem dX1_hold_28 : decode cX1_hold 28 = .ok (.getfield 69, 3) := by decide +kernel
theorem dX1_hold_31 : decode cX1_hold 31 = .ok (.getfield 84, 3) := by decide +kernel
theorem dX1_hold_34 : decode cX1_hold 34 = .ok (.invokevirtual 87, 3) := by decide +kernel
theorem dX1_hold_37 : decode cX1_hold 37 = .ok (.ifCond .ne 21, 3) := by decide +kernel
theorem dX1_hold_40 : decode cX1_hold 40 = .ok (.aload_n 0, 1) := by decide +kernel
theorem dX1_hold_41 : decode cX1_hold 41 = .ok (.iconst 1, 1) := by decide +kernel
theorem dX1_hold_42 : decode cX1_hold 42 = .ok (.aload_n 0, 1) := by decide +kernel
theorem dX1_hold_43 : decode cX1_hold 43 = .ok (.getfield 12, 3) := by decide +kernel
theorem dX1_hold_46 : decode cX1_hold 46 = .ok (.invokevirtual 91, 3) := by decide +kernel
theorem dX1_hold_49 : decode cX1_hold 49 = .ok (.invokevirtual 95, 3) := by decide +kernel
theorem dX1_hold_52 : decode cX1_hold 52 = .ok (.pop, 1) := by decide +kernel
theorem dX1_hold_53 : decode cX1_hold 53 = .ok (.aload_n 0, 1) := by decide +kernel
theorem dX1_hold_54 : decode cX1_hold 54 = .ok (.getfield 77, 3) := by decide +kernel
theorem dX1_hold_57 : decode cX1_hold 57 = .ok (.ireturn, 1) := by decide +kernel
theorem dX1_hold_58 : decode cX1_hold 58 = .ok (.aload_n 0, 1) := by decide +kernel
theorem dX1_hold_59 : decode cX1_hold 59 = .ok (.getfield 21, 3) := by decide +kernel
theorem dX1_hold_62 : decode cX1_hold 62 = .ok (.aload_n 0, 1) := by decide +kernel
theorem dX1_hold_63 : decode cX1_hold 63 = .ok (.getfield 69, 3) := by decide +kernel
theorem dX1_hold_66 : decode cX1_hold 66 = .ok (.invokevirtual 99, 3) := by decide +kernel
theorem dX1_hold_69 : decode cX1_hold 69 = .ok (.aload_n 0, 1) := by decide +kernel
theorem dX1_hold_70 : decode cX1_hold 70 = .ok (.iconst 0, 1) := by decide +kernel
theorem dX1_hold_71 : decode cX1_hold 71 = .ok (.putfield 103, 3) := by decide +kernel
theorem dX1_hold_74 : decode cX1_hold 74 = .ok (.aload_n 0, 1) := by decide +kernel
theorem dX1_hold_75 : decode cX1_hold 75 = .ok (.getfield 12, 3) := by decide +kernel
theorem dX1_hold_78 : decode cX1_hold 78 = .ok (.invokevirtual 106, 3) := by decide +kernel
theorem dX1_hold_81 : decode cX1_hold 81 = .ok (.aload_n 0, 1) := by decide +kernel
theorem dX1_hold_82 : decode cX1_hold 82 = .ok (.getfield 12, 3) := by decide +kernel
theorem dX1_hold_85 : decode cX1_hold 85 = .ok (.invokevirtual 109, 3) := by decide +kernel
theorem dX1_hold_88 : decode cX1_hold 88 = .ok (.istore_n 3, 1) := by decide +kernel
theorem dX1_hold_89 : decode cX1_hold 89 = .ok (.iload_n 3, 1) := by decide +kernel
theorem dX1_hold_90 : decode cX1_hold 90 = .ok (.bipush 9, 2) := by decide +kernel
theorem dX1_hold_92 : decode cX1_hold 92 = .ok (.if_icmp .ne 13, 3) := by decide +kernel
theorem dX1_hold_95 : decode cX1_hold 95 = .ok (.aload_n 0, 1) := by decide +kernel
theorem dX1_hold_96 : decode cX1_hold 96 = .ok (.invokevirtual 112, 3) := by decide +kernel
theorem dX1_hold_99 : decode cX1_hold 99 = .ok (.pop, 1) := by decide +kernel
theorem dX1_hold_100 : decode cX1_hold 100 = .ok (.aload_n 0, 1) := by decide +kernel
theorem dX1_hold_101 : decode cX1_hold 101 = .ok (.getfield 77, 3) := by decide +kernel
theorem dX1_hold_104 : decode cX1_hold 104 = .ok (.ireturn, 1) := by decide +kernel
theorem dX1_hold_105 : decode cX1_hold 105 = .ok (.iload_n 3, 1) := by decide +kernel
theorem dX1_hold_106 : decode cX1_hold 106 = .ok (.bipush 7, 2) := by decide +kernel
theorem dX1_hold_108 : decode cX1_hold 108 = .ok (.if_icmp .ne 11, 3) := by decide +kernel
theorem dX1_hold_111 : decode cX1_hold 111 = .ok (.aload_n 0, 1) := by decide +kernel
theorem dX1_hold_112 : decode cX1_hold 112 = .ok (.invokevirtual 116, 3) := by decide +kernel
theorem dX1_hold_115 : decode cX1_hold 115 = .ok (.pop, 1) := by decide +kernel
theorem dX1_hold_116 : decode cX1_hold 116 = .ok (.goto 10, 3) := by decide +kernel
theorem dX1_hold_119 : decode cX1_hold 119 = .ok (.aload_n 0, 1) := by decide +kernel
theorem dX1_hold_120 : decode cX1_hold 120 = .ok (.getfield 12, 3) := by decide +kernel
theorem dX1_hold_123 : decode cX1_hold 123 = .ok (.invokevirtual 119, 3) := by decide +kernel
theorem dX1_hold_126 : decode cX1_hold 126 = .ok (.aload_n 0, 1) := by decide +kernel
theorem dX1_hold_127 : decode cX1_hold 127 = .ok (.getfield 77, 3) := by decide +kernel
theorem dX1_hold_130 : decode cX1_hold 130 = .ok (.ifCond .ne 19, 3) := by decide +kernel
theorem dX1_hold_133 : decode cX1_hold 133 = .ok (.aload_n 0, 1) := by decide +kernel
theorem dX1_hold_134 : decode cX1_hold 134 = .ok (.iload_n 3, 1) := by decide +kernel
theorem dX1_hold_135 : decode cX1_hold 135 = .ok (.bipush 7, 2) := by decide +kernel
theorem dX1_hold_137 : decode cX1_hold 137 = .ok (.if_icmp .ne 7, 3) := by decide +kernel
theorem dX1_hold_140 : decode cX1_hold 140 = .ok (.iconst 1, 1) := by decide +kernel
theorem dX1_hold_141 : decode cX1_hold 141 = .ok (.goto 4, 3) := by decide +kernel
theorem dX1_hold_144 : decode cX1_hold 144 = .ok (.iconst 0, 1) := by decide +kernel
theorem dX1_hold_145 : decode cX1_hold 145 = .ok (.invokevirtual 122, 3) := by decide +kernel
theorem dX1_hold_148 : decode cX1_hold 148 = .ok (.pop, 1) := by decide +kernel
theorem dX1_hold_149 : decode cX1_hold 149 = .ok (.aload_n 0, 1) := by decide +kernel
theorem dX1_hold_150 : decode cX1_hold 150 = .ok (.getfield 77, 3) := by decide +kernel
theorem dX1_hold_153 : decode cX1_hold 153 = .ok (.ireturn, 1) := by decide +kernel
theorem dX1_holdOptimal_0 : decode cX1_holdOptimal 0 = .ok (.aload_n 0, 1) := by decide +kernel
theorem dX1_holdOptimal_1 : decode cX1_holdOptimal 1 = .ok (.getfield 12, 3) := by decide +kernel
theorem dX1_holdOptimal_4 : decode cX1_holdOptimal 4 = .ok (.invokevirtual 91, 3) := by decide +kernel
theorem dX1_holdOptimal_7 : decode cX1_holdOptimal 7 = .ok (.istore_n 1, 1) := by decide +kernel
theorem dX1_holdOptimal_8 : decode cX1_holdOptimal 8 = .ok (.aload_n 0, 1) := by decide +kernel
theorem dX1_holdOptimal_9 : decode cX1_holdOptimal 9 = .ok (.getfield 12, 3) := by decide +kernel
theorem dX1_holdOptimal_12 : decode cX1_holdOptimal 12 = .ok (.invokevirtual 119, 3) := by decide +kernel
theorem dX1_holdOptimal_15 : decode cX1_holdOptimal 15 = .ok (.aload_n 0, 1) := by decide +kernel
theorem dX1_holdOptimal_16 : decode cX1_holdOptimal 16 = .ok (.getfield 12, 3) := by decide +kernel
theorem dX1_holdOptimal_19 : decode cX1_holdOptimal 19 = .ok (.aload_n 0, 1) := by decide +kernel
theorem dX1_holdOptimal_20 : decode cX1_holdOptimal 20 = .ok (.getfield 32, 3) := by decide +kernel
theorem dX1_holdOptimal_23 : decode cX1_holdOptimal 23 = .ok (.invokevirtual 126, 3) := by decide +kernel
theorem dX1_holdOptimal_26 : decode cX1_holdOptimal 26 = .ok (.aload_n 0, 1) := by decide +kernel
theorem dX1_holdOptimal_27 : decode cX1_holdOptimal 27 = .ok (.getfield 12, 3) := by decide +kernel
theorem dX1_holdOptimal_30 : decode cX1_holdOptimal 30 = .ok (.invokevirtual 119, 3) := by decide +kernel
theorem dX1_holdOptimal_33 : decode cX1_holdOptimal 33 = .ok (.aload_n 0, 1) := by decide +kernel
theorem dX1_holdOptimal_34 : decode cX1_holdOptimal 34 = .ok (.getfield 12, 3) := by decide +kernel
theorem dX1_holdOptimal_37 : decode cX1_holdOptimal 37 = .ok (.aload_n 0, 1) := by decide +kernel
theorem dX1_holdOptimal_38 : decode cX1_holdOptimal 38 = .ok (.getfield 36, 3) := by decide +kernel
theorem dX1_holdOptimal_41 : decode cX1_holdOptimal 41 = .ok (.invokevirtual 126, 3) := by decide +kernel
theorem dX1_holdOptimal_44 : decode cX1_holdOptimal 44 = .ok (.aload_n 0, 1) := by decide +kernel
theorem dX1_holdOptimal_45 : decode cX1_holdOptimal 45 = .ok (.getfield 69, 3) := by decide +kernel
theorem dX1_holdOptimal_48 : decode cX1_holdOptimal 48 = .ok (.getfield 130, 3) := by decide +kernel
theorem dX1_holdOptimal_51 : decode cX1_holdOptimal 51 = .ok (.ifCond .ne 10, 3) := by decide +kernel
theorem dX1_holdOptimal_54 : decode cX1_holdOptimal 54 = .ok (.aload_n 0, 1) := by decide +kernel
theorem dX1_holdOptimal_55 : decode cX1_holdOptimal 55 = .ok (.getfield 32, 3) := by decide +kernel
theorem dX1_holdOptimal_58 : decode cX1_holdOptimal 58 = .ok (.invokevirtual 134, 3) := by decide +kernel
theorem dX1_holdOptimal_61 : decode cX1_holdOptimal 61 = .ok (.aload_n 0, 1) := by decide +kernel
theorem dX1_holdOptimal_62 : decode cX1_holdOptimal 62 = .ok (.getfield 12, 3) := by decide +kernel
theorem dX1_holdOptimal_65 : decode cX1_holdOptimal 65 = .ok (.invokevirtual 91, 3) := by decide +kernel
theorem dX1_holdOptimal_68 : decode cX1_holdOptimal 68 = .ok (.istore_n 2, 1) := by decide +kernel
theorem dX1_holdOptimal_69 : decode cX1_holdOptimal 69 = .ok (.aload_n 0, 1) := by decide +kernel
theorem dX1_holdOptimal_70 : decode cX1_holdOptimal 70 = .ok (.invokevirtual 137, 3) := by decide +kernel
theorem dX1_holdOptimal_73 : decode cX1_holdOptimal 73 = .ok (.aload_n 0, 1) := by decide +kernel
theorem dX1_holdOptimal_74 : decode cX1_holdOptimal 74 = .ok (.invokevirtual 140, 3) := by decide +kernel
theorem dX1_holdOptimal_77 : decode cX1_holdOptimal 77 = .ok (.ifCond .ne 10, 3) := by decide +kernel
theorem dX1_holdOptimal_80 : decode cX1_holdOptimal 80 = .ok (.aload_n 0, 1) := by decide +kernel
theorem dX1_holdOptimal_81 : decode cX1_holdOptimal 81 = .ok (.iconst 3, 1) := by decide +kernel
theorem dX1_holdOptimal_82 : decode cX1_holdOptimal 82 = .ok (.iload_n 1, 1) := by decide +kernel
theorem dX1_holdOptimal_83 : decode cX1_holdOptimal 83 = .ok (.invokevirtual 95, 3) := by decide +kernel
theorem dX1_holdOptimal_86 : decode cX1_holdOptimal 86 = .ok (.ireturn, 1) := by decide +kernel
theorem dX1_holdOptimal_87 : decode cX1_holdOptimal 87 = .ok (.aload_n 0, 1) := by decide +kernel
theorem dX1_holdOptimal_88 : decode cX1_holdOptimal 88 = .ok (.iconst 1, 1) := by decide +kernel
theorem dX1_holdOptimal_89 : decode cX1_holdOptimal 89 = .ok (.invokevirtual 143, 3) := by decide +kernel
theorem dX1_holdOptimal_92 : decode cX1_holdOptimal 92 = .ok (.ifCond .ne 12, 3) := by decide +kernel
theorem dX1_holdOptimal_95 : decode cX1_holdOptimal 95 = .ok (.aload_n 0, 1) := by decide +kernel
theorem dX1_holdOptimal_96 : decode cX1_holdOptimal 96 = .ok (.iconst 2, 1) := by decide +kernel
theorem dX1_holdOptimal_97 : decode cX1_holdOptimal 97 = .ok (.iload_n 2, 1) := by decide +kernel
theorem dX1_holdOptimal_98 : decode cX1_holdOptimal 98 = .ok (.invokevirtual 95, 3) := by decide +kernel
theorem dX1_holdOptimal_101 : decode cX1_holdOptimal 101 = .ok (.ifCond .eq 7, 3) := by decide +kernel
theorem dX1_holdOptimal_104 : decode cX1_holdOptimal 104 = .ok (.iconst 1, 1) := by decide +kernel
theorem dX1_holdOptimal_105 : decode cX1_holdOptimal 105 = .ok (.goto 4, 3) := by decide +kernel
theorem dX1_holdOptimal_108 : decode cX1_holdOptimal 108 = .ok (.iconst 0, 1) := by decide +kernel
theorem dX1_holdOptimal_109 : decode cX1_holdOptimal 109 = .ok (.ireturn, 1) := by decide +kernel
theorem dX1_holdTrees_0 : decode cX1_holdTrees 0 = .ok (.iconst 1, 1) := by decide +kernel
theorem dX1_holdTrees_1 : decode cX1_holdTrees 1 = .ok (.istore_n 2, 1) := by decide +kernel
theorem dX1_holdTrees_2 : decode cX1_holdTrees 2 = .ok (.iload_n 2, 1) := by decide +kernel
theorem dX1_holdTrees_3 : decode cX1_holdTrees 3 = .ok (.sipush 3000, 3) := by decide +kernel
theorem dX1_holdTrees_6 : decode cX1_holdTrees 6 = .ok (.if_icmp .gt 93, 3) := by decide +kernel
theorem dX1_holdTrees_9 : decode cX1_holdTrees 9 = .ok (.aload_n 0, 1) := by decide +kernel
theorem dX1_holdTrees_10 : decode cX1_holdTrees 10 = .ok (.getfield 12, 3) := by decide +kernel
theorem dX1_holdTrees_13 : decode cX1_holdTrees 13 = .ok (.invokevirtual 109, 3) := by decide +kernel
theorem dX1_holdTrees_16 : decode cX1_holdTrees 16 = .ok (.istore_n 3, 1) := by decide +kernel
theorem dX1_holdTrees_17 : decode cX1_holdTrees 17 = .ok (.aload_n 0, 1) := by decide +kernel
theorem dX1_holdTrees_18 : decode cX1_holdTrees 18 = .ok (.getfield 12, 3) := by decide +kernel
theorem dX1_holdTrees_21 : decode cX1_holdTrees 21 = .ok (.invokevirtual 91, 3) := by decide +kernel
theorem dX1_holdTrees_24 : decode cX1_holdTrees 24 = .ok (.istore 4, 2) := by decide +kernel
theorem dX1_holdTrees_26 : decode cX1_holdTrees 26 = .ok (.aload_n 0, 1) := by decide +kernel
theorem dX1_holdTrees_27 : decode cX1_holdTrees 27 = .ok (.getfield 12, 3) := by decide +kernel
theorem dX1_holdTrees_30 : decode cX1_holdTrees 30 = .ok (.invokevirtual 119, 3) := by decide +kernel
theorem dX1_holdTrees_33 : decode cX1_holdTrees 33 = .ok (.iload_n 3, 1) := by decide +kernel
theorem dX1_holdTrees_34 : decode cX1_holdTrees 34 = .ok (.bipush 12, 2) := by decide +kernel
theorem dX1_holdTrees_36 : decode cX1_holdTrees 36 = .ok (.if_icmp .ne 10, 3) := by decide +kernel
theorem dX1_holdTrees_39 : decode cX1_holdTrees 39 = .ok (.aload_n 0, 1) := by decide +kernel
theorem dX1_holdTrees_40 : decode cX1_holdTrees 40 = .ok (.invokevirtual 193, 3) := by decide +kernel
theorem dX1_holdTrees_43 : decode cX1_holdTrees 43 = .ok (.goto 9, 3) := by decide +kernel
theorem dX1_holdTrees_46 : decode cX1_holdTrees 46 = .ok (.aload_n 0, 1) := by decide +kernel
theorem dX1_holdTrees_47 : decode cX1_holdTrees 47 = .ok (.iload_n 3, 1) := by decide +kernel
theorem dX1_holdTrees_48 : decode cX1_holdTrees 48 = .ok (.iload_n 1, 1) := by decide +kernel
theorem dX1_holdTrees_49 : decode cX1_holdTrees 49 = .ok (.invokevirtual 196, 3) := by decide +kernel
theorem dX1_holdTrees_52 : decode cX1_holdTrees 52 = .ok (.istore 5, 2) := by decide +kernel
theorem dX1_holdTrees_54 : decode cX1_holdTrees 54 = .ok (.iload 5, 2) := by decide +kernel
theorem dX1_holdTrees_56 : decode cX1_holdTrees 56 = .ok (.ifCond .eq 12, 3) := by decide +kernel
theorem dX1_holdTrees_59 : decode cX1_holdTrees 59 = .ok (.aload_n 0, 1) := by decide +kernel
theorem dX1_holdTrees_60 : decode cX1_holdTrees 60 = .ok (.iload 5, 2) := by decide +kernel
theorem dX1_holdTrees_62 : decode cX1_holdTrees 62 = .ok (.iload 4, 2) := by decide +kernel
theorem dX1_holdTrees_64 : decode cX1_holdTrees 64 = .ok (.invokevirtual 95, 3) := by decide +kernel
theorem dX1_holdTrees_67 : decode cX1_holdTrees 67 = .ok (.ireturn, 1) := by decide +kernel
theorem dX1_holdTrees_68 : decode cX1_holdTrees 68 = .ok (.iload_n 3, 1) := by decide +kernel
theorem dX1_holdTrees_69 : decode cX1_holdTrees 69 = .ok (.bipush 14, 2) := by decide +kernel
theorem dX1_holdTrees_71 : decode cX1_holdTrees 71 = .ok (.if_icmp .eq 9, 3) := by decide +kernel
theorem dX1_holdTrees_74 : decode cX1_holdTrees 74 = .ok (.iload_n 3, 1) := by decide +kernel
theorem dX1_holdTrees_75 : decode cX1_holdTrees 75 = .ok (.bipush 15, 2) := by decide +kernel
theorem dX1_holdTrees_77 : decode cX1_holdTrees 77 = .ok (.if_icmp .ne 16, 3) := by decide +kernel
theorem dX1_holdTrees_80 : decode cX1_holdTrees 80 = .ok (.aload_n 0, 1) := by decide +kernel
theorem dX1_holdTrees_81 : decode cX1_holdTrees 81 = .ok (.getfield 103, 3) := by decide +kernel
theorem dX1_holdTrees_84 : decode cX1_holdTrees 84 = .ok (.ifCond .ne 5, 3) := by decide +kernel
theorem dX1_holdTrees_87 : decode cX1_holdTrees 87 = .ok (.iconst 1, 1) := by decide +kernel
theorem dX1_holdTrees_88 : decode cX1_holdTrees 88 = .ok (.ireturn, 1) := by decide +kernel
theorem dX1_holdTrees_89 : decode cX1_holdTrees 89 = .ok (.aload_n 0, 1) := by decide +kernel
theorem dX1_holdTrees_90 : decode cX1_holdTrees 90 = .ok (.invokevirtual 200, 3) := by decide +kernel
theorem dX1_holdTrees_93 : decode cX1_holdTrees 93 = .ok (.iinc 2 1, 3) := by decide +kernel
theorem dX1_holdTrees_96 : decode cX1_holdTrees 96 = .ok (.goto (-94), 3) := by decide +kernel
theorem dX1_holdTrees_99 : decode cX1_holdTrees 99 = .ok (.aload_n 0, 1) := by decide +kernel
theorem dX1_holdTrees_100 : decode cX1_holdTrees 100 = .ok (.bipush 6, 2) := by decide +kernel
theorem dX1_holdTrees_102 : decode cX1_holdTrees 102 = .ok (.aload_n 0, 1) := by decide +kernel
theorem dX1_holdTrees_103 : decode cX1_holdTrees 103 = .ok (.getfield 12, 3) := by decide +kernel
theorem dX1_holdTrees_106 : decode cX1_holdTrees 106 = .ok (.invokevirtual 91, 3) := by decide +kernel
theorem dX1_holdTrees_109 : decode cX1_holdTrees 109 = .ok (.invokevirtual 95, 3) := by decide +kernel
theorem dX1_holdTrees_112 : decode cX1_holdTrees 112 = .ok (.ireturn, 1) := by decide +kernel
theorem dX1_holdUnbounded_0 : decode cX1_holdUnbounded 0 = .ok (.aload_n 0, 1) := by decide +kernel
theorem dX1_holdUnbounded_1 : decode cX1_holdUnbounded 1 = .ok (.getfield 12, 3) := by decide +kernel
theorem dX1_holdUnbounded_4 : decode cX1_holdUnbounded 4 = .ok (.invokevirtual 119, 3) := by decide +kernel
theorem dX1_holdUnbounded_7 : decode cX1_holdUnbounded 7 = .ok (.aload_n 0, 1) := by decide +kernel
theorem dX1_holdUnbounded_8 : decode cX1_holdUnbounded 8 = .ok (.getfield 12, 3) := by decide +kernel
theorem dX1_holdUnbounded_11 : decode cX1_holdUnbounded 11 = .ok (.invokevirtual 91, 3) := by decide +kernel
theorem dX1_holdUnbounded_14 : decode cX1_holdUnbounded 14 = .ok (.istore_n 1, 1) := by decide +kernel
theorem dX1_holdUnbounded_15 : decode cX1_holdUnbounded 15 = .ok (.aload_n 0, 1) := by decide +kernel
theorem dX1_holdUnbounded_16 : decode cX1_holdUnbounded 16 = .ok (.invokevirtual 137, 3) := by decide +kernel
theorem dX1_holdUnbounded_19 : decode cX1_holdUnbounded 19 = .ok (.aload_n 0, 1) := by decide +kernel
theorem dX1_holdUnbounded_20 : decode cX1_holdUnbounded 20 = .ok (.iconst 0, 1) := by decide +kernel
theorem dX1_holdUnbounded_21 : decode cX1_holdUnbounded 21 = .ok (.invokevirtual 143, 3) := by decide +kernel
theorem dX1_holdUnbounded_24 : decode cX1_holdUnbounded 24 = .ok (.ifCond .ne 10, 3) := by decide +kernel
theorem dX1_holdUnbounded_27 : decode cX1_holdUnbounded 27 = .ok (.aload_n 0, 1) := by decide +kernel
theorem dX1_holdUnbounded_28 : decode cX1_holdUnbounded 28 = .ok (.iconst 2, 1) := by decide +kernel
theorem dX1_holdUnbounded_29 : decode cX1_holdUnbounded 29 = .ok (.iload_n 1, 1) := by decide +kernel
theorem dX1_holdUnbounded_30 : decode cX1_holdUnbounded 30 = .ok (.invokevirtual 95, 3) := by decide +kernel
theorem dX1_holdUnbounded_33 : decode cX1_holdUnbounded 33 = .ok (.ireturn, 1) := by decide +kernel
theorem dX1_holdUnbounded_34 : decode cX1_holdUnbounded 34 = .ok (.aload_n 0, 1) := by decide +kernel
theorem dX1_holdUnbounded_35 : decode cX1_holdUnbounded 35 = .ok (.getfield 12, 3) := by decide +kernel
theorem dX1_holdUnbounded_38 : decode cX1_holdUnbounded 38 = .ok (.invokevirtual 91, 3) := by decide +kernel
theorem dX1_holdUnbounded_41 : decode cX1_holdUnbounded 41 = .ok (.istore_n 2, 1) := by decide +kernel
theorem dX1_holdUnbounded_42 : decode cX1_holdUnbounded 42 = .ok (.aload_n 0, 1) := by decide +kernel
theorem dX1_holdUnbounded_43 : decode cX1_holdUnbounded 43 = .ok (.invokevirtual 137, 3) := by decide +kernel
theorem dX1_holdUnbounded_46 : decode cX1_holdUnbounded 46 = .ok (.aload_n 0, 1) := by decide +kernel
theorem dX1_holdUnbounded_47 : decode cX1_holdUnbounded 47 = .ok (.invokevirtual 146, 3) := by decide +kernel
theorem dX1_holdUnbounded_50 : decode cX1_holdUnbounded 50 = .ok (.ifCond .ne 12, 3) := by decide +kernel
theorem dX1_holdUnbounded_53 : decode cX1_holdUnbounded 53 = .ok (.aload_n 0, 1) := by decide +kernel
theorem dX1_holdUnbounded_54 : decode cX1_holdUnbounded 54 = .ok (.iconst 5, 1) := by decide +kernel
theorem dX1_holdUnbounded_55 : decode cX1_holdUnbounded 55 = .ok (.iload_n 2, 1) := by decide +kernel
theorem dX1_holdUnbounded_56 : decode cX1_holdUnbounded 56 = .ok (.invokevirtual 95, 3) := by decide +kernel
theorem dX1_holdUnbounded_59 : decode cX1_holdUnbounded 59 = .ok (.ifCond .eq 7, 3) := by decide +kernel
theorem dX1_holdUnbounded_62 : decode cX1_holdUnbounded 62 = .ok (.iconst 1, 1) := by decide +kernel
theorem dX1_holdUnbounded_63 : decode cX1_holdUnbounded 63 = .ok (.goto 4, 3) := by decide +kernel
theorem dX1_holdUnbounded_66 : decode cX1_holdUnbounded 66 = .ok (.iconst 0, 1) := by decide +kernel
theorem dX1_holdUnbounded_67 : decode cX1_holdUnbounded 67 = .ok (.ireturn, 1) := by decide +kernel
theorem dX1_isAlong_0 : decode cX1_isAlong 0 = .ok (.iconst 1, 1) := by decide +kernel
theorem dX1_isAlong_1 : decode cX1_isAlong 1 = .ok (.istore_n 1, 1) := by decide +kernel
theorem dX1_isAlong_2 : decode cX1_isAlong 2 = .ok (.iload_n 1, 1) := by decide +kernel
theorem dX1_isAlong_3 : decode cX1_isAlong 3 = .ok (.aload_n 0, 1) := by decide +kernel
theorem dX1_isAlong_4 : decode cX1_isAlong 4 = .ok (.getfield 69, 3) := by decide +kernel
theorem dX1_isAlong_7 : decode cX1_isAlong 7 = .ok (.getfield 84, 3) := by decide +kernel
theorem dX1_isAlong_10 : decode cX1_isAlong 10 = .ok (.if_icmp .gt 36, 3) := by decide +kernel
theorem dX1_isAlong_13 : decode cX1_isAlong 13 = .ok (.aload_n 0, 1) := by decide +kernel
theorem dX1_isAlong_14 : decode cX1_isAlong 14 = .ok (.getfield 48, 3) := by decide +kernel
theorem dX1_isAlong_17 : decode cX1_isAlong 17 = .ok (.aload_n 0, 1) := by decide +kernel
theorem dX1_isAlong_18 : decode cX1_isAlong 18 = .ok (.getfield 27, 3) := by decide +kernel
theorem dX1_isAlong_21 : decode cX1_isAlong 21 = .ok (.iload_n 1, 1) := by decide +kernel
theorem dX1_isAlong_22 : decode cX1_isAlong 22 = .ok (.bipush 8, 2) := by decide +kernel
theorem dX1_isAlong_24 : decode cX1_isAlong 24 = .ok (.imul, 1) := by decide +kernel
theorem dX1_isAlong_25 : decode cX1_isAlong 25 = .ok (.invokevirtual 157, 3) := by decide +kernel
theorem dX1_isAlong_28 : decode cX1_isAlong 28 = .ok (.aload_n 0, 1) := by decide +kernel
theorem dX1_isAlong_29 : decode cX1_isAlong 29 = .ok (.getfield 48, 3) := by decide +kernel
theorem dX1_isAlong_32 : decode cX1_isAlong 32 = .ok (.getfield 181, 3) := by decide +kernel
theorem dX1_isAlong_35 : decode cX1_isAlong 35 = .ok (.ifCond .ge 5, 3) := by decide +kernel
theorem dX1_isAlong_38 : decode cX1_isAlong 38 = .ok (.iconst 0, 1) := by decide +kernel
theorem dX1_isAlong_39 : decode cX1_isAlong 39 = .ok (.ireturn, 1) := by decide +kernel
theorem dX1_isAlong_40 : decode cX1_isAlong 40 = .ok (.iinc 1 1, 3) := by decide +kernel
theorem dX1_isAlong_43 : decode cX1_isAlong 43 = .ok (.goto (-41), 3) := by decide +kernel
theorem dX1_isAlong_46 : decode cX1_isAlong 46 = .ok (.iconst 1, 1) := by decide +kernel
theorem dX1_isAlong_47 : decode cX1_isAlong 47 = .ok (.istore_n 1, 1) := by decide +kernel
theorem dX1_isAlong_48 : decode cX1_isAlong 48 = .ok (.iload_n 1, 1) := by decide +kernel
theorem dX1_isAlong_49 : decode cX1_isAlong 49 = .ok (.aload_n 0, 1) := by decide +kernel
theorem dX1_isAlong_50 : decode cX1_isAlong 50 = .ok (.getfield 69, 3) := by decide +kernel
theorem dX1_isAlong_53 : decode cX1_isAlong 53 = .ok (.getfield 191, 3) := by decide +kernel
theorem dX1_isAlong_56 : decode cX1_isAlong 56 = .ok (.if_icmp .gt 26, 3) := by decide +kernel
theorem dX1_isAlong_59 : decode cX1_isAlong 59 = .ok (.aload_n 0, 1) := by decide +kernel
theorem dX1_isAlong_60 : decode cX1_isAlong 60 = .ok (.iload_n 1, 1) := by decide +kernel
theorem dX1_isAlong_61 : decode cX1_isAlong 61 = .ok (.invokevirtual 170, 3) := by decide +kernel
theorem dX1_isAlong_64 : decode cX1_isAlong 64 = .ok (.aload_n 0, 1) := by decide +kernel
theorem dX1_isAlong_65 : decode cX1_isAlong 65 = .ok (.getfield 42, 3) := by decide +kernel
theorem dX1_isAlong_68 : decode cX1_isAlong 68 = .ok (.getfield 181, 3) := by decide +kernel
theorem dX1_isAlong_71 : decode cX1_isAlong 71 = .ok (.ifCond .le 5, 3) := by decide +kernel
theorem dX1_isAlong_74 : decode cX1_isAlong 74 = .ok (.iconst 0, 1) := by decide +kernel
theorem dX1_isAlong_75 : decode cX1_isAlong 75 = .ok (.ireturn, 1) := by decide +kernel
theorem dX1_isAlong_76 : decode cX1_isAlong 76 = .ok (.iinc 1 1, 3) := by decide +kernel
theorem dX1_isAlong_79 : decode cX1_isAlong 79 = .ok (.goto (-31), 3) := by decide +kernel
theorem dX1_isAlong_82 : decode cX1_isAlong 82 = .ok (.aload_n 0, 1) := by decide +kernel
theorem dX1_isAlong_83 : decode cX1_isAlong 83 = .ok (.iconst 0, 1) := by decide +kernel
theorem dX1_isAlong_84 : decode cX1_isAlong 84 = .ok (.invokevirtual 170, 3) := by decide +kernel
theorem dX1_isAlong_87 : decode cX1_isAlong 87 = .ok (.aload_n 0, 1) := by decide +kernel
theorem dX1_isAlong_88 : decode cX1_isAlong 88 = .ok (.getfield 42, 3) := by decide +kernel
theorem dX1_isAlong_91 : decode cX1_isAlong 91 = .ok (.getfield 181, 3) := by decide +kernel
theorem dX1_isAlong_94 : decode cX1_isAlong 94 = .ok (.ifCond .le 7, 3) := by decide +kernel
theorem dX1_isAlong_97 : decode cX1_isAlong 97 = .ok (.iconst 1, 1) := by decide +kernel
theorem dX1_isAlong_98 : decode cX1_isAlong 98 = .ok (.goto 4, 3) := by decide +kernel
theorem dX1_isAlong_101 : decode cX1_isAlong 101 = .ok (.iconst 0, 1) := by decide +kernel
theorem dX1_isAlong_102 : decode cX1_isAlong 102 = .ok (.ireturn, 1) := by decide +kernel
theorem dX1_isBound_0 : decode cX1_isBound 0 = .ok (.iconst 1, 1) := by decide +kernel
theorem dX1_isBound_1 : decode cX1_isBound 1 = .ok (.istore_n 1, 1) := by decide +kernel
theorem dX1_isBound_2 : decode cX1_isBound 2 = .ok (.iload_n 1, 1) := by decide +kernel
theorem dX1_isBound_3 : decode cX1_isBound 3 = .ok (.aload_n 0, 1) := by decide +kernel
theorem dX1_isBound_4 : decode cX1_isBound 4 = .ok (.getfield 69, 3) := by decide +kernel
theorem dX1_isBound_7 : decode cX1_isBound 7 = .ok (.getfield 84, 3) := by decide +kernel
theorem dX1_isBound_10 : decode cX1_isBound 10 = .ok (.if_icmp .gt 65, 3) := by decide +kernel
theorem dX1_isBound_13 : decode cX1_isBound 13 = .ok (.aload_n 0, 1) := by decide +kernel
theorem dX1_isBound_14 : decode cX1_isBound 14 = .ok (.getfield 21, 3) := by decide +kernel
theorem dX1_isBound_17 : decode cX1_isBound 17 = .ok (.iload_n 1, 1) := by decide +kernel
theorem dX1_isBound_18 : decode cX1_isBound 18 = .ok (.aload_n 0, 1) := by decide +kernel
theorem dX1_isBound_19 : decode cX1_isBound 19 = .ok (.getfield 42, 3) := by decide +kernel
theorem dX1_isBound_22 : decode cX1_isBound 22 = .ok (.invokevirtual 242, 3) := by decide +kernel
theorem dX1_isBound_25 : decode cX1_isBound 25 = .ok (.aload_n 0, 1) := by decide +kernel
theorem dX1_isBound_26 : decode cX1_isBound 26 = .ok (.getfield 21, 3) := by decide +kernel
theorem dX1_isBound_29 : decode cX1_isBound 29 = .ok (.iconst 0, 1) := by decide +kernel
theorem dX1_isBound_30 : decode cX1_isBound 30 = .ok (.iload_n 1, 1) := by decide +kernel
theorem dX1_isBound_31 : decode cX1_isBound 31 = .ok (.aload_n 0, 1) := by decide +kernel
theorem dX1_isBound_32 : decode cX1_isBound 32 = .ok (.getfield 45, 3) := by decide +kernel
theorem dX1_isBound_35 : decode cX1_isBound 35 = .ok (.invokevirtual 160, 3) := by decide +kernel
theorem dX1_isBound_38 : decode cX1_isBound 38 = .ok (.aload_n 0, 1) := by decide +kernel
theorem dX1_isBound_39 : decode cX1_isBound 39 = .ok (.getfield 51, 3) := by decide +kernel
theorem dX1_isBound_42 : decode cX1_isBound 42 = .ok (.aload_n 0, 1) := by decide +kernel
theorem dX1_isBound_43 : decode cX1_isBound 43 = .ok (.getfield 39, 3) := by decide +kernel
theorem dX1_isBound_46 : decode cX1_isBound 46 = .ok (.aload_n 0, 1) := by decide +kernel
theorem dX1_isBound_47 : decode cX1_isBound 47 = .ok (.getfield 45, 3) := by decide +kernel
theorem dX1_isBound_50 : decode cX1_isBound 50 = .ok (.invokevirtual 163, 3) := by decide +kernel
theorem dX1_isBound_53 : decode cX1_isBound 53 = .ok (.aload_n 0, 1) := by decide +kernel
theorem dX1_isBound_54 : decode cX1_isBound 54 = .ok (.getfield 42, 3) := by decide +kernel
theorem dX1_isBound_57 : decode cX1_isBound 57 = .ok (.aload_n 0, 1) := by decide +kernel
theorem dX1_isBound_58 : decode cX1_isBound 58 = .ok (.getfield 51, 3) := by decide +kernel
theorem dX1_isBound_61 : decode cX1_isBound 61 = .ok (.invokevirtual 177, 3) := by decide +kernel
theorem dX1_isBound_64 : decode cX1_isBound 64 = .ok (.ifCond .ge 5, 3) := by decide +kernel
theorem dX1_isBound_67 : decode cX1_isBound 67 = .ok (.iconst 0, 1) := by decide +kernel
theorem dX1_isBound_68 : decode cX1_isBound 68 = .ok (.ireturn, 1) := by decide +kernel
theorem dX1_isBound_69 : decode cX1_isBound 69 = .ok (.iinc 1 1, 3) := by decide +kernel
theorem dX1_isBound_72 : decode cX1_isBound 72 = .ok (.goto (-70), 3) := by decide +kernel
theorem dX1_isBound_75 : decode cX1_isBound 75 = .ok (.aload_n 0, 1) := by decide +kernel
theorem dX1_isBound_76 : decode cX1_isBound 76 = .ok (.getfield 21, 3) := by decide +kernel
theorem dX1_isBound_79 : decode cX1_isBound 79 = .ok (.iconst 0, 1) := by decide +kernel
theorem dX1_isBound_80 : decode cX1_isBound 80 = .ok (.aload_n 0, 1) := by decide +kernel
theorem dX1_isBound_81 : decode cX1_isBound 81 = .ok (.getfield 42, 3) := by decide +kernel
theorem dX1_isBound_84 : decode cX1_isBound 84 = .ok (.invokevirtual 242, 3) := by decide +kernel
theorem dX1_isBound_87 : decode cX1_isBound 87 = .ok (.aload_n 0, 1) := by decide +kernel
theorem dX1_isBound_88 : decode cX1_isBound 88 = .ok (.getfield 21, 3) := by decide +kernel
theorem dX1_isBound_91 : decode cX1_isBound 91 = .ok (.iconst 0, 1) := by decide +kernel
theorem dX1_isBound_92 : decode cX1_isBound 92 = .ok (.iconst 0, 1) := by decide +kernel
theorem dX1_isBound_93 : decode cX1_isBound 93 = .ok (.aload_n 0, 1) := by decide +kernel
theorem dX1_isBound_94 : decode cX1_isBound 94 = .ok (.getfield 45, 3) := by decide +kernel
theorem dX1_isBound_97 : decode cX1_isBound 97 = .ok (.invokevirtual 160, 3) := by decide +kernel
theorem dX1_isBound_100 : decode cX1_isBound 100 = .ok (.aload_n 0, 1) := by decide +kernel
theorem dX1_isBound_101 : decode cX1_isBound 101 = .ok (.getfield 51, 3) := by decide +kernel
theorem dX1_isBound_104 : decode cX1_isBound 104 = .ok (.aload_n 0, 1) := by decide +kernel
theorem dX1_isBound_105 : decode cX1_isBound 105 = .ok (.getfield 39, 3) := by decide +kernel
theorem dX1_isBound_108 : decode cX1_isBound 108 = .ok (.aload_n 0, 1) := by decide +kernel
theorem dX1_isBound_109 : decode cX1_isBound 109 = .ok (.getfield 45, 3) := by decide +kernel
theorem dX1_isBound_112 : decode cX1_isBound 112 = .ok (.invokevirtual 163, 3) := by decide +kernel
theorem dX1_isBound_115 : decode cX1_isBound 115 = .ok (.aload_n 0, 1) := by decide +kernel
theorem dX1_isBound_116 : decode cX1_isBound 116 = .ok (.getfield 42, 3) := by decide +kernel
theorem dX1_isBound_119 : decode cX1_isBound 119 = .ok (.aload_n 0, 1) := by decide +kernel
theorem dX1_isBound_120 : decode cX1_isBound 120 = .ok (.getfield 51, 3) := by decide +kernel
theorem dX1_isBound_123 : decode cX1_isBound 123 = .ok (.iconst 1, 1) := by decide +kernel
theorem dX1_isBound_124 : decode cX1_isBound 124 = .ok (.invokevirtual 166, 3) := by decide +kernel
theorem dX1_isBound_127 : decode cX1_isBound 127 = .ok (.aload_n 0, 1) := by decide +kernel
theorem dX1_isBound_128 : decode cX1_isBound 128 = .ok (.getfield 69, 3) := by decide +kernel
theorem dX1_isBound_131 : decode cX1_isBound 131 = .ok (.invokevirtual 245, 3) := by decide +kernel
theorem dX1_isBound_134 : decode cX1_isBound 134 = .ok (.ifCond .eq 57, 3) := by decide +kernel
theorem dX1_isBound_137 : decode cX1_isBound 137 = .ok (.aload_n 0, 1) := by decide +kernel
theorem dX1_isBound_138 : decode cX1_isBound 138 = .ok (.getfield 42, 3) := by decide +kernel
theorem dX1_isBound_141 : decode cX1_isBound 141 = .ok (.aload_n 0, 1) := by decide +kernel
theorem dX1_isBound_142 : decode cX1_isBound 142 = .ok (.getfield 39, 3) := by decide +kernel
theorem dX1_isBound_145 : decode cX1_isBound 145 = .ok (.aload_n 0, 1) := by decide +kernel
theorem dX1_isBound_146 : decode cX1_isBound 146 = .ok (.getfield 45, 3) := by decide +kernel
theorem dX1_isBound_149 : decode cX1_isBound 149 = .ok (.aload_n 0, 1) := by decide +kernel
theorem dX1_isBound_150 : decode cX1_isBound 150 = .ok (.getfield 54, 3) := by decide +kernel
theorem dX1_isBound_153 : decode cX1_isBound 153 = .ok (.invokevirtual 187, 3) := by decide +kernel
theorem dX1_isBound_156 : decode cX1_isBound 156 = .ok (.aload_n 0, 1) := by decide +kernel
theorem dX1_isBound_157 : decode cX1_isBound 157 = .ok (.getfield 51, 3) := by decide +kernel
theorem dX1_isBound_160 : decode cX1_isBound 160 = .ok (.aload_n 0, 1) := by decide +kernel
theorem dX1_isBound_161 : decode cX1_isBound 161 = .ok (.getfield 45, 3) := by decide +kernel
theorem dX1_isBound_164 : decode cX1_isBound 164 = .ok (.aload_n 0, 1) := by decide +kernel
theorem dX1_isBound_165 : decode cX1_isBound 165 = .ok (.getfield 36, 3) := by decide +kernel
theorem dX1_isBound_168 : decode cX1_isBound 168 = .ok (.invokevirtual 163, 3) := by decide +kernel
theorem dX1_isBound_171 : decode cX1_isBound 171 = .ok (.aload_n 0, 1) := by decide +kernel
theorem dX1_isBound_172 : decode cX1_isBound 172 = .ok (.getfield 51, 3) := by decide +kernel
theorem dX1_isBound_175 : decode cX1_isBound 175 = .ok (.aload_n 0, 1) := by decide +kernel
theorem dX1_isBound_176 : decode cX1_isBound 176 = .ok (.getfield 32, 3) := by decide +kernel
theorem dX1_isBound_179 : decode cX1_isBound 179 = .ok (.invokevirtual 177, 3) := by decide +kernel
theorem dX1_isBound_182 : decode cX1_isBound 182 = .ok (.ifCond .gt 7, 3) := by decide +kernel
theorem dX1_isBound_185 : decode cX1_isBound 185 = .ok (.iconst 1, 1) := by decide +kernel
theorem dX1_isBound_186 : decode cX1_isBound 186 = .ok (.goto 4, 3) := by decide +kernel
theorem dX1_isBound_189 : decode cX1_isBound 189 = .ok (.iconst 0, 1) := by decide +kernel
theorem dX1_isBound_190 : decode cX1_isBound 190 = .ok (.ireturn, 1) := by decide +kernel
theorem dX1_isBound_191 : decode cX1_isBound 191 = .ok (.aload_n 0, 1) := by decide +kernel
theorem dX1_isBound_192 : decode cX1_isBound 192 = .ok (.getfield 51, 3) := by decide +kernel
theorem dX1_isBound_195 : decode cX1_isBound 195 = .ok (.aload_n 0, 1) := by decide +kernel
theorem dX1_isBound_196 : decode cX1_isBound 196 = .ok (.getfield 42, 3) := by decide +kernel
theorem dX1_isBound_199 : decode cX1_isBound 199 = .ok (.aload_n 0, 1) := by decide +kernel
theorem dX1_isBound_200 : decode cX1_isBound 200 = .ok (.getfield 36, 3) := by decide +kernel
theorem dX1_isBound_203 : decode cX1_isBound 203 = .ok (.invokevirtual 163, 3) := by decide +kernel
theorem dX1_isBound_206 : decode cX1_isBound 206 = .ok (.aload_n 0, 1) := by decide +kernel
theorem dX1_isBound_207 : decode cX1_isBound 207 = .ok (.getfield 45, 3) := by decide +kernel
theorem dX1_isBound_210 : decode cX1_isBound 210 = .ok (.aload_n 0, 1) := by decide +kernel
theorem dX1_isBound_211 : decode cX1_isBound 211 = .ok (.getfield 32, 3) := by decide +kernel
theorem dX1_isBound_214 : decode cX1_isBound 214 = .ok (.aload_n 0, 1) := by decide +kernel
theorem dX1_isBound_215 : decode cX1_isBound 215 = .ok (.getfield 39, 3) := by decide +kernel
theorem dX1_isBound_218 : decode cX1_isBound 218 = .ok (.invokevirtual 163, 3) := by decide +kernel
theorem dX1_isBound_221 : decode cX1_isBound 221 = .ok (.aload_n 0, 1) := by decide +kernel
theorem dX1_isBound_222 : decode cX1_isBound 222 = .ok (.getfield 51, 3) := by decide +kernel
theorem dX1_isBound_225 : decode cX1_isBound 225 = .ok (.aload_n 0, 1) := by decide +kernel
theorem dX1_isBound_226 : decode cX1_isBound 226 = .ok (.getfield 45, 3) := by decide +kernel
theorem dX1_isBound_229 : decode cX1_isBound 229 = .ok (.invokevirtual 177, 3) := by decide +kernel
theorem dX1_isBound_232 : decode cX1_isBound 232 = .ok (.ifCond .gt 7, 3) := by decide +kernel
theorem dX1_isBound_235 : decode cX1_isBound 235 = .ok (.iconst 1, 1) := by decide +kernel
theorem dX1_isBound_236 : decode cX1_isBound 236 = .ok (.goto 4, 3) := by decide +kernel
theorem dX1_isBound_239 : decode cX1_isBound 239 = .ok (.iconst 0, 1) := by decide +kernel
theorem dX1_isBound_240 : decode cX1_isBound 240 = .ok (.ireturn, 1) := by decide +kernel
theorem dX1_isFarkas_0 : decode cX1_isFarkas 0 = .ok (.iconst 1, 1) := by decide +kernel
theorem dX1_isFarkas_1 : decode cX1_isFarkas 1 = .ok (.istore_n 1, 1) := by decide +kernel
theorem dX1_isFarkas_2 : decode cX1_isFarkas 2 = .ok (.iload_n 1, 1) := by decide +kernel
theorem dX1_isFarkas_3 : decode cX1_isFarkas 3 = .ok (.aload_n 0, 1) := by decide +kernel
theorem dX1_isFarkas_4 : decode cX1_isFarkas 4 = .ok (.getfield 69, 3) := by decide +kernel
theorem dX1_isFarkas_7 : decode cX1_isFarkas 7 = .ok (.getfield 84, 3) := by decide +kernel
theorem dX1_isFarkas_10 : decode cX1_isFarkas 10 = .ok (.if_icmp .gt 33, 3) := by decide +kernel
theorem dX1_isFarkas_13 : decode cX1_isFarkas 13 = .ok (.aload_n 0, 1) := by decide +kernel
theorem dX1_isFarkas_14 : decode cX1_isFarkas 14 = .ok (.getfield 21, 3) := by decide +kernel
theorem dX1_isFarkas_17 : decode cX1_isFarkas 17 = .ok (.iload_n 1, 1) := by decide +kernel
theorem dX1_isFarkas_18 : decode cX1_isFarkas 18 = .ok (.aload_n 0, 1) := by decide +kernel
theorem dX1_isFarkas_19 : decode cX1_isFarkas 19 = .ok (.getfield 42, 3) := by decide +kernel
theorem dX1_isFarkas_22 : decode cX1_isFarkas 22 = .ok (.invokevirtual 242, 3) := by decide +kernel
theorem dX1_isFarkas_25 : decode cX1_isFarkas 25 = .ok (.aload_n 0, 1) := by decide +kernel
theorem dX1_isFarkas_26 : decode cX1_isFarkas 26 = .ok (.getfield 42, 3) := by decide +kernel
theorem dX1_isFarkas_29 : decode cX1_isFarkas 29 = .ok (.getfield 181, 3) := by decide +kernel
theorem dX1_isFarkas_32 : decode cX1_isFarkas 32 = .ok (.ifCond .ge 5, 3) := by decide +kernel
theorem dX1_isFarkas_35 : decode cX1_isFarkas 35 = .ok (.iconst 0, 1) := by decide +kernel
theorem dX1_isFarkas_36 : decode cX1_isFarkas 36 = .ok (.ireturn, 1) := by decide +kernel
theorem dX1_isFarkas_37 : decode cX1_isFarkas 37 = .ok (.iinc 1 1, 3) := by decide +kernel
theorem dX1_isFarkas_40 : decode cX1_isFarkas 40 = .ok (.goto (-38), 3) := by decide +kernel
theorem dX1_isFarkas_43 : decode cX1_isFarkas 43 = .ok (.aload_n 0, 1) := by decide +kernel
theorem dX1_isFarkas_44 : decode cX1_isFarkas 44 = .ok (.getfield 21, 3) := by decide +kernel
theorem dX1_isFarkas_47 : decode cX1_isFarkas 47 = .ok (.iconst 0, 1) := by decide +kernel
theorem dX1_isFarkas_48 : decode cX1_isFarkas 48 = .ok (.aload_n 0, 1) := by decide +kernel
theorem dX1_isFarkas_49 : decode cX1_isFarkas 49 = .ok (.getfield 42, 3) := by decide +kernel
theorem dX1_isFarkas_52 : decode cX1_isFarkas 52 = .ok (.invokevirtual 242, 3) := by decide +kernel
theorem dX1_isFarkas_55 : decode cX1_isFarkas 55 = .ok (.aload_n 0, 1) := by decide +kernel
theorem dX1_isFarkas_56 : decode cX1_isFarkas 56 = .ok (.getfield 42, 3) := by decide +kernel
theorem dX1_isFarkas_59 : decode cX1_isFarkas 59 = .ok (.getfield 181, 3) := by decide +kernel
theorem dX1_isFarkas_62 : decode cX1_isFarkas 62 = .ok (.ifCond .ge 7, 3) := by decide +kernel
theorem dX1_isFarkas_65 : decode cX1_isFarkas 65 = .ok (.iconst 1, 1) := by decide +kernel
theorem dX1_isFarkas_66 : decode cX1_isFarkas 66 = .ok (.goto 4, 3) := by decide +kernel
theorem dX1_isFarkas_69 : decode cX1_isFarkas 69 = .ok (.iconst 0, 1) := by decide +kernel
theorem dX1_isFarkas_70 : decode cX1_isFarkas 70 = .ok (.ireturn, 1) := by decide +kernel
theorem dX1_isPoint_0 : decode cX1_isPoint 0 = .ok (.aload_n 0, 1) := by decide +kernel
theorem dX1_isPoint_1 : decode cX1_isPoint 1 = .ok (.getfield 39, 3) := by decide +kernel
theorem dX1_isPoint_4 : decode cX1_isPoint 4 = .ok (.aload_n 0, 1) := by decide +kernel
theorem dX1_isPoint_5 : decode cX1_isPoint 5 = .ok (.getfield 27, 3) := by decide +kernel
theorem dX1_isPoint_8 : decode cX1_isPoint 8 = .ok (.iconst 0, 1) := by decide +kernel
theorem dX1_isPoint_9 : decode cX1_isPoint 9 = .ok (.invokevirtual 157, 3) := by decide +kernel
theorem dX1_isPoint_12 : decode cX1_isPoint 12 = .ok (.iconst 1, 1) := by decide +kernel
theorem dX1_isPoint_13 : decode cX1_isPoint 13 = .ok (.istore_n 2, 1) := by decide +kernel
theorem dX1_isPoint_14 : decode cX1_isPoint 14 = .ok (.iload_n 2, 1) := by decide +kernel
theorem dX1_isPoint_15 : decode cX1_isPoint 15 = .ok (.aload_n 0, 1) := by decide +kernel
theorem dX1_isPoint_16 : decode cX1_isPoint 16 = .ok (.getfield 69, 3) := by decide +kernel
theorem dX1_isPoint_19 : decode cX1_isPoint 19 = .ok (.getfield 84, 3) := by decide +kernel
theorem dX1_isPoint_22 : decode cX1_isPoint 22 = .ok (.if_icmp .gt 82, 3) := by decide +kernel
theorem dX1_isPoint_25 : decode cX1_isPoint 25 = .ok (.aload_n 0, 1) := by decide +kernel
theorem dX1_isPoint_26 : decode cX1_isPoint 26 = .ok (.getfield 48, 3) := by decide +kernel
theorem dX1_isPoint_29 : decode cX1_isPoint 29 = .ok (.aload_n 0, 1) := by decide +kernel
theorem dX1_isPoint_30 : decode cX1_isPoint 30 = .ok (.getfield 27, 3) := by decide +kernel
theorem dX1_isPoint_33 : decode cX1_isPoint 33 = .ok (.iload_n 2, 1) := by decide +kernel
theorem dX1_isPoint_34 : decode cX1_isPoint 34 = .ok (.bipush 8, 2) := by decide +kernel
theorem dX1_isPoint_36 : decode cX1_isPoint 36 = .ok (.imul, 1) := by decide +kernel
theorem dX1_isPoint_37 : decode cX1_isPoint 37 = .ok (.invokevirtual 157, 3) := by decide +kernel
theorem dX1_isPoint_40 : decode cX1_isPoint 40 = .ok (.aload_n 0, 1) := by decide +kernel
theorem dX1_isPoint_41 : decode cX1_isPoint 41 = .ok (.getfield 48, 3) := by decide +kernel
theorem dX1_isPoint_44 : decode cX1_isPoint 44 = .ok (.getfield 181, 3) := by decide +kernel
theorem dX1_isPoint_47 : decode cX1_isPoint 47 = .ok (.ifCond .ge 5, 3) := by decide +kernel
theorem dX1_isPoint_50 : decode cX1_isPoint 50 = .ok (.iconst 0, 1) := by decide +kernel
theorem dX1_isPoint_51 : decode cX1_isPoint 51 = .ok (.ireturn, 1) := by decide +kernel
theorem dX1_isPoint_52 : decode cX1_isPoint 52 = .ok (.iload_n 1, 1) := by decide +kernel
theorem dX1_isPoint_53 : decode cX1_isPoint 53 = .ok (.ifCond .eq 45, 3) := by decide +kernel
theorem dX1_isPoint_56 : decode cX1_isPoint 56 = .ok (.aload_n 0, 1) := by decide +kernel
theorem dX1_isPoint_57 : decode cX1_isPoint 57 = .ok (.getfield 69, 3) := by decide +kernel
theorem dX1_isPoint_60 : decode cX1_isPoint 60 = .ok (.iload_n 2, 1) := by decide +kernel
theorem dX1_isPoint_61 : decode cX1_isPoint 61 = .ok (.invokevirtual 184, 3) := by decide +kernel
theorem dX1_isPoint_64 : decode cX1_isPoint 64 = .ok (.ifCond .eq 34, 3) := by decide +kernel
theorem dX1_isPoint_67 : decode cX1_isPoint 67 = .ok (.aload_n 0, 1) := by decide +kernel
theorem dX1_isPoint_68 : decode cX1_isPoint 68 = .ok (.getfield 48, 3) := by decide +kernel
theorem dX1_isPoint_71 : decode cX1_isPoint 71 = .ok (.aload_n 0, 1) := by decide +kernel
theorem dX1_isPoint_72 : decode cX1_isPoint 72 = .ok (.getfield 39, 3) := by decide +kernel
theorem dX1_isPoint_75 : decode cX1_isPoint 75 = .ok (.aload_n 0, 1) := by decide +kernel
theorem dX1_isPoint_76 : decode cX1_isPoint 76 = .ok (.getfield 45, 3) := by decide +kernel
theorem dX1_isPoint_79 : decode cX1_isPoint 79 = .ok (.aload_n 0, 1) := by decide +kernel
theorem dX1_isPoint_80 : decode cX1_isPoint 80 = .ok (.getfield 54, 3) := by decide +kernel
theorem dX1_isPoint_83 : decode cX1_isPoint 83 = .ok (.invokevirtual 187, 3) := by decide +kernel
theorem dX1_isPoint_86 : decode cX1_isPoint 86 = .ok (.aload_n 0, 1) := by decide +kernel
theorem dX1_isPoint_87 : decode cX1_isPoint 87 = .ok (.getfield 48, 3) := by decide +kernel
theorem dX1_isPoint_90 : decode cX1_isPoint 90 = .ok (.getfield 181, 3) := by decide +kernel
theorem dX1_isPoint_93 : decode cX1_isPoint 93 = .ok (.ifCond .eq 5, 3) := by decide +kernel
theorem dX1_isPoint_96 : decode cX1_isPoint 96 = .ok (.iconst 0, 1) := by decide +kernel
theorem dX1_isPoint_97 : decode cX1_isPoint 97 = .ok (.ireturn, 1) := by decide +kernel
theorem dX1_isPoint_98 : decode cX1_isPoint 98 = .ok (.iinc 2 1, 3) := by decide +kernel
theorem dX1_isPoint_101 : decode cX1_isPoint 101 = .ok (.goto (-87), 3) := by decide +kernel
theorem dX1_isPoint_104 : decode cX1_isPoint 104 = .ok (.iconst 1, 1) := by decide +kernel
theorem dX1_isPoint_105 : decode cX1_isPoint 105 = .ok (.istore_n 2, 1) := by decide +kernel
theorem dX1_isPoint_106 : decode cX1_isPoint 106 = .ok (.iload_n 2, 1) := by decide +kernel
theorem dX1_isPoint_107 : decode cX1_isPoint 107 = .ok (.aload_n 0, 1) := by decide +kernel
theorem dX1_isPoint_108 : decode cX1_isPoint 108 = .ok (.getfield 69, 3) := by decide +kernel
theorem dX1_isPoint_111 : decode cX1_isPoint 111 = .ok (.getfield 191, 3) := by decide +kernel
theorem dX1_isPoint_114 : decode cX1_isPoint 114 = .ok (.if_icmp .gt 35, 3) := by decide +kernel
theorem dX1_isPoint_117 : decode cX1_isPoint 117 = .ok (.aload_n 0, 1) := by decide +kernel
theorem dX1_isPoint_118 : decode cX1_isPoint 118 = .ok (.iload_n 2, 1) := by decide +kernel
theorem dX1_isPoint_119 : decode cX1_isPoint 119 = .ok (.invokevirtual 170, 3) := by decide +kernel
theorem dX1_isPoint_122 : decode cX1_isPoint 122 = .ok (.aload_n 0, 1) := by decide +kernel
theorem dX1_isPoint_123 : decode cX1_isPoint 123 = .ok (.iload_n 2, 1) := by decide +kernel
theorem dX1_isPoint_124 : decode cX1_isPoint 124 = .ok (.invokevirtual 174, 3) := by decide +kernel
theorem dX1_isPoint_127 : decode cX1_isPoint 127 = .ok (.aload_n 0, 1) := by decide +kernel
theorem dX1_isPoint_128 : decode cX1_isPoint 128 = .ok (.getfield 42, 3) := by decide +kernel
theorem dX1_isPoint_131 : decode cX1_isPoint 131 = .ok (.aload_n 0, 1) := by decide +kernel
theorem dX1_isPoint_132 : decode cX1_isPoint 132 = .ok (.getfield 51, 3) := by decide +kernel
theorem dX1_isPoint_135 : decode cX1_isPoint 135 = .ok (.invokevirtual 177, 3) := by decide +kernel
theorem dX1_isPoint_138 : decode cX1_isPoint 138 = .ok (.ifCond .le 5, 3) := by decide +kernel
theorem dX1_isPoint_141 : decode cX1_isPoint 141 = .ok (.iconst 0, 1) := by decide +kernel
theorem dX1_isPoint_142 : decode cX1_isPoint 142 = .ok (.ireturn, 1) := by decide +kernel
theorem dX1_isPoint_143 : decode cX1_isPoint 143 = .ok (.iinc 2 1, 3) := by decide +kernel
theorem dX1_isPoint_146 : decode cX1_isPoint 146 = .ok (.goto (-40), 3) := by decide +kernel
theorem dX1_isPoint_149 : decode cX1_isPoint 149 = .ok (.iconst 1, 1) := by decide +kernel
theorem dX1_isPoint_150 : decode cX1_isPoint 150 = .ok (.ireturn, 1) := by decide +kernel
theorem dX1_isValue_0 : decode cX1_isValue 0 = .ok (.aload_n 0, 1) := by decide +kernel
theorem dX1_isValue_1 : decode cX1_isValue 1 = .ok (.iconst 0, 1) := by decide +kernel
theorem dX1_isValue_2 : decode cX1_isValue 2 = .ok (.invokevirtual 170, 3) := by decide +kernel
theorem dX1_isValue_5 : decode cX1_isValue 5 = .ok (.aload_n 0, 1) := by decide +kernel
theorem dX1_isValue_6 : decode cX1_isValue 6 = .ok (.iconst 0, 1) := by decide +kernel
theorem dX1_isValue_7 : decode cX1_isValue 7 = .ok (.invokevirtual 174, 3) := by decide +kernel
theorem dX1_isValue_10 : decode cX1_isValue 10 = .ok (.aload_n 0, 1) := by decide +kernel
theorem dX1_isValue_11 : decode cX1_isValue 11 = .ok (.getfield 42, 3) := by decide +kernel
theorem dX1_isValue_14 : decode cX1_isValue 14 = .ok (.aload_n 0, 1) := by decide +kernel
theorem dX1_isValue_15 : decode cX1_isValue 15 = .ok (.getfield 51, 3) := by decide +kernel
theorem dX1_isValue_18 : decode cX1_isValue 18 = .ok (.iconst 1, 1) := by decide +kernel
theorem dX1_isValue_19 : decode cX1_isValue 19 = .ok (.invokevirtual 166, 3) := by decide +kernel
theorem dX1_isValue_22 : decode cX1_isValue 22 = .ok (.aload_n 0, 1) := by decide +kernel
theorem dX1_isValue_23 : decode cX1_isValue 23 = .ok (.getfield 51, 3) := by decide +kernel
theorem dX1_isValue_26 : decode cX1_isValue 26 = .ok (.aload_n 0, 1) := by decide +kernel
theorem dX1_isValue_27 : decode cX1_isValue 27 = .ok (.getfield 42, 3) := by decide +kernel
theorem dX1_isValue_30 : decode cX1_isValue 30 = .ok (.aload_n 0, 1) := by decide +kernel
theorem dX1_isValue_31 : decode cX1_isValue 31 = .ok (.getfield 36, 3) := by decide +kernel
theorem dX1_isValue_34 : decode cX1_isValue 34 = .ok (.invokevirtual 163, 3) := by decide +kernel
theorem dX1_isValue_37 : decode cX1_isValue 37 = .ok (.aload_n 0, 1) := by decide +kernel
theorem dX1_isValue_38 : decode cX1_isValue 38 = .ok (.getfield 48, 3) := by decide +kernel
theorem dX1_isValue_41 : decode cX1_isValue 41 = .ok (.aload_n 0, 1) := by decide +kernel
theorem dX1_isValue_42 : decode cX1_isValue 42 = .ok (.getfield 27, 3) := by decide +kernel
theorem dX1_isValue_45 : decode cX1_isValue 45 = .ok (.iconst 0, 1) := by decide +kernel
theorem dX1_isValue_46 : decode cX1_isValue 46 = .ok (.invokevirtual 157, 3) := by decide +kernel
theorem dX1_isValue_49 : decode cX1_isValue 49 = .ok (.aload_n 0, 1) := by decide +kernel
theorem dX1_isValue_50 : decode cX1_isValue 50 = .ok (.getfield 45, 3) := by decide +kernel
theorem dX1_isValue_53 : decode cX1_isValue 53 = .ok (.aload_n 0, 1) := by decide +kernel
theorem dX1_isValue_54 : decode cX1_isValue 54 = .ok (.getfield 48, 3) := by decide +kernel
theorem dX1_isValue_57 : decode cX1_isValue 57 = .ok (.aload_n 0, 1) := by decide +kernel
theorem dX1_isValue_58 : decode cX1_isValue 58 = .ok (.getfield 32, 3) := by decide +kernel
theorem dX1_isValue_61 : decode cX1_isValue 61 = .ok (.invokevirtual 163, 3) := by decide +kernel
theorem dX1_isValue_64 : decode cX1_isValue 64 = .ok (.aload_n 0, 1) := by decide +kernel
theorem dX1_isValue_65 : decode cX1_isValue 65 = .ok (.getfield 51, 3) := by decide +kernel
theorem dX1_isValue_68 : decode cX1_isValue 68 = .ok (.aload_n 0, 1) := by decide +kernel
theorem dX1_isValue_69 : decode cX1_isValue 69 = .ok (.getfield 45, 3) := by decide +kernel
theorem dX1_isValue_72 : decode cX1_isValue 72 = .ok (.invokevirtual 177, 3) := by decide +kernel
theorem dX1_isValue_75 : decode cX1_isValue 75 = .ok (.ifCond .ne 7, 3) := by decide +kernel
theorem dX1_isValue_78 : decode cX1_isValue 78 = .ok (.iconst 1, 1) := by decide +kernel
theorem dX1_isValue_79 : decode cX1_isValue 79 = .ok (.goto 4, 3) := by decide +kernel
theorem dX1_isValue_82 : decode cX1_isValue 82 = .ok (.iconst 0, 1) := by decide +kernel
theorem dX1_isValue_83 : decode cX1_isValue 83 = .ok (.ireturn, 1) := by decide +kernel
theorem dX1_pairTree_0 : decode cX1_pairTree 0 = .ok (.aload_n 0, 1) := by decide +kernel
theorem dX1_pairTree_1 : decode cX1_pairTree 1 = .ok (.getfield 12, 3) := by decide +kernel
theorem dX1_pairTree_4 : decode cX1_pairTree 4 = .ok (.aload_n 0, 1) := by decide +kernel
theorem dX1_pairTree_5 : decode cX1_pairTree 5 = .ok (.getfield 39, 3) := by decide +kernel
theorem dX1_pairTree_8 : decode cX1_pairTree 8 = .ok (.invokevirtual 126, 3) := by decide +kernel
theorem dX1_pairTree_11 : decode cX1_pairTree 11 = .ok (.aload_n 0, 1) := by decide +kernel
theorem dX1_pairTree_12 : decode cX1_pairTree 12 = .ok (.invokevirtual 219, 3) := by decide +kernel
theorem dX1_pairTree_15 : decode cX1_pairTree 15 = .ok (.ifCond .ne 5, 3) := by decide +kernel
theorem dX1_pairTree_18 : decode cX1_pairTree 18 = .ok (.iconst 4, 1) := by decide +kernel
theorem dX1_pairTree_19 : decode cX1_pairTree 19 = .ok (.ireturn, 1) := by decide +kernel
theorem dX1_pairTree_20 : decode cX1_pairTree 20 = .ok (.iload_n 1, 1) := by decide +kernel
theorem dX1_pairTree_21 : decode cX1_pairTree 21 = .ok (.bipush 13, 2) := by decide +kernel
theorem dX1_pairTree_23 : decode cX1_pairTree 23 = .ok (.if_icmp .ne 36, 3) := by decide +kernel
theorem dX1_pairTree_26 : decode cX1_pairTree 26 = .ok (.aload_n 0, 1) := by decide +kernel
theorem dX1_pairTree_27 : decode cX1_pairTree 27 = .ok (.getfield 69, 3) := by decide +kernel
theorem dX1_pairTree_30 : decode cX1_pairTree 30 = .ok (.invokevirtual 222, 3) := by decide +kernel
theorem dX1_pairTree_33 : decode cX1_pairTree 33 = .ok (.ifCond .ne 5, 3) := by decide +kernel
theorem dX1_pairTree_36 : decode cX1_pairTree 36 = .ok (.iconst 4, 1) := by decide +kernel
theorem dX1_pairTree_37 : decode cX1_pairTree 37 = .ok (.ireturn, 1) := by decide +kernel
theorem dX1_pairTree_38 : decode cX1_pairTree 38 = .ok (.aload_n 0, 1) := by decide +kernel
theorem dX1_pairTree_39 : decode cX1_pairTree 39 = .ok (.getfield 21, 3) := by decide +kernel
theorem dX1_pairTree_42 : decode cX1_pairTree 42 = .ok (.aload_n 0, 1) := by decide +kernel
theorem dX1_pairTree_43 : decode cX1_pairTree 43 = .ok (.getfield 39, 3) := by decide +kernel
theorem dX1_pairTree_46 : decode cX1_pairTree 46 = .ok (.invokevirtual 225, 3) := by decide +kernel
theorem dX1_pairTree_49 : decode cX1_pairTree 49 = .ok (.ifCond .eq 7, 3) := by decide +kernel
theorem dX1_pairTree_52 : decode cX1_pairTree 52 = .ok (.iconst 0, 1) := by decide +kernel
theorem dX1_pairTree_53 : decode cX1_pairTree 53 = .ok (.goto 5, 3) := by decide +kernel
theorem dX1_pairTree_56 : decode cX1_pairTree 56 = .ok (.bipush 6, 2) := by decide +kernel
theorem dX1_pairTree_58 : decode cX1_pairTree 58 = .ok (.ireturn, 1) := by decide +kernel
theorem dX1_pairTree_59 : decode cX1_pairTree 59 = .ok (.iload_n 1, 1) := by decide +kernel
theorem dX1_pairTree_60 : decode cX1_pairTree 60 = .ok (.bipush 15, 2) := by decide +kernel
theorem dX1_pairTree_62 : decode cX1_pairTree 62 = .ok (.if_icmp .ne 16, 3) := by decide +kernel
theorem dX1_pairTree_65 : decode cX1_pairTree 65 = .ok (.aload_n 0, 1) := by decide +kernel
theorem dX1_pairTree_66 : decode cX1_pairTree 66 = .ok (.invokevirtual 229, 3) := by decide +kernel
theorem dX1_pairTree_69 : decode cX1_pairTree 69 = .ok (.ifCond .eq 7, 3) := by decide +kernel
theorem dX1_pairTree_72 : decode cX1_pairTree 72 = .ok (.iconst 0, 1) := by decide +kernel
theorem dX1_pairTree_73 : decode cX1_pairTree 73 = .ok (.goto 4, 3) := by decide +kernel
theorem dX1_pairTree_76 : decode cX1_pairTree 76 = .ok (.iconst 4, 1) := by decide +kernel
theorem dX1_pairTree_77 : decode cX1_pairTree 77 = .ok (.ireturn, 1) := by decide +kernel
theorem dX1_pairTree_78 : decode cX1_pairTree 78 = .ok (.iload_n 2, 1) := by decide +kernel
theorem dX1_pairTree_79 : decode cX1_pairTree 79 = .ok (.ifCond .eq 14, 3) := by decide +kernel
theorem dX1_pairTree_82 : decode cX1_pairTree 82 = .ok (.aload_n 0, 1) := by decide +kernel
theorem dX1_pairTree_83 : decode cX1_pairTree 83 = .ok (.invokevirtual 232, 3) := by decide +kernel
theorem dX1_pairTree_86 : decode cX1_pairTree 86 = .ok (.ifCond .eq 7, 3) := by decide +kernel
theorem dX1_pairTree_89 : decode cX1_pairTree 89 = .ok (.iconst 0, 1) := by decide +kernel
theorem dX1_pairTree_90 : decode cX1_pairTree 90 = .ok (.goto 4, 3) := by decide +kernel
theorem dX1_pairTree_93 : decode cX1_pairTree 93 = .ok (.iconst 4, 1) := by decide +kernel
theorem dX1_pairTree_94 : decode cX1_pairTree 94 = .ok (.ireturn, 1) := by decide +kernel
theorem dX1_scaleBound_0 : decode cX1_scaleBound 0 = .ok (.aload_n 0, 1) := by decide +kernel
theorem dX1_scaleBound_1 : decode cX1_scaleBound 1 = .ok (.getfield 48, 3) := by decide +kernel
theorem dX1_scaleBound_4 : decode cX1_scaleBound 4 = .ok (.aload_n 0, 1) := by decide +kernel
theorem dX1_scaleBound_5 : decode cX1_scaleBound 5 = .ok (.getfield 27, 3) := by decide +kernel
theorem dX1_scaleBound_8 : decode cX1_scaleBound 8 = .ok (.iconst 0, 1) := by decide +kernel
theorem dX1_scaleBound_9 : decode cX1_scaleBound 9 = .ok (.invokevirtual 157, 3) := by decide +kernel
theorem dX1_scaleBound_12 : decode cX1_scaleBound 12 = .ok (.aload_n 0, 1) := by decide +kernel
theorem dX1_scaleBound_13 : decode cX1_scaleBound 13 = .ok (.getfield 21, 3) := by decide +kernel
theorem dX1_scaleBound_16 : decode cX1_scaleBound 16 = .ok (.iload_n 1, 1) := by decide +kernel
theorem dX1_scaleBound_17 : decode cX1_scaleBound 17 = .ok (.iconst 0, 1) := by decide +kernel
theorem dX1_scaleBound_18 : decode cX1_scaleBound 18 = .ok (.aload_n 0, 1) := by decide +kernel
theorem dX1_scaleBound_19 : decode cX1_scaleBound 19 = .ok (.getfield 45, 3) := by decide +kernel
theorem dX1_scaleBound_22 : decode cX1_scaleBound 22 = .ok (.invokevirtual 160, 3) := by decide +kernel
theorem dX1_scaleBound_25 : decode cX1_scaleBound 25 = .ok (.aload_n 0, 1) := by decide +kernel
theorem dX1_scaleBound_26 : decode cX1_scaleBound 26 = .ok (.getfield 51, 3) := by decide +kernel
theorem dX1_scaleBound_29 : decode cX1_scaleBound 29 = .ok (.aload_n 0, 1) := by decide +kernel
theorem dX1_scaleBound_30 : decode cX1_scaleBound 30 = .ok (.getfield 48, 3) := by decide +kernel
theorem dX1_scaleBound_33 : decode cX1_scaleBound 33 = .ok (.aload_n 0, 1) := by decide +kernel
theorem dX1_scaleBound_34 : decode cX1_scaleBound 34 = .ok (.getfield 45, 3) := by decide +kernel
theorem dX1_scaleBound_37 : decode cX1_scaleBound 37 = .ok (.invokevirtual 163, 3) := by decide +kernel
theorem dX1_scaleBound_40 : decode cX1_scaleBound 40 = .ok (.return_, 1) := by decide +kernel
theorem dX1_sumAt_0 : decode cX1_sumAt 0 = .ok (.aload_n 0, 1) := by decide +kernel
theorem dX1_sumAt_1 : decode cX1_sumAt 1 = .ok (.getfield 42, 3) := by decide +kernel
theorem dX1_sumAt_4 : decode cX1_sumAt 4 = .ok (.lconst 0, 1) := by decide +kernel
theorem dX1_sumAt_5 : decode cX1_sumAt 5 = .ok (.invokevirtual 153, 3) := by decide +kernel
theorem dX1_sumAt_8 : decode cX1_sumAt 8 = .ok (.iconst 1, 1) := by decide +kernel
theorem dX1_sumAt_9 : decode cX1_sumAt 9 = .ok (.istore_n 2, 1) := by decide +kernel
theorem dX1_sumAt_10 : decode cX1_sumAt 10 = .ok (.iload_n 2, 1) := by decide +kernel
theorem dX1_sumAt_11 : decode cX1_sumAt 11 = .ok (.aload_n 0, 1) := by decide +kernel
theorem dX1_sumAt_12 : decode cX1_sumAt 12 = .ok (.getfield 69, 3) := by decide +kernel
theorem dX1_sumAt_15 : decode cX1_sumAt 15 = .ok (.getfield 84, 3) := by decide +kernel
theorem dX1_sumAt_18 : decode cX1_sumAt 18 = .ok (.if_icmp .gt 64, 3) := by decide +kernel
theorem dX1_sumAt_21 : decode cX1_sumAt 21 = .ok (.aload_n 0, 1) := by decide +kernel
theorem dX1_sumAt_22 : decode cX1_sumAt 22 = .ok (.getfield 48, 3) := by decide +kernel
theorem dX1_sumAt_25 : decode cX1_sumAt 25 = .ok (.aload_n 0, 1) := by decide +kernel
theorem dX1_sumAt_26 : decode cX1_sumAt 26 = .ok (.getfield 27, 3) := by decide +kernel
theorem dX1_sumAt_29 : decode cX1_sumAt 29 = .ok (.iload_n 2, 1) := by decide +kernel
theorem dX1_sumAt_30 : decode cX1_sumAt 30 = .ok (.bipush 8, 2) := by decide +kernel
theorem dX1_sumAt_32 : decode cX1_sumAt 32 = .ok (.imul, 1) := by decide +kernel
theorem dX1_sumAt_33 : decode cX1_sumAt 33 = .ok (.invokevirtual 157, 3) := by decide +kernel
theorem dX1_sumAt_36 : decode cX1_sumAt 36 = .ok (.aload_n 0, 1) := by decide +kernel
theorem dX1_sumAt_37 : decode cX1_sumAt 37 = .ok (.getfield 21, 3) := by decide +kernel
theorem dX1_sumAt_40 : decode cX1_sumAt 40 = .ok (.iload_n 1, 1) := by decide +kernel
theorem dX1_sumAt_41 : decode cX1_sumAt 41 = .ok (.iload_n 2, 1) := by decide +kernel
theorem dX1_sumAt_42 : decode cX1_sumAt 42 = .ok (.aload_n 0, 1) := by decide +kernel
theorem dX1_sumAt_43 : decode cX1_sumAt 43 = .ok (.getfield 45, 3) := by decide +kernel
theorem dX1_sumAt_46 : decode cX1_sumAt 46 = .ok (.invokevirtual 160, 3) := by decide +kernel
theorem dX1_sumAt_49 : decode cX1_sumAt 49 = .ok (.aload_n 0, 1) := by decide +kernel
theorem dX1_sumAt_50 : decode cX1_sumAt 50 = .ok (.getfield 51, 3) := by decide +kernel
theorem dX1_sumAt_53 : decode cX1_sumAt 53 = .ok (.aload_n 0, 1) := by decide +kernel
theorem dX1_sumAt_54 : decode cX1_sumAt 54 = .ok (.getfield 48, 3) := by decide +kernel
theorem dX1_sumAt_57 : decode cX1_sumAt 57 = .ok (.aload_n 0, 1) := by decide +kernel
theorem dX1_sumAt_58 : decode cX1_sumAt 58 = .ok (.getfield 45, 3) := by decide +kernel
theorem dX1_sumAt_61 : decode cX1_sumAt 61 = .ok (.invokevirtual 163, 3) := by decide +kernel
theorem dX1_sumAt_64 : decode cX1_sumAt 64 = .ok (.aload_n 0, 1) := by decide +kernel
theorem dX1_sumAt_65 : decode cX1_sumAt 65 = .ok (.getfield 42, 3) := by decide +kernel
theorem dX1_sumAt_68 : decode cX1_sumAt 68 = .ok (.aload_n 0, 1) := by decide +kernel
theorem dX1_sumAt_69 : decode cX1_sumAt 69 = .ok (.getfield 51, 3) := by decide +kernel
theorem dX1_sumAt_72 : decode cX1_sumAt 72 = .ok (.iconst 1, 1) := by decide +kernel
theorem dX1_sumAt_73 : decode cX1_sumAt 73 = .ok (.invokevirtual 166, 3) := by decide +kernel
theorem dX1_sumAt_76 : decode cX1_sumAt 76 = .ok (.iinc 2 1, 3) := by decide +kernel
theorem dX1_sumAt_79 : decode cX1_sumAt 79 = .ok (.goto (-69), 3) := by decide +kernel
theorem dX1_sumAt_82 : decode cX1_sumAt 82 = .ok (.return_, 1) := by decide +kernel
theorem dX1_takePairs_0 : decode cX1_takePairs 0 = .ok (.aload_n 0, 1) := by decide +kernel
theorem dX1_takePairs_1 : decode cX1_takePairs 1 = .ok (.getfield 21, 3) := by decide +kernel
theorem dX1_takePairs_4 : decode cX1_takePairs 4 = .ok (.invokevirtual 235, 3) := by decide +kernel
theorem dX1_takePairs_7 : decode cX1_takePairs 7 = .ok (.iconst 0, 1) := by decide +kernel
theorem dX1_takePairs_8 : decode cX1_takePairs 8 = .ok (.istore_n 1, 1) := by decide +kernel
theorem dX1_takePairs_9 : decode cX1_takePairs 9 = .ok (.iconst 0, 1) := by decide +kernel
theorem dX1_takePairs_10 : decode cX1_takePairs 10 = .ok (.istore_n 2, 1) := by decide +kernel
theorem dX1_takePairs_11 : decode cX1_takePairs 11 = .ok (.iload_n 2, 1) := by decide +kernel
theorem dX1_takePairs_12 : decode cX1_takePairs 12 = .ok (.sipush 30000, 3) := by decide +kernel
theorem dX1_takePairs_15 : decode cX1_takePairs 15 = .ok (.if_icmp .gt 88, 3) := by decide +kernel
theorem dX1_takePairs_18 : decode cX1_takePairs 18 = .ok (.aload_n 0, 1) := by decide +kernel
theorem dX1_takePairs_19 : decode cX1_takePairs 19 = .ok (.getfield 12, 3) := by decide +kernel
theorem dX1_takePairs_22 : decode cX1_takePairs 22 = .ok (.invokevirtual 109, 3) := by decide +kernel
theorem dX1_takePairs_25 : decode cX1_takePairs 25 = .ok (.iconst 2, 1) := by decide +kernel
theorem dX1_takePairs_26 : decode cX1_takePairs 26 = .ok (.if_icmp .ne 77, 3) := by decide +kernel
theorem dX1_takePairs_29 : decode cX1_takePairs 29 = .ok (.aload_n 0, 1) := by decide +kernel
theorem dX1_takePairs_30 : decode cX1_takePairs 30 = .ok (.getfield 12, 3) := by decide +kernel
theorem dX1_takePairs_33 : decode cX1_takePairs 33 = .ok (.invokevirtual 203, 3) := by decide +kernel
theorem dX1_takePairs_36 : decode cX1_takePairs 36 = .ok (.istore_n 3, 1) := by decide +kernel
theorem dX1_takePairs_37 : decode cX1_takePairs 37 = .ok (.aload_n 0, 1) := by decide +kernel
theorem dX1_takePairs_38 : decode cX1_takePairs 38 = .ok (.getfield 12, 3) := by decide +kernel
theorem dX1_takePairs_41 : decode cX1_takePairs 41 = .ok (.invokevirtual 119, 3) := by decide +kernel
theorem dX1_takePairs_44 : decode cX1_takePairs 44 = .ok (.aload_n 0, 1) := by decide +kernel
theorem dX1_takePairs_45 : decode cX1_takePairs 45 = .ok (.getfield 12, 3) := by decide +kernel
theorem dX1_takePairs_48 : decode cX1_takePairs 48 = .ok (.aload_n 0, 1) := by decide +kernel
theorem dX1_takePairs_49 : decode cX1_takePairs 49 = .ok (.getfield 48, 3) := by decide +kernel
theorem dX1_takePairs_52 : decode cX1_takePairs 52 = .ok (.invokevirtual 126, 3) := by decide +kernel
theorem dX1_takePairs_55 : decode cX1_takePairs 55 = .ok (.iload_n 3, 1) := by decide +kernel
theorem dX1_takePairs_56 : decode cX1_takePairs 56 = .ok (.iload_n 1, 1) := by decide +kernel
theorem dX1_takePairs_57 : decode cX1_takePairs 57 = .ok (.if_icmp .le 24, 3) := by decide +kernel
theorem dX1_takePairs_60 : decode cX1_takePairs 60 = .ok (.iload_n 3, 1) := by decide +kernel
theorem dX1_takePairs_61 : decode cX1_takePairs 61 = .ok (.aload_n 0, 1) := by decide +kernel
theorem dX1_takePairs_62 : decode cX1_takePairs 62 = .ok (.getfield 21, 3) := by decide +kernel
theorem dX1_takePairs_65 : decode cX1_takePairs 65 = .ok (.invokevirtual 209, 3) := by decide +kernel
theorem dX1_takePairs_68 : decode cX1_takePairs 68 = .ok (.if_icmp .gt 13, 3) := by decide +kernel
theorem dX1_takePairs_71 : decode cX1_takePairs 71 = .ok (.aload_n 0, 1) := by decide +kernel
theorem dX1_takePairs_72 : decode cX1_takePairs 72 = .ok (.getfield 48, 3) := by decide +kernel
theorem dX1_takePairs_75 : decode cX1_takePairs 75 = .ok (.getfield 181, 3) := by decide +kernel
theorem dX1_takePairs_78 : decode cX1_takePairs 78 = .ok (.ifCond .ge 5, 3) := by decide +kernel
theorem dX1_takePairs_81 : decode cX1_takePairs 81 = .ok (.iconst 0, 1) := by decide +kernel
theorem dX1_takePairs_82 : decode cX1_takePairs 82 = .ok (.ireturn, 1) := by decide +kernel
theorem dX1_takePairs_83 : decode cX1_takePairs 83 = .ok (.aload_n 0, 1) := by decide +kernel
theorem dX1_takePairs_84 : decode cX1_takePairs 84 = .ok (.getfield 21, 3) := by decide +kernel
theorem dX1_takePairs_87 : decode cX1_takePairs 87 = .ok (.iload_n 3, 1) := by decide +kernel
theorem dX1_takePairs_88 : decode cX1_takePairs 88 = .ok (.aload_n 0, 1) := by decide +kernel
theorem dX1_takePairs_89 : decode cX1_takePairs 89 = .ok (.getfield 48, 3) := by decide +kernel
theorem dX1_takePairs_92 : decode cX1_takePairs 92 = .ok (.invokevirtual 238, 3) := by decide +kernel
theorem dX1_takePairs_95 : decode cX1_takePairs 95 = .ok (.iload_n 3, 1) := by decide +kernel
theorem dX1_takePairs_96 : decode cX1_takePairs 96 = .ok (.istore_n 1, 1) := by decide +kernel
theorem dX1_takePairs_97 : decode cX1_takePairs 97 = .ok (.iinc 2 1, 3) := by decide +kernel
theorem dX1_takePairs_100 : decode cX1_takePairs 100 = .ok (.goto (-89), 3) := by decide +kernel
theorem dX1_takePairs_103 : decode cX1_takePairs 103 = .ok (.aload_n 0, 1) := by decide +kernel
theorem dX1_takePairs_104 : decode cX1_takePairs 104 = .ok (.getfield 12, 3) := by decide +kernel
theorem dX1_takePairs_107 : decode cX1_takePairs 107 = .ok (.invokevirtual 119, 3) := by decide +kernel
theorem dX1_takePairs_110 : decode cX1_takePairs 110 = .ok (.iconst 1, 1) := by decide +kernel
theorem dX1_takePairs_111 : decode cX1_takePairs 111 = .ok (.ireturn, 1) := by decide +kernel
theorem dX1_takePoint_0 : decode cX1_takePoint 0 = .ok (.aload_n 0, 1) := by decide +kernel
theorem dX1_takePoint_1 : decode cX1_takePoint 1 = .ok (.getfield 12, 3) := by decide +kernel
theorem dX1_takePoint_4 : decode cX1_takePoint 4 = .ok (.invokevirtual 119, 3) := by decide +kernel
theorem dX1_takePoint_7 : decode cX1_takePoint 7 = .ok (.iconst 1, 1) := by decide +kernel
theorem dX1_takePoint_8 : decode cX1_takePoint 8 = .ok (.istore_n 1, 1) := by decide +kernel
theorem dX1_takePoint_9 : decode cX1_takePoint 9 = .ok (.iload_n 1, 1) := by decide +kernel
theorem dX1_takePoint_10 : decode cX1_takePoint 10 = .ok (.aload_n 0, 1) := by decide +kernel
theorem dX1_takePoint_11 : decode cX1_takePoint 11 = .ok (.getfield 69, 3) := by decide +kernel
theorem dX1_takePoint_14 : decode cX1_takePoint 14 = .ok (.getfield 84, 3) := by decide +kernel
theorem dX1_takePoint_17 : decode cX1_takePoint 17 = .ok (.if_icmp .gt 35, 3) := by decide +kernel
theorem dX1_takePoint_20 : decode cX1_takePoint 20 = .ok (.aload_n 0, 1) := by decide +kernel
theorem dX1_takePoint_21 : decode cX1_takePoint 21 = .ok (.getfield 12, 3) := by decide +kernel
theorem dX1_takePoint_24 : decode cX1_takePoint 24 = .ok (.aload_n 0, 1) := by decide +kernel
theorem dX1_takePoint_25 : decode cX1_takePoint 25 = .ok (.getfield 48, 3) := by decide +kernel
theorem dX1_takePoint_28 : decode cX1_takePoint 28 = .ok (.invokevirtual 126, 3) := by decide +kernel
theorem dX1_takePoint_31 : decode cX1_takePoint 31 = .ok (.aload_n 0, 1) := by decide +kernel
theorem dX1_takePoint_32 : decode cX1_takePoint 32 = .ok (.getfield 48, 3) := by decide +kernel
theorem dX1_takePoint_35 : decode cX1_takePoint 35 = .ok (.aload_n 0, 1) := by decide +kernel
theorem dX1_takePoint_36 : decode cX1_takePoint 36 = .ok (.getfield 27, 3) := by decide +kernel
theorem dX1_takePoint_39 : decode cX1_takePoint 39 = .ok (.iload_n 1, 1) := by decide +kernel
theorem dX1_takePoint_40 : decode cX1_takePoint 40 = .ok (.bipush 8, 2) := by decide +kernel
theorem dX1_takePoint_42 : decode cX1_takePoint 42 = .ok (.imul, 1) := by decide +kernel
theorem dX1_takePoint_43 : decode cX1_takePoint 43 = .ok (.invokevirtual 149, 3) := by decide +kernel
theorem dX1_takePoint_46 : decode cX1_takePoint 46 = .ok (.iinc 1 1, 3) := by decide +kernel
theorem dX1_takePoint_49 : decode cX1_takePoint 49 = .ok (.goto (-40), 3) := by decide +kernel
theorem dX1_takePoint_52 : decode cX1_takePoint 52 = .ok (.aload_n 0, 1) := by decide +kernel
theorem dX1_takePoint_53 : decode cX1_takePoint 53 = .ok (.getfield 12, 3) := by decide +kernel
theorem dX1_takePoint_56 : decode cX1_takePoint 56 = .ok (.invokevirtual 119, 3) := by decide +kernel
theorem dX1_takePoint_59 : decode cX1_takePoint 59 = .ok (.aload_n 0, 1) := by decide +kernel
theorem dX1_takePoint_60 : decode cX1_takePoint 60 = .ok (.getfield 12, 3) := by decide +kernel
theorem dX1_takePoint_63 : decode cX1_takePoint 63 = .ok (.aload_n 0, 1) := by decide +kernel
theorem dX1_takePoint_64 : decode cX1_takePoint 64 = .ok (.getfield 48, 3) := by decide +kernel
theorem dX1_takePoint_67 : decode cX1_takePoint 67 = .ok (.invokevirtual 126, 3) := by decide +kernel
theorem dX1_takePoint_70 : decode cX1_takePoint 70 = .ok (.aload_n 0, 1) := by decide +kernel
theorem dX1_takePoint_71 : decode cX1_takePoint 71 = .ok (.getfield 48, 3) := by decide +kernel
theorem dX1_takePoint_74 : decode cX1_takePoint 74 = .ok (.aload_n 0, 1) := by decide +kernel
theorem dX1_takePoint_75 : decode cX1_takePoint 75 = .ok (.getfield 27, 3) := by decide +kernel
theorem dX1_takePoint_78 : decode cX1_takePoint 78 = .ok (.iconst 0, 1) := by decide +kernel
theorem dX1_takePoint_79 : decode cX1_takePoint 79 = .ok (.invokevirtual 149, 3) := by decide +kernel
theorem dX1_takePoint_82 : decode cX1_takePoint 82 = .ok (.return_, 1) := by decide +kernel
theorem w_87 : Cond.selects RX1 yX1_fail yX1_fail ∈ tb := sel_6 (q := (yX1_fail, 18)) 7 (by decide +kernel)
theorem w_88 : Cond.selects RX1 yX1_holdUnbounded yX1_holdUnbounded ∈ tb := sel_6 (q := (yX1_holdUnbounded, 18)) 8 (by decide +kernel)
theorem w_89 : Cond.selects RX1 yX1_takePoint yX1_takePoint ∈ tb := sel_6 (q := (yX1_takePoint, 18)) 9 (by decide +kernel)
theorem w_90 : Cond.selects RX1 yX1_isPoint yX1_isPoint ∈ tb := sel_6 (q := (yX1_isPoint, 18)) 10 (by decide +kernel)
theorem w_91 : Cond.selects RX1 yX1_sumAt yX1_sumAt ∈ tb := sel_6 (q := (yX1_sumAt, 18)) 11 (by decide +kernel)
theorem w_92 : Cond.selects RX1 yX1_scaleBound yX1_scaleBound ∈ tb := sel_6 (q := (yX1_scaleBound, 18)) 12 (by decide +kernel)
theorem w_93 : Cond.selects RX1 yX1_isAlong yX1_isAlong ∈ tb := sel_6 (q := (yX1_isAlong, 18)) 13 (by decide +kernel)
theorem w_94 : Cond.selects RX1 yX1_holdOptimal yX1_holdOptimal ∈ tb := sel_6 (q := (yX1_holdOptimal, 18)) 14 (by decide +kernel)
theorem w_95 : Cond.selects RX1 yX1_isValue yX1_isValue ∈ tb := sel_6 (q := (yX1_isValue, 18)) 15 (by decide +kernel)
theorem w_96 : Cond.selects RX1 yX1_holdTrees yX1_holdTrees ∈ tb := sel_7 (q := (yX1_holdTrees, 18)) 0 (by decide +kernel)
theorem w_97 : Cond.selects RX1 yX1_branch yX1_branch ∈ tb := sel_7 (q := (yX1_branch, 18)) 1 (by decide +kernel)
theorem w_98 : Cond.selects RX1 yX1_pairTree yX1_pairTree ∈ tb := sel_7 (q := (yX1_pairTree, 18)) 2 (by decide +kernel)
theorem w_99 : Cond.selects RX1 yX1_takePairs yX1_takePairs ∈ tb := sel_7 (q := (yX1_takePairs, 18)) 3 (by decide +kernel)
theorem w_100 : Cond.selects RX1 yX1_isFarkas yX1_isFarkas ∈ tb := sel_7 (q := (yX1_isFarkas, 18)) 4 (by decide +kernel)
theorem w_101 : Cond.selects RX1 yX1_isBound yX1_isBound ∈ tb := sel_7 (q := (yX1_isBound, 18)) 5 (by decide +kernel)
theorem w_102 : Cond.selects RX1 yX1_beginSecondTree yX1_beginSecondTree ∈ tb := sel_7 (q := (yX1_beginSecondTree, 18)) 6 (by decide +kernel)
theorem w_215 : Cond.initialized RX1 ∈ tb := tbc_1 12 (by decide +kernel) rfl
theorem w_266 : Cond.fieldLinkNest RX1 84 (TX3 2).1 (TX3 2).2.1 (TX3 2).2.2.1 "OptimumHouse" ∈ nst := nsc_1 63 (by decide +kernel) rfl
theorem w_276 : Cond.fieldLinkNest RX1 191 (TX3 3).1 (TX3 3).2.1 (TX3 3).2.2.1 "OptimumHouse" ∈ nst := nsc_1 73 (by decide +kernel) rfl
theorem w_279 : Cond.fieldLinkNest RX1 130 (TX3 4).1 (TX3 4).2.1 (TX3 4).2.2.1 "OptimumHouse" ∈ nst := nsc_1 76 (by decide +kernel) rfl
theorem w_406 : Cond.fieldLinkNest RX1 181 (TX0 2).1 (TX0 2).2.1 (TX0 2).2.2.1 "OptimumHouse" ∈ nst := nsc_1 203 (by decide +kernel) rfl
theorem w_649 : Cond.fieldLink RX1 12 (TX1 0).1 (TX1 0).2.1 (TX1 0).2.2.1 ∈ tb := tbc_2 206 (by decide +kernel) rfl
theorem w_650 : Cond.fieldLink RX1 21 (TX1 1).1 (TX1 1).2.1 (TX1 1).2.2.1 ∈ tb := tbc_2 207 (by decide +kernel) rfl
theorem w_651 : Cond.fieldLink RX1 27 (TX1 2).1 (TX1 2).2.1 (TX1 2).2.2.1 ∈ tb := tbc_2 208 (by decide +kernel) rfl
theorem w_652 : Cond.fieldLink RX1 32 (TX1 3).1 (TX1 3).2.1 (TX1 3).2.2.1 ∈ tb := tbc_2 209 (by decide +kernel) rfl
theorem w_653 : Cond.fieldLink RX1 36 (TX1 4).1 (TX1 4).2.1 (TX1 4).2.2.1 ∈ tb := tbc_2 210 (by decide +kernel) rfl
theorem w_654 : Cond.fieldLink RX1 39 (TX1 5).1 (TX1 5).2.1 (TX1 5).2.2.1 ∈ tb := tbc_2 211 (by decide +kernel) rfl
theorem w_655 : Cond.fieldLink RX1 42 (TX1 6).1 (TX1 6).2.1 (TX1 6).2.2.1 ∈ tb := tbc_2 212 (by decide +kernel) rfl
theorem w_656 : Cond.fieldLink RX1 45 (TX1 7).1 (TX1 7).2.1 (TX1 7).2.2.1 ∈ tb := tbc_2 213 (by decide +kernel) rfl
theorem w_657 : Cond.fieldLink RX1 48 (TX1 8).1 (TX1 8).2.1 (TX1 8).2.2.1 ∈ tb := tbc_2 214 (by decide +kernel) rfl
theorem w_658 : Cond.fieldLink RX1 51 (TX1 9).1 (TX1 9).2.1 (TX1 9).2.2.1 ∈ tb := tbc_2 215 (by decide +kernel) rfl
theorem w_659 : Cond.fieldLink RX1 54 (TX1 10).1 (TX1 10).2.1 (TX1 10).2.2.1 ∈ tb := tbc_2 216 (by decide +kernel) rfl
theorem w_660 : Cond.fieldLink RX1 57 (TX1 11).1 (TX1 11).2.1 (TX1 11).2.2.1 ∈ tb := tbc_2 217 (by decide +kernel) rfl
theorem w_661 : Cond.fieldLink RX1 60 (TX1 12).1 (TX1 12).2.1 (TX1 12).2.2.1 ∈ tb := tbc_2 218 (by decide +kernel) rfl
theorem w_662 : Cond.fieldLink RX1 63 (TX1 13).1 (TX1 13).2.1 (TX1 13).2.2.1 ∈ tb := tbc_2 219 (by decide +kernel) rfl
theorem w_663 : Cond.fieldLink RX1 103 (TX1 14).1 (TX1 14).2.1 (TX1 14).2.2.1 ∈ tb := tbc_2 220 (by decide +kernel) rfl
theorem w_664 : Cond.fieldLink RX1 69 (TX1 15).1 (TX1 15).2.1 (TX1 15).2.2.1 ∈ tb := tbc_2 221 (by decide +kernel) rfl
theorem w_665 : Cond.fieldLink RX1 77 (TX1 16).1 (TX1 16).2.1 (TX1 16).2.2.1 ∈ tb := tbc_2 222 (by decide +kernel) rfl
theorem w_666 : Cond.fieldLink RX1 73 (TX1 17).1 (TX1 17).2.1 (TX1 17).2.2.1 ∈ tb := tbc_2 223 (by decide +kernel) rfl
theorem w_667 : u_lay RX1 TX1 0 ∈ tb := tbc_2 224 (by decide +kernel) rfl
theorem w_669 : u_lay RX1 TX1 1 ∈ tb := tbc_2 226 (by decide +kernel) rfl
theorem w_671 : u_lay RX1 TX1 2 ∈ tb := tbc_2 228 (by decide +kernel) rfl
theorem w_673 : u_lay RX1 TX1 3 ∈ tb := tbc_2 230 (by decide +kernel) rfl
theorem w_675 : u_lay RX1 TX1 4 ∈ tb := tbc_2 232 (by decide +kernel) rfl
theorem w_677 : u_lay RX1 TX1 5 ∈ tb := tbc_2 234 (by decide +kernel) rfl
theorem w_679 : u_lay RX1 TX1 6 ∈ tb := tbc_2 236 (by decide +kernel) rfl
theorem w_681 : u_lay RX1 TX1 7 ∈ tb := tbc_2 238 (by decide +kernel) rfl
theorem w_683 : u_lay RX1 TX1 8 ∈ tb := tbc_3 0 (by decide +kernel) rfl
theorem w_685 : u_lay RX1 TX1 9 ∈ tb := tbc_3 2 (by decide +kernel) rfl
theorem w_687 : u_lay RX1 TX1 10 ∈ tb := tbc_3 4 (by decide +kernel) rfl
theorem w_689 : u_lay RX1 TX1 11 ∈ tb := tbc_3 6 (by decide +kernel) rfl
theorem w_691 : u_lay RX1 TX1 12 ∈ tb := tbc_3 8 (by decide +kernel) rfl
theorem w_693 : u_lay RX1 TX1 13 ∈ tb := tbc_3 10 (by decide +kernel) rfl
theorem w_695 : u_lay RX1 TX1 14 ∈ tb := tbc_3 12 (by decide +kernel) rfl
theorem w_697 : u_lay RX1 TX1 15 ∈ tb := tbc_3 14 (by decide +kernel) rfl
theorem w_699 : u_lay RX1 TX1 16 ∈ tb := tbc_3 16 (by decide +kernel) rfl
theorem w_701 : u_lay RX1 TX1 17 ∈ tb := tbc_3 18 (by decide +kernel) rfl
theorem w_1752 : Cond.methodLink RX1 80 yX4_open ∈ tb := tbc_7 109 (by decide +kernel) rfl
theorem w_1753 : Cond.instanceMethod yX4_open ∈ tb := tbc_7 110 (by decide +kernel) rfl
theorem w_1754 : Cond.selects RX4 yX4_open yX4_open ∈ tb := tbc_7 111 (by decide +kernel) rfl
theorem w_1755 : Cond.code yX4_open cX4_open 5 none ∈ tb := tbc_7 112 (by decide +kernel) rfl
theorem w_1803 : Cond.methodLink RX1 87 yX4_isProof ∈ tb := tbc_7 160 (by decide +kernel) rfl
theorem w_1804 : Cond.instanceMethod yX4_isProof ∈ tb := tbc_7 161 (by decide +kernel) rfl
theorem w_1805 : Cond.selects RX4 yX4_isProof yX4_isProof ∈ tb := tbc_7 162 (by decide +kernel) rfl
theorem w_1806 : Cond.code yX4_isProof cX4_isProof 3 (some .boolean) ∈ tb := tbc_7 163 (by decide +kernel) rfl
theorem w_1835 : Cond.methodLink RX1 91 yX4_start ∈ tb := tbc_7 192 (by decide +kernel) rfl
theorem w_1836 : Cond.methodLink RX1 95 yX1_fail ∈ tb := tbc_7 193 (by decide +kernel) rfl
theorem w_1838 : Cond.instanceMethod yX1_fail ∈ tb := tbc_7 195 (by decide +kernel) rfl
theorem w_1839 : Cond.code yX1_fail cX1_fail 3 (some .boolean) ∈ tb := tbc_7 196 (by decide +kernel) rfl
theorem w_1840 : Cond.methodLink RX1 99 yX6_take ∈ tb := tbc_7 197 (by decide +kernel) rfl
theorem w_1841 : Cond.methodLink RX1 106 yX4_rewind ∈ tb := tbc_7 198 (by decide +kernel) rfl
theorem w_1842 : Cond.instanceMethod yX4_rewind ∈ tb := tbc_7 199 (by decide +kernel) rfl
theorem w_1843 : Cond.selects RX4 yX4_rewind yX4_rewind ∈ tb := tbc_7 200 (by decide +kernel) rfl
theorem w_1844 : Cond.code yX4_rewind cX4_rewind 1 none ∈ tb := tbc_7 201 (by decide +kernel) rfl
theorem w_1845 : Cond.methodLink RX1 109 yX4_kind ∈ tb := tbc_7 202 (by decide +kernel) rfl
theorem w_1846 : Cond.methodLink RX1 112 yX1_holdUnbounded ∈ tb := tbc_7 203 (by decide +kernel) rfl
theorem w_1848 : Cond.instanceMethod yX1_holdUnbounded ∈ tb := tbc_7 205 (by decide +kernel) rfl
theorem w_1849 : Cond.code yX1_holdUnbounded cX1_holdUnbounded 3 (some .boolean) ∈ tb := tbc_7 206 (by decide +kernel) rfl
theorem w_1850 : Cond.methodLink RX1 119 yX4_advance ∈ tb := tbc_7 207 (by decide +kernel) rfl
theorem w_1851 : Cond.instanceMethod yX4_advance ∈ tb := tbc_7 208 (by decide +kernel) rfl
theorem w_1852 : Cond.selects RX4 yX4_advance yX4_advance ∈ tb := tbc_7 209 (by decide +kernel) rfl
theorem w_1853 : Cond.code yX4_advance cX4_advance 1 none ∈ tb := tbc_7 210 (by decide +kernel) rfl
theorem w_1854 : Cond.methodLink RX1 137 yX1_takePoint ∈ tb := tbc_7 211 (by decide +kernel) rfl
theorem w_1856 : Cond.instanceMethod yX1_takePoint ∈ tb := tbc_7 213 (by decide +kernel) rfl
theorem w_1857 : Cond.code yX1_takePoint cX1_takePoint 2 none ∈ tb := tbc_7 214 (by decide +kernel) rfl
theorem w_1858 : Cond.methodLink RX1 126 yX4_takeNumber ∈ tb := tbc_7 215 (by decide +kernel) rfl
theorem w_1859 : Cond.instanceMethod yX4_takeNumber ∈ tb := tbc_7 216 (by decide +kernel) rfl
theorem w_1860 : Cond.selects RX4 yX4_takeNumber yX4_takeNumber ∈ tb := tbc_7 217 (by decide +kernel) rfl
theorem w_1861 : Cond.code yX4_takeNumber cX4_takeNumber 5 none ∈ tb := tbc_7 218 (by decide +kernel) rfl
theorem w_1868 : Cond.methodLink RX1 149 yX0_save ∈ tb := tbc_7 225 (by decide +kernel) rfl
theorem w_1869 : Cond.methodLink RX1 143 yX1_isPoint ∈ tb := tbc_7 226 (by decide +kernel) rfl
theorem w_1871 : Cond.instanceMethod yX1_isPoint ∈ tb := tbc_7 228 (by decide +kernel) rfl
theorem w_1872 : Cond.code yX1_isPoint cX1_isPoint 3 (some .boolean) ∈ tb := tbc_7 229 (by decide +kernel) rfl
theorem w_1873 : Cond.methodLink RX1 157 yX0_load ∈ tb := tbc_7 230 (by decide +kernel) rfl
theorem w_1874 : Cond.methodLink RX1 184 yX3_isWhole ∈ tb := tbc_7 231 (by decide +kernel) rfl
theorem w_1875 : Cond.methodLink RX1 187 yX0_divide ∈ tb := tbc_7 232 (by decide +kernel) rfl
theorem w_1876 : Cond.methodLink RX1 170 yX1_sumAt ∈ tb := tbc_7 233 (by decide +kernel) rfl
theorem w_1878 : Cond.instanceMethod yX1_sumAt ∈ tb := tbc_7 235 (by decide +kernel) rfl
theorem w_1879 : Cond.code yX1_sumAt cX1_sumAt 3 none ∈ tb := tbc_7 236 (by decide +kernel) rfl
theorem w_1880 : Cond.methodLink RX1 153 yX0_put ∈ tb := tbc_7 237 (by decide +kernel) rfl
theorem w_1881 : Cond.methodLink RX1 160 yX6_number ∈ tb := tbc_7 238 (by decide +kernel) rfl
theorem w_1882 : Cond.instanceMethod yX6_number ∈ tb := tbc_7 239 (by decide +kernel) rfl
theorem w_1883 : Cond.selects RX6 yX6_number yX6_number ∈ tb := tbc_8 0 (by decide +kernel) rfl
theorem w_1884 : Cond.code yX6_number cX6_number 4 none ∈ tb := tbc_8 1 (by decide +kernel) rfl
theorem w_1885 : Cond.methodLink RX1 163 yX0_product ∈ tb := tbc_8 2 (by decide +kernel) rfl
theorem w_1886 : Cond.methodLink RX1 166 yX0_add ∈ tb := tbc_8 3 (by decide +kernel) rfl
theorem w_1887 : Cond.methodLink RX1 174 yX1_scaleBound ∈ tb := tbc_8 4 (by decide +kernel) rfl
theorem w_1889 : Cond.instanceMethod yX1_scaleBound ∈ tb := tbc_8 6 (by decide +kernel) rfl
theorem w_1890 : Cond.code yX1_scaleBound cX1_scaleBound 2 none ∈ tb := tbc_8 7 (by decide +kernel) rfl
theorem w_1891 : Cond.methodLink RX1 177 yX0_compareWith ∈ tb := tbc_8 8 (by decide +kernel) rfl
theorem w_1892 : Cond.methodLink RX1 146 yX1_isAlong ∈ tb := tbc_8 9 (by decide +kernel) rfl
theorem w_1894 : Cond.instanceMethod yX1_isAlong ∈ tb := tbc_8 11 (by decide +kernel) rfl
theorem w_1895 : Cond.code yX1_isAlong cX1_isAlong 2 (some .boolean) ∈ tb := tbc_8 12 (by decide +kernel) rfl
theorem w_1896 : Cond.methodLink RX1 116 yX1_holdOptimal ∈ tb := tbc_8 13 (by decide +kernel) rfl
theorem w_1898 : Cond.instanceMethod yX1_holdOptimal ∈ tb := tbc_8 15 (by decide +kernel) rfl
theorem w_1899 : Cond.code yX1_holdOptimal cX1_holdOptimal 3 (some .boolean) ∈ tb := tbc_8 16 (by decide +kernel) rfl
theorem w_1900 : Cond.methodLink RX1 134 yX0_turn ∈ tb := tbc_8 17 (by decide +kernel) rfl
theorem w_1901 : Cond.methodLink RX1 140 yX1_isValue ∈ tb := tbc_8 18 (by decide +kernel) rfl
theorem w_1903 : Cond.instanceMethod yX1_isValue ∈ tb := tbc_8 20 (by decide +kernel) rfl
theorem w_1904 : Cond.code yX1_isValue cX1_isValue 1 (some .boolean) ∈ tb := tbc_8 21 (by decide +kernel) rfl
theorem w_1905 : Cond.methodLink RX1 122 yX1_holdTrees ∈ tb := tbc_8 22 (by decide +kernel) rfl
theorem w_1907 : Cond.instanceMethod yX1_holdTrees ∈ tb := tbc_8 24 (by decide +kernel) rfl
theorem w_1908 : Cond.code yX1_holdTrees cX1_holdTrees 6 (some .boolean) ∈ tb := tbc_8 25 (by decide +kernel) rfl
theorem w_1909 : Cond.methodLink RX1 193 yX1_branch ∈ tb := tbc_8 26 (by decide +kernel) rfl
theorem w_1911 : Cond.instanceMethod yX1_branch ∈ tb := tbc_8 28 (by decide +kernel) rfl
theorem w_1912 : Cond.code yX1_branch cX1_branch 2 (some .int) ∈ tb := tbc_8 29 (by decide +kernel) rfl
theorem w_1913 : Cond.methodLink RX1 203 yX4_takeCount ∈ tb := tbc_8 30 (by decide +kernel) rfl
theorem w_1914 : Cond.instanceMethod yX4_takeCount ∈ tb := tbc_8 31 (by decide +kernel) rfl
theorem w_1915 : Cond.selects RX4 yX4_takeCount yX4_takeCount ∈ tb := tbc_8 32 (by decide +kernel) rfl
theorem w_1916 : Cond.code yX4_takeCount cX4_takeCount 5 (some .int) ∈ tb := tbc_8 33 (by decide +kernel) rfl
theorem w_1918 : Cond.methodLink RX1 206 yX6_isFull ∈ tb := tbc_8 35 (by decide +kernel) rfl
theorem w_1919 : Cond.methodLink RX1 209 yX6_count ∈ tb := tbc_8 36 (by decide +kernel) rfl
theorem w_1920 : Cond.methodLink RX1 212 yX6_addLimit ∈ tb := tbc_8 37 (by decide +kernel) rfl
theorem w_1921 : Cond.methodLink RX1 196 yX1_pairTree ∈ tb := tbc_8 38 (by decide +kernel) rfl
theorem w_1923 : Cond.instanceMethod yX1_pairTree ∈ tb := tbc_8 40 (by decide +kernel) rfl
theorem w_1924 : Cond.code yX1_pairTree cX1_pairTree 3 (some .int) ∈ tb := tbc_8 41 (by decide +kernel) rfl
theorem w_1925 : Cond.methodLink RX1 219 yX1_takePairs ∈ tb := tbc_8 42 (by decide +kernel) rfl
theorem w_1927 : Cond.instanceMethod yX1_takePairs ∈ tb := tbc_8 44 (by decide +kernel) rfl
theorem w_1928 : Cond.code yX1_takePairs cX1_takePairs 4 (some .boolean) ∈ tb := tbc_8 45 (by decide +kernel) rfl
theorem w_1929 : Cond.methodLink RX1 235 yX6_clearFactors ∈ tb := tbc_8 46 (by decide +kernel) rfl
theorem w_1930 : Cond.methodLink RX1 238 yX6_setFactor ∈ tb := tbc_8 47 (by decide +kernel) rfl
theorem w_1931 : Cond.methodLink RX1 222 yX3_isAllWhole ∈ tb := tbc_8 48 (by decide +kernel) rfl
theorem w_1932 : Cond.methodLink RX1 225 yX6_addCut ∈ tb := tbc_8 49 (by decide +kernel) rfl
theorem w_1933 : Cond.methodLink RX1 229 yX1_isFarkas ∈ tb := tbc_8 50 (by decide +kernel) rfl
theorem w_1935 : Cond.instanceMethod yX1_isFarkas ∈ tb := tbc_8 52 (by decide +kernel) rfl
theorem w_1936 : Cond.code yX1_isFarkas cX1_isFarkas 2 (some .boolean) ∈ tb := tbc_8 53 (by decide +kernel) rfl
theorem w_1937 : Cond.methodLink RX1 242 yX6_combine ∈ tb := tbc_8 54 (by decide +kernel) rfl
theorem w_1938 : Cond.methodLink RX1 232 yX1_isBound ∈ tb := tbc_8 55 (by decide +kernel) rfl
theorem w_1940 : Cond.instanceMethod yX1_isBound ∈ tb := tbc_8 57 (by decide +kernel) rfl
theorem w_1941 : Cond.code yX1_isBound cX1_isBound 2 (some .boolean) ∈ tb := tbc_8 58 (by decide +kernel) rfl
theorem w_1942 : Cond.methodLink RX1 245 yX3_isGoalWhole ∈ tb := tbc_8 59 (by decide +kernel) rfl
theorem w_1943 : Cond.methodLink RX1 200 yX1_beginSecondTree ∈ tb := tbc_8 60 (by decide +kernel) rfl
theorem w_1945 : Cond.instanceMethod yX1_beginSecondTree ∈ tb := tbc_8 62 (by decide +kernel) rfl
theorem w_1946 : Cond.code yX1_beginSecondTree cX1_beginSecondTree 1 none ∈ tb := tbc_8 63 (by decide +kernel) rfl
theorem w_1947 : Cond.methodLink RX1 216 yX6_keep ∈ tb := tbc_8 64 (by decide +kernel) rfl
theorem inX1 : ∀ w ∈ u_ws RX1 TX1 18, w ∈ tb := by
  show ∀ w ∈ [u_lay RX1 TX1 0, u_lay RX1 TX1 1, u_lay RX1 TX1 2, u_lay RX1 TX1 3, u_lay RX1 TX1 4, u_lay RX1 TX1 5, u_lay RX1 TX1 6, u_lay RX1 TX1 7, u_lay RX1 TX1 8, u_lay RX1 TX1 9, u_lay RX1 TX1 10, u_lay RX1 TX1 11, u_lay RX1 TX1 12, u_lay RX1 TX1 13, u_lay RX1 TX1 14, u_lay RX1 TX1 15, u_lay RX1 TX1 16, u_lay RX1 TX1 17], w ∈ tb
  exact List.forall_mem_cons.mpr ⟨w_667, List.forall_mem_cons.mpr ⟨w_669, List.forall_mem_cons.mpr ⟨w_671, List.forall_mem_cons.mpr ⟨w_673, List.forall_mem_cons.mpr ⟨w_675, List.forall_mem_cons.mpr ⟨w_677, List.forall_mem_cons.mpr ⟨w_679, List.forall_mem_cons.mpr ⟨w_681, List.forall_mem_cons.mpr ⟨w_683, List.forall_mem_cons.mpr ⟨w_685, List.forall_mem_cons.mpr ⟨w_687, List.forall_mem_cons.mpr ⟨w_689, List.forall_mem_cons.mpr ⟨w_691, List.forall_mem_cons.mpr ⟨w_693, List.forall_mem_cons.mpr ⟨w_695, List.forall_mem_cons.mpr ⟨w_697, List.forall_mem_cons.mpr ⟨w_699, List.forall_mem_cons.mpr ⟨w_701, fun _ h => absurd h List.not_mem_nil⟩⟩⟩⟩⟩⟩⟩⟩⟩⟩⟩⟩⟩⟩⟩⟩⟩⟩
section RW45
variable {p : Program} {l : Launch} {e : Env} {R : Room} {s : State} {m : MethodId} {args : Array Value} {below : List Frame} {meth : Method} {c : Code} {H : Heap} {locs : List Loc} {cells slots : Nat} {Q : State → Prop}
variable {cc : ByteArray} {pc nL : Nat} {ls : Array Slot} {rest st0 : List Value} {G : sG} {n : Nat} {S : sS}
theorem g_X1_73 (Cx : sC G p m c cc nL s args RX1) (hW : sW G n S H) {k : Nat} (hk : k < n) (ht : tau k = .inl 1) {v : Int} (hv : S.1 k 17 = v) (hdg : decode cc pc = .ok (.getfield 73, 3)) (kk : W p l e R s m args below meth c H locs cells slots Q (F0 m (pc + 3) ls (.int (iv v) :: rest))) : W p l e R s m args below meth c H locs cells slots Q (F0 m pc ls (.ref (G.2.2.1 + k) :: rest)) :=
  sGet Cx inX1 rfl 17 (by decide) w_666 hW hk ht (congrArg (fun z => Value.int (iv z)) hv) hdg kk
theorem p_X1_77 (Cx : sC G p m c cc nL s args RX1) (hW : sW G n S H) (hL : sL G locs) {k : Nat} (hk : k < n) (ht : tau k = .inl 1) {v : Int} (hdg : decode cc pc = .ok (.putfield 77, 3)) (kk : ∀ (H1 : Heap) (locs1 : List Loc), sW G n (uF S k 16 v) H1 → sL G locs1 → W p l e R s m args below meth c H1 locs1 cells slots Q (F0 m (pc + 3) ls rest)) : W p l e R s m args below meth c H locs cells slots Q (F0 m pc ls (.int (iv v) :: .ref (G.2.2.1 + k) :: rest)) :=
  sPut Cx inX1 tyX1 tyX1_ok nmX1 rfl 16 (by decide) w_665 rfl hW hL hk ht rfl rfl (fun _ h => uF_same h) (fun _ h => uF_off h) (congrArg (fun z => Value.int (iv z)) uF_on) hdg kk
theorem p_X1_73 (Cx : sC G p m c cc nL s args RX1) (hW : sW G n S H) (hL : sL G locs) {k : Nat} (hk : k < n) (ht : tau k = .inl 1) {v : Int} (hdg : decode cc pc = .ok (.putfield 73, 3)) (kk : ∀ (H1 : Heap) (locs1 : List Loc), sW G n (uF S k 17 v) H1 → sL G locs1 → W p l e R s m args below meth c H1 locs1 cells slots Q (F0 m (pc + 3) ls rest)) : W p l e R s m args below meth c H locs cells slots Q (F0 m pc ls (.int (iv v) :: .ref (G.2.2.1 + k) :: rest)) :=
  sPut Cx inX1 tyX1 tyX1_ok nmX1 rfl 17 (by decide) w_666 rfl hW hL hk ht rfl rfl (fun _ h => uF_same h) (fun _ h => uF_off h) (congrArg (fun z => Value.int (iv z)) uF_on) hdg kk
theorem g_X1_12 (Cx : sC G p m c cc nL s args RX1) (hW : sW G n S H) {k : Nat} (hk : k < n) (ht : tau k = .inl 1) {v : Value} (hv : S.2.2.2 k 0 = v) (hdg : decode cc pc = .ok (.getfield 12, 3)) (kk : W p l e R s m args below meth c H locs cells slots Q (F0 m (pc + 3) ls (v :: rest))) : W p l e R s m args below meth c H locs cells slots Q (F0 m pc ls (.ref (G.2.2.1 + k) :: rest)) :=
  sGet Cx inX1 rfl 0 (by decide) w_649 hW hk ht hv hdg kk
theorem c_X1_119 (Cx : sC G p m c cc nL s args RX1) {rm : Room} {mc ms : Nat} (h1 : rm.cells = mc) (h2 : rm.slots = ms) (h3 : rm.frames + 1 ≤ R.frames ∧ 8 + (1 + 11) + rm.locals ≤ R.locals) : CallW R s args RX1 RX4 119 yX4_advance cX4_advance 1 none (.code yX4_advance cX4_advance 1 none :: tb) rm mc ms 0 :=
  sCw Cx 0 w_1850 w_1851 w_1852 w_216 w_1853 (by decide +kernel) h1 h2 h3
theorem g_X1_69 (Cx : sC G p m c cc nL s args RX1) (hW : sW G n S H) {k : Nat} (hk : k < n) (ht : tau k = .inl 1) {v : Value} (hv : S.2.2.2 k 15 = v) (hdg : decode cc pc = .ok (.getfield 69, 3)) (kk : W p l e R s m args below meth c H locs cells slots Q (F0 m (pc + 3) ls (v :: rest))) : W p l e R s m args below meth c H locs cells slots Q (F0 m pc ls (.ref (G.2.2.1 + k) :: rest)) :=
  sGet Cx inX1 rfl 15 (by decide) w_664 hW hk ht hv hdg kk
theorem g_X1_84 (Cx : sC G p m c cc nL s args RX1) (hW : sW G n S H) {k : Nat} (hk : k < n) (ht : tau k = .inl 3) {v : Int} (hv : S.1 k 2 = v) (hdg : decode cc pc = .ok (.getfield 84, 3)) (kk : W p l e R s m args below meth c H locs cells slots Q (F0 m (pc + 3) ls (.int (iv v) :: rest))) : W p l e R s m args below meth c H locs cells slots Q (F0 m pc ls (.ref (G.2.2.1 + k) :: rest)) :=
  sGetN Cx inX3 rfl 2 (by decide) w_266 hW hk ht (congrArg (fun z => Value.int (iv z)) hv) hdg kk
theorem g_X1_48 (Cx : sC G p m c cc nL s args RX1) (hW : sW G n S H) {k : Nat} (hk : k < n) (ht : tau k = .inl 1) {v : Value} (hv : S.2.2.2 k 8 = v) (hdg : decode cc pc = .ok (.getfield 48, 3)) (kk : W p l e R s m args below meth c H locs cells slots Q (F0 m (pc + 3) ls (v :: rest))) : W p l e R s m args below meth c H locs cells slots Q (F0 m pc ls (.ref (G.2.2.1 + k) :: rest)) :=
  sGet Cx inX1 rfl 8 (by decide) w_657 hW hk ht hv hdg kk
theorem c_X1_126 (Cx : sC G p m c cc nL s args RX1) {rm : Room} {mc ms : Nat} (h1 : rm.cells = mc) (h2 : rm.slots = ms) (h3 : rm.frames + 1 ≤ R.frames ∧ 8 + (5 + 11) + rm.locals ≤ R.locals) : CallW R s args RX1 RX4 126 yX4_takeNumber cX4_takeNumber 5 none (.code yX4_takeNumber cX4_takeNumber 5 none :: tb) rm mc ms 1 :=
  sCw Cx 1 w_1858 w_1859 w_1860 w_216 w_1861 (by decide +kernel) h1 h2 h3
theorem g_X1_27 (Cx : sC G p m c cc nL s args RX1) (hW : sW G n S H) {k : Nat} (hk : k < n) (ht : tau k = .inl 1) {v : Value} (hv : S.2.2.2 k 2 = v) (hdg : decode cc pc = .ok (.getfield 27, 3)) (kk : W p l e R s m args below meth c H locs cells slots Q (F0 m (pc + 3) ls (v :: rest))) : W p l e R s m args below meth c H locs cells slots Q (F0 m pc ls (.ref (G.2.2.1 + k) :: rest)) :=
  sGet Cx inX1 rfl 2 (by decide) w_651 hW hk ht hv hdg kk
theorem c_X1_149 (Cx : sC G p m c cc nL s args RX1) {rm : Room} {mc ms : Nat} (h1 : rm.cells = mc) (h2 : rm.slots = ms) (h3 : rm.frames + 1 ≤ R.frames ∧ 8 + (5 + 11) + rm.locals ≤ R.locals) : CallW R s args RX1 RX0 149 yX0_save cX0_save 5 none (.code yX0_save cX0_save 5 none :: tb) rm mc ms 2 :=
  sCw Cx 2 w_1868 w_1331 w_1332 w_212 w_1333 (by decide +kernel) h1 h2 h3
theorem g_X1_42 (Cx : sC G p m c cc nL s args RX1) (hW : sW G n S H) {k : Nat} (hk : k < n) (ht : tau k = .inl 1) {v : Value} (hv : S.2.2.2 k 6 = v) (hdg : decode cc pc = .ok (.getfield 42, 3)) (kk : W p l e R s m args below meth c H locs cells slots Q (F0 m (pc + 3) ls (v :: rest))) : W p l e R s m args below meth c H locs cells slots Q (F0 m pc ls (.ref (G.2.2.1 + k) :: rest)) :=
  sGet Cx inX1 rfl 6 (by decide) w_655 hW hk ht hv hdg kk
theorem c_X1_153 (Cx : sC G p m c cc nL s args RX1) {rm : Room} {mc ms : Nat} (h1 : rm.cells = mc) (h2 : rm.slots = ms) (h3 : rm.frames + 1 ≤ R.frames ∧ 8 + (6 + 11) + rm.locals ≤ R.locals) : CallW R s args RX1 RX0 153 yX0_put cX0_put 6 none (.code yX0_put cX0_put 6 none :: tb) rm mc ms 1 :=
  sCw Cx 1 w_1880 w_1263 w_1264 w_212 w_1265 (by decide +kernel) h1 h2 h3
theorem c_X1_157 (Cx : sC G p m c cc nL s args RX1) {rm : Room} {mc ms : Nat} (h1 : rm.cells = mc) (h2 : rm.slots = ms) (h3 : rm.frames + 1 ≤ R.frames ∧ 8 + (5 + 11) + rm.locals ≤ R.locals) : CallW R s args RX1 RX0 157 yX0_load cX0_load 5 none (.code yX0_load cX0_load 5 none :: tb) rm mc ms 2 :=
  sCw Cx 2 w_1873 w_1149 w_1150 w_212 w_1151 (by decide +kernel) h1 h2 h3
theorem g_X1_21 (Cx : sC G p m c cc nL s args RX1) (hW : sW G n S H) {k : Nat} (hk : k < n) (ht : tau k = .inl 1) {v : Value} (hv : S.2.2.2 k 1 = v) (hdg : decode cc pc = .ok (.getfield 21, 3)) (kk : W p l e R s m args below meth c H locs cells slots Q (F0 m (pc + 3) ls (v :: rest))) : W p l e R s m args below meth c H locs cells slots Q (F0 m pc ls (.ref (G.2.2.1 + k) :: rest)) :=
  sGet Cx inX1 rfl 1 (by decide) w_650 hW hk ht hv hdg kk
theorem g_X1_45 (Cx : sC G p m c cc nL s args RX1) (hW : sW G n S H) {k : Nat} (hk : k < n) (ht : tau k = .inl 1) {v : Value} (hv : S.2.2.2 k 7 = v) (hdg : decode cc pc = .ok (.getfield 45, 3)) (kk : W p l e R s m args below meth c H locs cells slots Q (F0 m (pc + 3) ls (v :: rest))) : W p l e R s m args below meth c H locs cells slots Q (F0 m pc ls (.ref (G.2.2.1 + k) :: rest)) :=
  sGet Cx inX1 rfl 7 (by decide) w_656 hW hk ht hv hdg kk
theorem c_X1_160 (Cx : sC G p m c cc nL s args RX1) {rm : Room} {mc ms : Nat} (h1 : rm.cells = mc) (h2 : rm.slots = ms) (h3 : rm.frames + 1 ≤ R.frames ∧ 8 + (4 + 11) + rm.locals ≤ R.locals) : CallW R s args RX1 RX6 160 yX6_number cX6_number 4 none (.code yX6_number cX6_number 4 none :: tb) rm mc ms 3 :=
  sCw Cx 3 w_1881 w_1882 w_1883 w_211 w_1884 (by decide +kernel) h1 h2 h3
theorem g_X1_51 (Cx : sC G p m c cc nL s args RX1) (hW : sW G n S H) {k : Nat} (hk : k < n) (ht : tau k = .inl 1) {v : Value} (hv : S.2.2.2 k 9 = v) (hdg : decode cc pc = .ok (.getfield 51, 3)) (kk : W p l e R s m args below meth c H locs cells slots Q (F0 m (pc + 3) ls (v :: rest))) : W p l e R s m args below meth c H locs cells slots Q (F0 m pc ls (.ref (G.2.2.1 + k) :: rest)) :=
  sGet Cx inX1 rfl 9 (by decide) w_658 hW hk ht hv hdg kk
theorem c_X1_163 (Cx : sC G p m c cc nL s args RX1) {rm : Room} {mc ms : Nat} (h1 : rm.cells = mc) (h2 : rm.slots = ms) (h3 : rm.frames + 1 ≤ R.frames ∧ 8 + (12 + 11) + rm.locals ≤ R.locals) : CallW R s args RX1 RX0 163 yX0_product cX0_product 12 none (.code yX0_product cX0_product 12 none :: tb) rm mc ms 2 :=
  sCw Cx 2 w_1885 w_1259 w_1260 w_212 w_1261 (by decide +kernel) h1 h2 h3
theorem c_X1_166 (Cx : sC G p m c cc nL s args RX1) {rm : Room} {mc ms : Nat} (h1 : rm.cells = mc) (h2 : rm.slots = ms) (h3 : rm.frames + 1 ≤ R.frames ∧ 8 + (5 + 11) + rm.locals ≤ R.locals) : CallW R s args RX1 RX0 166 yX0_add cX0_add 5 none (.code yX0_add cX0_add 5 none :: tb) rm mc ms 2 :=
  sCw Cx 2 w_1886 w_1280 w_1281 w_212 w_1282 (by decide +kernel) h1 h2 h3
theorem c_X1_170 (Cx : sC G p m c cc nL s args RX1) {rm : Room} {mc ms : Nat} (h1 : rm.cells = mc) (h2 : rm.slots = ms) (h3 : rm.frames + 1 ≤ R.frames ∧ 8 + (3 + 11) + rm.locals ≤ R.locals) : CallW R s args RX1 RX1 170 yX1_sumAt cX1_sumAt 3 none (.code yX1_sumAt cX1_sumAt 3 none :: tb) rm mc ms 1 :=
  sCw Cx 1 w_1876 w_1878 w_91 w_215 w_1879 (by decide +kernel) h1 h2 h3
theorem c_X1_174 (Cx : sC G p m c cc nL s args RX1) {rm : Room} {mc ms : Nat} (h1 : rm.cells = mc) (h2 : rm.slots = ms) (h3 : rm.frames + 1 ≤ R.frames ∧ 8 + (2 + 11) + rm.locals ≤ R.locals) : CallW R s args RX1 RX1 174 yX1_scaleBound cX1_scaleBound 2 none (.code yX1_scaleBound cX1_scaleBound 2 none :: tb) rm mc ms 1 :=
  sCw Cx 1 w_1887 w_1889 w_92 w_215 w_1890 (by decide +kernel) h1 h2 h3
theorem g_X1_36 (Cx : sC G p m c cc nL s args RX1) (hW : sW G n S H) {k : Nat} (hk : k < n) (ht : tau k = .inl 1) {v : Value} (hv : S.2.2.2 k 4 = v) (hdg : decode cc pc = .ok (.getfield 36, 3)) (kk : W p l e R s m args below meth c H locs cells slots Q (F0 m (pc + 3) ls (v :: rest))) : W p l e R s m args below meth c H locs cells slots Q (F0 m pc ls (.ref (G.2.2.1 + k) :: rest)) :=
  sGet Cx inX1 rfl 4 (by decide) w_653 hW hk ht hv hdg kk
theorem g_X1_32 (Cx : sC G p m c cc nL s args RX1) (hW : sW G n S H) {k : Nat} (hk : k < n) (ht : tau k = .inl 1) {v : Value} (hv : S.2.2.2 k 3 = v) (hdg : decode cc pc = .ok (.getfield 32, 3)) (kk : W p l e R s m args below meth c H locs cells slots Q (F0 m (pc + 3) ls (v :: rest))) : W p l e R s m args below meth c H locs cells slots Q (F0 m pc ls (.ref (G.2.2.1 + k) :: rest)) :=
  sGet Cx inX1 rfl 3 (by decide) w_652 hW hk ht hv hdg kk
theorem c_X1_177 (Cx : sC G p m c cc nL s args RX1) {rm : Room} {mc ms : Nat} (h1 : rm.cells = mc) (h2 : rm.slots = ms) (h3 : rm.frames + 1 ≤ R.frames ∧ 8 + (2 + 11) + rm.locals ≤ R.locals) : CallW R s args RX1 RX0 177 yX0_compareWith cX0_compareWith 2 (some .int) (.code yX0_compareWith cX0_compareWith 2 (some .int) :: tb) rm mc ms 1 :=
  sCw Cx 1 w_1891 w_1368 w_1369 w_212 w_1370 (by decide +kernel) h1 h2 h3
theorem g_X1_39 (Cx : sC G p m c cc nL s args RX1) (hW : sW G n S H) {k : Nat} (hk : k < n) (ht : tau k = .inl 1) {v : Value} (hv : S.2.2.2 k 5 = v) (hdg : decode cc pc = .ok (.getfield 39, 3)) (kk : W p l e R s m args below meth c H locs cells slots Q (F0 m (pc + 3) ls (v :: rest))) : W p l e R s m args below meth c H locs cells slots Q (F0 m pc ls (.ref (G.2.2.1 + k) :: rest)) :=
  sGet Cx inX1 rfl 5 (by decide) w_654 hW hk ht hv hdg kk
theorem g_X1_191 (Cx : sC G p m c cc nL s args RX1) (hW : sW G n S H) {k : Nat} (hk : k < n) (ht : tau k = .inl 3) {v : Int} (hv : S.1 k 3 = v) (hdg : decode cc pc = .ok (.getfield 191, 3)) (kk : W p l e R s m args below meth c H locs cells slots Q (F0 m (pc + 3) ls (.int (iv v) :: rest))) : W p l e R s m args below meth c H locs cells slots Q (F0 m pc ls (.ref (G.2.2.1 + k) :: rest)) :=
  sGetN Cx inX3 rfl 3 (by decide) w_276 hW hk ht (congrArg (fun z => Value.int (iv z)) hv) hdg kk
theorem g_X1_181 (Cx : sC G p m c cc nL s args RX1) (hW : sW G n S H) {k : Nat} (hk : k < n) (ht : tau k = .inl 0) {v : Int} (hv : S.1 k 2 = v) (hdg : decode cc pc = .ok (.getfield 181, 3)) (kk : W p l e R s m args below meth c H locs cells slots Q (F0 m (pc + 3) ls (.int (iv v) :: rest))) : W p l e R s m args below meth c H locs cells slots Q (F0 m pc ls (.ref (G.2.2.1 + k) :: rest)) :=
  sGetN Cx inX0 rfl 2 (by decide) w_406 hW hk ht (congrArg (fun z => Value.int (iv z)) hv) hdg kk
theorem c_X1_184 (Cx : sC G p m c cc nL s args RX1) {rm : Room} {mc ms : Nat} (h1 : rm.cells = mc) (h2 : rm.slots = ms) (h3 : rm.frames + 1 ≤ R.frames ∧ 8 + (2 + 11) + rm.locals ≤ R.locals) : CallW R s args RX1 RX3 184 yX3_isWhole cX3_isWhole 2 (some .boolean) (.code yX3_isWhole cX3_isWhole 2 (some .boolean) :: tb) rm mc ms 1 :=
  sCw Cx 1 w_1874 w_1376 w_1377 w_207 w_1378 (by decide +kernel) h1 h2 h3
theorem g_X1_54 (Cx : sC G p m c cc nL s args RX1) (hW : sW G n S H) {k : Nat} (hk : k < n) (ht : tau k = .inl 1) {v : Value} (hv : S.2.2.2 k 10 = v) (hdg : decode cc pc = .ok (.getfield 54, 3)) (kk : W p l e R s m args below meth c H locs cells slots Q (F0 m (pc + 3) ls (v :: rest))) : W p l e R s m args below meth c H locs cells slots Q (F0 m pc ls (.ref (G.2.2.1 + k) :: rest)) :=
  sGet Cx inX1 rfl 10 (by decide) w_659 hW hk ht hv hdg kk
theorem c_X1_187 (Cx : sC G p m c cc nL s args RX1) {rm : Room} {mc ms : Nat} (h1 : rm.cells = mc) (h2 : rm.slots = ms) (h3 : rm.frames + 1 ≤ R.frames ∧ 8 + (5 + 11) + rm.locals ≤ R.locals) : CallW R s args RX1 RX0 187 yX0_divide cX0_divide 5 none (.code yX0_divide cX0_divide 5 none :: tb) rm mc ms 3 :=
  sCw Cx 3 w_1875 w_1306 w_1307 w_212 w_1308 (by decide +kernel) h1 h2 h3
theorem c_X1_235 (Cx : sC G p m c cc nL s args RX1) {rm : Room} {mc ms : Nat} (h1 : rm.cells = mc) (h2 : rm.slots = ms) (h3 : rm.frames + 1 ≤ R.frames ∧ 8 + (2 + 11) + rm.locals ≤ R.locals) : CallW R s args RX1 RX6 235 yX6_clearFactors cX6_clearFactors 2 none (.code yX6_clearFactors cX6_clearFactors 2 none :: tb) rm mc ms 0 :=
  sCw Cx 0 w_1929 w_1186 w_1187 w_211 w_1188 (by decide +kernel) h1 h2 h3
theorem c_X1_109 (Cx : sC G p m c cc nL s args RX1) {rm : Room} {mc ms : Nat} (h1 : rm.cells = mc) (h2 : rm.slots = ms) (h3 : rm.frames + 1 ≤ R.frames ∧ 8 + (1 + 11) + rm.locals ≤ R.locals) : CallW R s args RX1 RX4 109 yX4_kind cX4_kind 1 (some .int) (.code yX4_kind cX4_kind 1 (some .int) :: tb) rm mc ms 0 :=
  sCw Cx 0 w_1845 w_1808 w_1809 w_216 w_1810 (by decide +kernel) h1 h2 h3
theorem c_X1_203 (Cx : sC G p m c cc nL s args RX1) {rm : Room} {mc ms : Nat} (h1 : rm.cells = mc) (h2 : rm.slots = ms) (h3 : rm.frames + 1 ≤ R.frames ∧ 8 + (5 + 11) + rm.locals ≤ R.locals) : CallW R s args RX1 RX4 203 yX4_takeCount cX4_takeCount 5 (some .int) (.code yX4_takeCount cX4_takeCount 5 (some .int) :: tb) rm mc ms 0 :=
  sCw Cx 0 w_1913 w_1914 w_1915 w_216 w_1916 (by decide +kernel) h1 h2 h3
theorem c_X1_209 (Cx : sC G p m c cc nL s args RX1) {rm : Room} {mc ms : Nat} (h1 : rm.cells = mc) (h2 : rm.slots = ms) (h3 : rm.frames + 1 ≤ R.frames ∧ 8 + (1 + 11) + rm.locals ≤ R.locals) : CallW R s args RX1 RX6 209 yX6_count cX6_count 1 (some .int) (.code yX6_count cX6_count 1 (some .int) :: tb) rm mc ms 0 :=
  sCw Cx 0 w_1919 w_1698 w_1699 w_211 w_1700 (by decide +kernel) h1 h2 h3
theorem c_X1_238 (Cx : sC G p m c cc nL s args RX1) {rm : Room} {mc ms : Nat} (h1 : rm.cells = mc) (h2 : rm.slots = ms) (h3 : rm.frames + 1 ≤ R.frames ∧ 8 + (3 + 11) + rm.locals ≤ R.locals) : CallW R s args RX1 RX6 238 yX6_setFactor cX6_setFactor 3 none (.code yX6_setFactor cX6_setFactor 3 none :: tb) rm mc ms 2 :=
  sCw Cx 2 w_1930 w_1490 w_1491 w_211 w_1492 (by decide +kernel) h1 h2 h3
theorem c_X1_242 (Cx : sC G p m c cc nL s args RX1) {rm : Room} {mc ms : Nat} (h1 : rm.cells = mc) (h2 : rm.slots = ms) (h3 : rm.frames + 1 ≤ R.frames ∧ 8 + (4 + 11) + rm.locals ≤ R.locals) : CallW R s args RX1 RX6 242 yX6_combine cX6_combine 4 none (.code yX6_combine cX6_combine 4 none :: tb) rm mc ms 2 :=
  sCw Cx 2 w_1937 w_1508 w_1509 w_211 w_1510 (by decide +kernel) h1 h2 h3
theorem c_X1_245 (Cx : sC G p m c cc nL s args RX1) {rm : Room} {mc ms : Nat} (h1 : rm.cells = mc) (h2 : rm.slots = ms) (h3 : rm.frames + 1 ≤ R.frames ∧ 8 + (2 + 11) + rm.locals ≤ R.locals) : CallW R s args RX1 RX3 245 yX3_isGoalWhole cX3_isGoalWhole 2 (some .boolean) (.code yX3_isGoalWhole cX3_isGoalWhole 2 (some .boolean) :: tb) rm mc ms 0 :=
  sCw Cx 0 w_1942 w_1348 w_1349 w_207 w_1350 (by decide +kernel) h1 h2 h3
theorem c_X1_219 (Cx : sC G p m c cc nL s args RX1) {rm : Room} {mc ms : Nat} (h1 : rm.cells = mc) (h2 : rm.slots = ms) (h3 : rm.frames + 1 ≤ R.frames ∧ 8 + (4 + 11) + rm.locals ≤ R.locals) : CallW R s args RX1 RX1 219 yX1_takePairs cX1_takePairs 4 (some .boolean) (.code yX1_takePairs cX1_takePairs 4 (some .boolean) :: tb) rm mc ms 0 :=
  sCw Cx 0 w_1925 w_1927 w_99 w_215 w_1928 (by decide +kernel) h1 h2 h3
theorem c_X1_232 (Cx : sC G p m c cc nL s args RX1) {rm : Room} {mc ms : Nat} (h1 : rm.cells = mc) (h2 : rm.slots = ms) (h3 : rm.frames + 1 ≤ R.frames ∧ 8 + (2 + 11) + rm.locals ≤ R.locals) : CallW R s args RX1 RX1 232 yX1_isBound cX1_isBound 2 (some .boolean) (.code yX1_isBound cX1_isBound 2 (some .boolean) :: tb) rm mc ms 0 :=
  sCw Cx 0 w_1938 w_1940 w_101 w_215 w_1941 (by decide +kernel) h1 h2 h3
theorem c_X1_229 (Cx : sC G p m c cc nL s args RX1) {rm : Room} {mc ms : Nat} (h1 : rm.cells = mc) (h2 : rm.slots = ms) (h3 : rm.frames + 1 ≤ R.frames ∧ 8 + (2 + 11) + rm.locals ≤ R.locals) : CallW R s args RX1 RX1 229 yX1_isFarkas cX1_isFarkas 2 (some .boolean) (.code yX1_isFarkas cX1_isFarkas 2 (some .boolean) :: tb) rm mc ms 0 :=
  sCw Cx 0 w_1933 w_1935 w_100 w_215 w_1936 (by decide +kernel) h1 h2 h3
theorem c_X1_222 (Cx : sC G p m c cc nL s args RX1) {rm : Room} {mc ms : Nat} (h1 : rm.cells = mc) (h2 : rm.slots = ms) (h3 : rm.frames + 1 ≤ R.frames ∧ 8 + (1 + 11) + rm.locals ≤ R.locals) : CallW R s args RX1 RX3 222 yX3_isAllWhole cX3_isAllWhole 1 (some .boolean) (.code yX3_isAllWhole cX3_isAllWhole 1 (some .boolean) :: tb) rm mc ms 0 :=
  sCw Cx 0 w_1931 w_1396 w_1397 w_207 w_1398 (by decide +kernel) h1 h2 h3
theorem c_X1_225 (Cx : sC G p m c cc nL s args RX1) {rm : Room} {mc ms : Nat} (h1 : rm.cells = mc) (h2 : rm.slots = ms) (h3 : rm.frames + 1 ≤ R.frames ∧ 8 + (3 + 11) + rm.locals ≤ R.locals) : CallW R s args RX1 RX6 225 yX6_addCut cX6_addCut 3 (some .boolean) (.code yX6_addCut cX6_addCut 3 (some .boolean) :: tb) rm mc ms 1 :=
  sCw Cx 1 w_1932 w_1503 w_1504 w_211 w_1505 (by decide +kernel) h1 h2 h3
theorem c_X1_206 (Cx : sC G p m c cc nL s args RX1) {rm : Room} {mc ms : Nat} (h1 : rm.cells = mc) (h2 : rm.slots = ms) (h3 : rm.frames + 1 ≤ R.frames ∧ 8 + (1 + 11) + rm.locals ≤ R.locals) : CallW R s args RX1 RX6 206 yX6_isFull cX6_isFull 1 (some .boolean) (.code yX6_isFull cX6_isFull 1 (some .boolean) :: tb) rm mc ms 0 :=
  sCw Cx 0 w_1918 w_1495 w_1496 w_211 w_1497 (by decide +kernel) h1 h2 h3
theorem g_X1_103 (Cx : sC G p m c cc nL s args RX1) (hW : sW G n S H) {k : Nat} (hk : k < n) (ht : tau k = .inl 1) {v : Int} (hv : S.1 k 14 = v) (hdg : decode cc pc = .ok (.getfield 103, 3)) (kk : W p l e R s m args below meth c H locs cells slots Q (F0 m (pc + 3) ls (.int (iv v) :: rest))) : W p l e R s m args below meth c H locs cells slots Q (F0 m pc ls (.ref (G.2.2.1 + k) :: rest)) :=
  sGet Cx inX1 rfl 14 (by decide) w_663 hW hk ht (congrArg (fun z => Value.int (iv z)) hv) hdg kk
theorem g_X1_57 (Cx : sC G p m c cc nL s args RX1) (hW : sW G n S H) {k : Nat} (hk : k < n) (ht : tau k = .inl 1) {v : Value} (hv : S.2.2.2 k 11 = v) (hdg : decode cc pc = .ok (.getfield 57, 3)) (kk : W p l e R s m args below meth c H locs cells slots Q (F0 m (pc + 3) ls (v :: rest))) : W p l e R s m args below meth c H locs cells slots Q (F0 m pc ls (.ref (G.2.2.1 + k) :: rest)) :=
  sGet Cx inX1 rfl 11 (by decide) w_660 hW hk ht hv hdg kk
theorem g_X1_60 (Cx : sC G p m c cc nL s args RX1) (hW : sW G n S H) {k : Nat} (hk : k < n) (ht : tau k = .inl 1) {v : Value} (hv : S.2.2.2 k 12 = v) (hdg : decode cc pc = .ok (.getfield 60, 3)) (kk : W p l e R s m args below meth c H locs cells slots Q (F0 m (pc + 3) ls (v :: rest))) : W p l e R s m args below meth c H locs cells slots Q (F0 m pc ls (.ref (G.2.2.1 + k) :: rest)) :=
  sGet Cx inX1 rfl 12 (by decide) w_661 hW hk ht hv hdg kk
theorem g_X1_63 (Cx : sC G p m c cc nL s args RX1) (hW : sW G n S H) {k : Nat} (hk : k < n) (ht : tau k = .inl 1) {v : Value} (hv : S.2.2.2 k 13 = v) (hdg : decode cc pc = .ok (.getfield 63, 3)) (kk : W p l e R s m args below meth c H locs cells slots Q (F0 m (pc + 3) ls (v :: rest))) : W p l e R s m args below meth c H locs cells slots Q (F0 m pc ls (.ref (G.2.2.1 + k) :: rest)) :=
  sGet Cx inX1 rfl 13 (by decide) w_662 hW hk ht hv hdg kk
theorem p_X1_103 (Cx : sC G p m c cc nL s args RX1) (hW : sW G n S H) (hL : sL G locs) {k : Nat} (hk : k < n) (ht : tau k = .inl 1) {v : Int} (hdg : decode cc pc = .ok (.putfield 103, 3)) (kk : ∀ (H1 : Heap) (locs1 : List Loc), sW G n (uF S k 14 v) H1 → sL G locs1 → W p l e R s m args below meth c H1 locs1 cells slots Q (F0 m (pc + 3) ls rest)) : W p l e R s m args below meth c H locs cells slots Q (F0 m pc ls (.int (iv v) :: .ref (G.2.2.1 + k) :: rest)) :=
  sPut Cx inX1 tyX1 tyX1_ok nmX1 rfl 14 (by decide) w_663 rfl hW hL hk ht rfl rfl (fun _ h => uF_same h) (fun _ h => uF_off h) (congrArg (fun z => Value.int (iv z)) uF_on) hdg kk
theorem c_X1_212 (Cx : sC G p m c cc nL s args RX1) {rm : Room} {mc ms : Nat} (h1 : rm.cells = mc) (h2 : rm.slots = ms) (h3 : rm.frames + 1 ≤ R.frames ∧ 8 + (5 + 11) + rm.locals ≤ R.locals) : CallW R s args RX1 RX6 212 yX6_addLimit cX6_addLimit 5 none (.code yX6_addLimit cX6_addLimit 5 none :: tb) rm mc ms 3 :=
  sCw Cx 3 w_1920 w_1548 w_1549 w_211 w_1550 (by decide +kernel) h1 h2 h3
theorem c_X1_216 (Cx : sC G p m c cc nL s args RX1) {rm : Room} {mc ms : Nat} (h1 : rm.cells = mc) (h2 : rm.slots = ms) (h3 : rm.frames + 1 ≤ R.frames ∧ 8 + (2 + 11) + rm.locals ≤ R.locals) : CallW R s args RX1 RX6 216 yX6_keep cX6_keep 2 none (.code yX6_keep cX6_keep 2 none :: tb) rm mc ms 1 :=
  sCw Cx 1 w_1947 w_1568 w_1569 w_211 w_1570 (by decide +kernel) h1 h2 h3
theorem c_X1_91 (Cx : sC G p m c cc nL s args RX1) {rm : Room} {mc ms : Nat} (h1 : rm.cells = mc) (h2 : rm.slots = ms) (h3 : rm.frames + 1 ≤ R.frames ∧ 8 + (1 + 11) + rm.locals ≤ R.locals) : CallW R s args RX1 RX4 91 yX4_start cX4_start 1 (some .int) (.code yX4_start cX4_start 1 (some .int) :: tb) rm mc ms 0 :=
  sCw Cx 0 w_1835 w_1820 w_1821 w_216 w_1822 (by decide +kernel) h1 h2 h3
theorem c_X1_95 (Cx : sC G p m c cc nL s args RX1) {rm : Room} {mc ms : Nat} (h1 : rm.cells = mc) (h2 : rm.slots = ms) (h3 : rm.frames + 1 ≤ R.frames ∧ 8 + (3 + 11) + rm.locals ≤ R.locals) : CallW R s args RX1 RX1 95 yX1_fail cX1_fail 3 (some .boolean) (.code yX1_fail cX1_fail 3 (some .boolean) :: tb) rm mc ms 2 :=
  sCw Cx 2 w_1836 w_1838 w_87 w_215 w_1839 (by decide +kernel) h1 h2 h3
theorem c_X1_200 (Cx : sC G p m c cc nL s args RX1) {rm : Room} {mc ms : Nat} (h1 : rm.cells = mc) (h2 : rm.slots = ms) (h3 : rm.frames + 1 ≤ R.frames ∧ 8 + (1 + 11) + rm.locals ≤ R.locals) : CallW R s args RX1 RX1 200 yX1_beginSecondTree cX1_beginSecondTree 1 none (.code yX1_beginSecondTree cX1_beginSecondTree 1 none :: tb) rm mc ms 0 :=
  sCw Cx 0 w_1943 w_1945 w_102 w_215 w_1946 (by decide +kernel) h1 h2 h3
theorem c_X1_196 (Cx : sC G p m c cc nL s args RX1) {rm : Room} {mc ms : Nat} (h1 : rm.cells = mc) (h2 : rm.slots = ms) (h3 : rm.frames + 1 ≤ R.frames ∧ 8 + (3 + 11) + rm.locals ≤ R.locals) : CallW R s args RX1 RX1 196 yX1_pairTree cX1_pairTree 3 (some .int) (.code yX1_pairTree cX1_pairTree 3 (some .int) :: tb) rm mc ms 2 :=
  sCw Cx 2 w_1921 w_1923 w_98 w_215 w_1924 (by decide +kernel) h1 h2 h3
theorem c_X1_193 (Cx : sC G p m c cc nL s args RX1) {rm : Room} {mc ms : Nat} (h1 : rm.cells = mc) (h2 : rm.slots = ms) (h3 : rm.frames + 1 ≤ R.frames ∧ 8 + (2 + 11) + rm.locals ≤ R.locals) : CallW R s args RX1 RX1 193 yX1_branch cX1_branch 2 (some .int) (.code yX1_branch cX1_branch 2 (some .int) :: tb) rm mc ms 0 :=
  sCw Cx 0 w_1909 w_1911 w_97 w_215 w_1912 (by decide +kernel) h1 h2 h3
theorem c_X1_137 (Cx : sC G p m c cc nL s args RX1) {rm : Room} {mc ms : Nat} (h1 : rm.cells = mc) (h2 : rm.slots = ms) (h3 : rm.frames + 1 ≤ R.frames ∧ 8 + (2 + 11) + rm.locals ≤ R.locals) : CallW R s args RX1 RX1 137 yX1_takePoint cX1_takePoint 2 none (.code yX1_takePoint cX1_takePoint 2 none :: tb) rm mc ms 0 :=
  sCw Cx 0 w_1854 w_1856 w_89 w_215 w_1857 (by decide +kernel) h1 h2 h3
theorem c_X1_140 (Cx : sC G p m c cc nL s args RX1) {rm : Room} {mc ms : Nat} (h1 : rm.cells = mc) (h2 : rm.slots = ms) (h3 : rm.frames + 1 ≤ R.frames ∧ 8 + (1 + 11) + rm.locals ≤ R.locals) : CallW R s args RX1 RX1 140 yX1_isValue cX1_isValue 1 (some .boolean) (.code yX1_isValue cX1_isValue 1 (some .boolean) :: tb) rm mc ms 0 :=
  sCw Cx 0 w_1901 w_1903 w_95 w_215 w_1904 (by decide +kernel) h1 h2 h3
theorem c_X1_143 (Cx : sC G p m c cc nL s args RX1) {rm : Room} {mc ms : Nat} (h1 : rm.cells = mc) (h2 : rm.slots = ms) (h3 : rm.frames + 1 ≤ R.frames ∧ 8 + (3 + 11) + rm.locals ≤ R.locals) : CallW R s args RX1 RX1 143 yX1_isPoint cX1_isPoint 3 (some .boolean) (.code yX1_isPoint cX1_isPoint 3 (some .boolean) :: tb) rm mc ms 1 :=
  sCw Cx 1 w_1869 w_1871 w_90 w_215 w_1872 (by decide +kernel) h1 h2 h3
theorem g_X1_130 (Cx : sC G p m c cc nL s args RX1) (hW : sW G n S H) {k : Nat} (hk : k < n) (ht : tau k = .inl 3) {v : Int} (hv : S.1 k 4 = v) (hdg : decode cc pc = .ok (.getfield 130, 3)) (kk : W p l e R s m args below meth c H locs cells slots Q (F0 m (pc + 3) ls (.int (iv v) :: rest))) : W p l e R s m args below meth c H locs cells slots Q (F0 m pc ls (.ref (G.2.2.1 + k) :: rest)) :=
  sGetN Cx inX3 rfl 4 (by decide) w_279 hW hk ht (congrArg (fun z => Value.int (iv z)) hv) hdg kk
theorem c_X1_134 (Cx : sC G p m c cc nL s args RX1) {rm : Room} {mc ms : Nat} (h1 : rm.cells = mc) (h2 : rm.slots = ms) (h3 : rm.frames + 1 ≤ R.frames ∧ 8 + (1 + 11) + rm.locals ≤ R.locals) : CallW R s args RX1 RX0 134 yX0_turn cX0_turn 1 none (.code yX0_turn cX0_turn 1 none :: tb) rm mc ms 0 :=
  sCw Cx 0 w_1900 w_1326 w_1327 w_212 w_1328 (by decide +kernel) h1 h2 h3
theorem c_X1_146 (Cx : sC G p m c cc nL s args RX1) {rm : Room} {mc ms : Nat} (h1 : rm.cells = mc) (h2 : rm.slots = ms) (h3 : rm.frames + 1 ≤ R.frames ∧ 8 + (2 + 11) + rm.locals ≤ R.locals) : CallW R s args RX1 RX1 146 yX1_isAlong cX1_isAlong 2 (some .boolean) (.code yX1_isAlong cX1_isAlong 2 (some .boolean) :: tb) rm mc ms 0 :=
  sCw Cx 0 w_1892 w_1894 w_93 w_215 w_1895 (by decide +kernel) h1 h2 h3
theorem p_X1_69 (Cx : sC G p m c cc nL s args RX1) (hW : sW G n S H) (hL : sL G locs) {k : Nat} (hk : k < n) (ht : tau k = .inl 1) {v : Nat} (hdg : decode cc pc = .ok (.putfield 69, 3)) (kk : ∀ (H1 : Heap) (locs1 : List Loc), sW G n (uR S k 15 (.ref v)) H1 → sL G locs1 → W p l e R s m args below meth c H1 locs1 cells slots Q (F0 m (pc + 3) ls rest)) : W p l e R s m args below meth c H locs cells slots Q (F0 m pc ls (.ref v :: .ref (G.2.2.1 + k) :: rest)) :=
  sPut Cx inX1 tyX1 tyX1_ok nmX1 rfl 15 (by decide) w_664 rfl hW hL hk ht rfl rfl (fun _ h => uR_same h) (fun _ h => uR_off h) uR_on hdg kk
theorem c_X1_80 (Cx : sC G p m c cc nL s args RX1) {rm : Room} {mc ms : Nat} (h1 : rm.cells = mc) (h2 : rm.slots = ms) (h3 : rm.frames + 1 ≤ R.frames ∧ 8 + (5 + 11) + rm.locals ≤ R.locals) : CallW R s args RX1 RX4 80 yX4_open cX4_open 5 none (.code yX4_open cX4_open 5 none :: tb) rm mc ms 1 :=
  sCw Cx 1 w_1752 w_1753 w_1754 w_216 w_1755 (by decide +kernel) h1 h2 h3
theorem c_X1_87 (Cx : sC G p m c cc nL s args RX1) {rm : Room} {mc ms : Nat} (h1 : rm.cells = mc) (h2 : rm.slots = ms) (h3 : rm.frames + 1 ≤ R.frames ∧ 8 + (3 + 11) + rm.locals ≤ R.locals) : CallW R s args RX1 RX4 87 yX4_isProof cX4_isProof 3 (some .boolean) (.code yX4_isProof cX4_isProof 3 (some .boolean) :: tb) rm mc ms 1 :=
  sCw Cx 1 w_1803 w_1804 w_1805 w_216 w_1806 (by decide +kernel) h1 h2 h3
theorem c_X1_99 (Cx : sC G p m c cc nL s args RX1) {rm : Room} {mc ms : Nat} (h1 : rm.cells = mc) (h2 : rm.slots = ms) (h3 : rm.frames + 1 ≤ R.frames ∧ 8 + (4 + 11) + rm.locals ≤ R.locals) : CallW R s args RX1 RX6 99 yX6_take cX6_take 4 none (.code yX6_take cX6_take 4 none :: tb) rm mc ms 1 :=
  sCw Cx 1 w_1840 w_1177 w_1178 w_211 w_1179 (by decide +kernel) h1 h2 h3
theorem c_X1_106 (Cx : sC G p m c cc nL s args RX1) {rm : Room} {mc ms : Nat} (h1 : rm.cells = mc) (h2 : rm.slots = ms) (h3 : rm.frames + 1 ≤ R.frames ∧ 8 + (1 + 11) + rm.locals ≤ R.locals) : CallW R s args RX1 RX4 106 yX4_rewind cX4_rewind 1 none (.code yX4_rewind cX4_rewind 1 none :: tb) rm mc ms 0 :=
  sCw Cx 0 w_1841 w_1842 w_1843 w_216 w_1844 (by decide +kernel) h1 h2 h3
theorem g_X1_77 (Cx : sC G p m c cc nL s args RX1) (hW : sW G n S H) {k : Nat} (hk : k < n) (ht : tau k = .inl 1) {v : Int} (hv : S.1 k 16 = v) (hdg : decode cc pc = .ok (.getfield 77, 3)) (kk : W p l e R s m args below meth c H locs cells slots Q (F0 m (pc + 3) ls (.int (iv v) :: rest))) : W p l e R s m args below meth c H locs cells slots Q (F0 m pc ls (.ref (G.2.2.1 + k) :: rest)) :=
  sGet Cx inX1 rfl 16 (by decide) w_665 hW hk ht (congrArg (fun z => Value.int (iv z)) hv) hdg kk
theorem c_X1_122 (Cx : sC G p m c cc nL s args RX1) {rm : Room} {mc ms : Nat} (h1 : rm.cells = mc) (h2 : rm.slots = ms) (h3 : rm.frames + 1 ≤ R.frames ∧ 8 + (6 + 11) + rm.locals ≤ R.locals) : CallW R s args RX1 RX1 122 yX1_holdTrees cX1_holdTrees 6 (some .boolean) (.code yX1_holdTrees cX1_holdTrees 6 (some .boolean) :: tb) rm mc ms 1 :=
  sCw Cx 1 w_1905 w_1907 w_96 w_215 w_1908 (by decide +kernel) h1 h2 h3
theorem c_X1_116 (Cx : sC G p m c cc nL s args RX1) {rm : Room} {mc ms : Nat} (h1 : rm.cells = mc) (h2 : rm.slots = ms) (h3 : rm.frames + 1 ≤ R.frames ∧ 8 + (3 + 11) + rm.locals ≤ R.locals) : CallW R s args RX1 RX1 116 yX1_holdOptimal cX1_holdOptimal 3 (some .boolean) (.code yX1_holdOptimal cX1_holdOptimal 3 (some .boolean) :: tb) rm mc ms 0 :=
  sCw Cx 0 w_1896 w_1898 w_94 w_215 w_1899 (by decide +kernel) h1 h2 h3
theorem c_X1_112 (Cx : sC G p m c cc nL s args RX1) {rm : Room} {mc ms : Nat} (h1 : rm.cells = mc) (h2 : rm.slots = ms) (h3 : rm.frames + 1 ≤ R.frames ∧ 8 + (3 + 11) + rm.locals ≤ R.locals) : CallW R s args RX1 RX1 112 yX1_holdUnbounded cX1_holdUnbounded 3 (some .boolean) (.code yX1_holdUnbounded cX1_holdUnbounded 3 (some .boolean) :: tb) rm mc ms 0 :=
  sCw Cx 0 w_1846 w_1848 w_88 w_215 w_1849 (by decide +kernel) h1 h2 h3
end RW45
