theorem dX2_brokenRow_0 : decode cX2_brokenRow 0 = .ok (.aload_n 0, 1) := by decide +kernel
theorem dX2_brokenRow_1 : decode cX2_brokenRow 1 = .ok (.aload_n 0, 1) := by decide +kernel
theorem dX2_brokenRow_2 : decode cX2_brokenRow 2 = .ok (.getfield 35, 3) := by decide +kernel
theorem dX2_brokenRow_5 : decode cX2_brokenRow 5 = .ok (.invokevirtual 121, 3) := by decide +kernel
theorem dX2_brokenRow_8 : decode cX2_brokenRow 8 = .ok (.iconst 1, 1) := by decide +kernel
theorem dX2_brokenRow_9 : decode cX2_brokenRow 9 = .ok (.istore_n 2, 1) := by decide +kernel
theorem dX2_brokenRow_10 : decode cX2_brokenRow 10 = .ok (.iload_n 2, 1) := by decide +kernel
theorem dX2_brokenRow_11 : decode cX2_brokenRow 11 = .ok (.aload_n 0, 1) := by decide +kernel
theorem dX2_brokenRow_12 : decode cX2_brokenRow 12 = .ok (.getfield 62, 3) := by decide +kernel
theorem dX2_brokenRow_15 : decode cX2_brokenRow 15 = .ok (.if_icmp .gt 78, 3) := by decide +kernel
theorem dX2_brokenRow_18 : decode cX2_brokenRow 18 = .ok (.aload_n 1, 1) := by decide +kernel
theorem dX2_brokenRow_19 : decode cX2_brokenRow 19 = .ok (.iload_n 2, 1) := by decide +kernel
theorem dX2_brokenRow_20 : decode cX2_brokenRow 20 = .ok (.invokevirtual 137, 3) := by decide +kernel
theorem dX2_brokenRow_23 : decode cX2_brokenRow 23 = .ok (.ifCond .eq 11, 3) := by decide +kernel
theorem dX2_brokenRow_26 : decode cX2_brokenRow 26 = .ok (.aload_n 0, 1) := by decide +kernel
theorem dX2_brokenRow_27 : decode cX2_brokenRow 27 = .ok (.iload_n 2, 1) := by decide +kernel
theorem dX2_brokenRow_28 : decode cX2_brokenRow 28 = .ok (.invokevirtual 128, 3) := by decide +kernel
theorem dX2_brokenRow_31 : decode cX2_brokenRow 31 = .ok (.goto 4, 3) := by decide +kernel
theorem dX2_brokenRow_34 : decode cX2_brokenRow 34 = .ok (.iconst (-1), 1) := by decide +kernel
theorem dX2_brokenRow_35 : decode cX2_brokenRow 35 = .ok (.istore_n 3, 1) := by decide +kernel
theorem dX2_brokenRow_36 : decode cX2_brokenRow 36 = .ok (.iload_n 3, 1) := by decide +kernel
theorem dX2_brokenRow_37 : decode cX2_brokenRow 37 = .ok (.ifCond .le 50, 3) := by decide +kernel
theorem dX2_brokenRow_40 : decode cX2_brokenRow 40 = .ok (.aload_n 0, 1) := by decide +kernel
theorem dX2_brokenRow_41 : decode cX2_brokenRow 41 = .ok (.getfield 38, 3) := by decide +kernel
theorem dX2_brokenRow_44 : decode cX2_brokenRow 44 = .ok (.aload_n 0, 1) := by decide +kernel
theorem dX2_brokenRow_45 : decode cX2_brokenRow 45 = .ok (.getfield 13, 3) := by decide +kernel
theorem dX2_brokenRow_48 : decode cX2_brokenRow 48 = .ok (.iload_n 3, 1) := by decide +kernel
theorem dX2_brokenRow_49 : decode cX2_brokenRow 49 = .ok (.iconst 0, 1) := by decide +kernel
theorem dX2_brokenRow_50 : decode cX2_brokenRow 50 = .ok (.invokestatic 77, 3) := by decide +kernel
theorem dX2_brokenRow_53 : decode cX2_brokenRow 53 = .ok (.invokevirtual 106, 3) := by decide +kernel
theorem dX2_brokenRow_56 : decode cX2_brokenRow 56 = .ok (.aload_n 0, 1) := by decide +kernel
theorem dX2_brokenRow_57 : decode cX2_brokenRow 57 = .ok (.getfield 38, 3) := by decide +kernel
theorem dX2_brokenRow_60 : decode cX2_brokenRow 60 = .ok (.aload_n 0, 1) := by decide +kernel
theorem dX2_brokenRow_61 : decode cX2_brokenRow 61 = .ok (.getfield 35, 3) := by decide +kernel
theorem dX2_brokenRow_64 : decode cX2_brokenRow 64 = .ok (.aload_n 0, 1) := by decide +kernel
theorem dX2_brokenRow_65 : decode cX2_brokenRow 65 = .ok (.getfield 50, 3) := by decide +kernel
theorem dX2_brokenRow_68 : decode cX2_brokenRow 68 = .ok (.aload_n 0, 1) := by decide +kernel
theorem dX2_brokenRow_69 : decode cX2_brokenRow 69 = .ok (.getfield 53, 3) := by decide +kernel
theorem dX2_brokenRow_72 : decode cX2_brokenRow 72 = .ok (.invokevirtual 141, 3) := by decide +kernel
theorem dX2_brokenRow_75 : decode cX2_brokenRow 75 = .ok (.aload_n 0, 1) := by decide +kernel
theorem dX2_brokenRow_76 : decode cX2_brokenRow 76 = .ok (.getfield 38, 3) := by decide +kernel
theorem dX2_brokenRow_79 : decode cX2_brokenRow 79 = .ok (.getfield 145, 3) := by decide +kernel
theorem dX2_brokenRow_82 : decode cX2_brokenRow 82 = .ok (.ifCond .eq 5, 3) := by decide +kernel
theorem dX2_brokenRow_85 : decode cX2_brokenRow 85 = .ok (.iload_n 3, 1) := by decide +kernel
theorem dX2_brokenRow_86 : decode cX2_brokenRow 86 = .ok (.ireturn, 1) := by decide +kernel
theorem dX2_brokenRow_87 : decode cX2_brokenRow 87 = .ok (.iinc 2 1, 3) := by decide +kernel
theorem dX2_brokenRow_90 : decode cX2_brokenRow 90 = .ok (.goto (-80), 3) := by decide +kernel
theorem dX2_brokenRow_93 : decode cX2_brokenRow 93 = .ok (.iconst 0, 1) := by decide +kernel
theorem dX2_brokenRow_94 : decode cX2_brokenRow 94 = .ok (.ireturn, 1) := by decide +kernel
theorem dX2_chooseDown_0 : decode cX2_chooseDown 0 = .ok (.aload_n 0, 1) := by decide +kernel
theorem dX2_chooseDown_1 : decode cX2_chooseDown 1 = .ok (.iconst 0, 1) := by decide +kernel
theorem dX2_chooseDown_2 : decode cX2_chooseDown 2 = .ok (.putfield 147, 3) := by decide +kernel
theorem dX2_chooseDown_5 : decode cX2_chooseDown 5 = .ok (.iconst 1, 1) := by decide +kernel
theorem dX2_chooseDown_6 : decode cX2_chooseDown 6 = .ok (.istore_n 1, 1) := by decide +kernel
theorem dX2_chooseDown_7 : decode cX2_chooseDown 7 = .ok (.iload_n 1, 1) := by decide +kernel
theorem dX2_chooseDown_8 : decode cX2_chooseDown 8 = .ok (.aload_n 0, 1) := by decide +kernel
theorem dX2_chooseDown_9 : decode cX2_chooseDown 9 = .ok (.getfield 66, 3) := by decide +kernel
theorem dX2_chooseDown_12 : decode cX2_chooseDown 12 = .ok (.if_icmp .gt 48, 3) := by decide +kernel
theorem dX2_chooseDown_15 : decode cX2_chooseDown 15 = .ok (.aload_n 0, 1) := by decide +kernel
theorem dX2_chooseDown_16 : decode cX2_chooseDown 16 = .ok (.iload_n 1, 1) := by decide +kernel
theorem dX2_chooseDown_17 : decode cX2_chooseDown 17 = .ok (.iconst 0, 1) := by decide +kernel
theorem dX2_chooseDown_18 : decode cX2_chooseDown 18 = .ok (.invokevirtual 95, 3) := by decide +kernel
theorem dX2_chooseDown_21 : decode cX2_chooseDown 21 = .ok (.ifCond .ge 33, 3) := by decide +kernel
theorem dX2_chooseDown_24 : decode cX2_chooseDown 24 = .ok (.aload_n 0, 1) := by decide +kernel
theorem dX2_chooseDown_25 : decode cX2_chooseDown 25 = .ok (.getfield 147, 3) := by decide +kernel
theorem dX2_chooseDown_28 : decode cX2_chooseDown 28 = .ok (.ifCond .eq 21, 3) := by decide +kernel
theorem dX2_chooseDown_31 : decode cX2_chooseDown 31 = .ok (.aload_n 0, 1) := by decide +kernel
theorem dX2_chooseDown_32 : decode cX2_chooseDown 32 = .ok (.getfield 20, 3) := by decide +kernel
theorem dX2_chooseDown_35 : decode cX2_chooseDown 35 = .ok (.iload_n 1, 1) := by decide +kernel
theorem dX2_chooseDown_36 : decode cX2_chooseDown 36 = .ok (.iaload, 1) := by decide +kernel
theorem dX2_chooseDown_37 : decode cX2_chooseDown 37 = .ok (.aload_n 0, 1) := by decide +kernel
theorem dX2_chooseDown_38 : decode cX2_chooseDown 38 = .ok (.getfield 20, 3) := by decide +kernel
theorem dX2_chooseDown_41 : decode cX2_chooseDown 41 = .ok (.aload_n 0, 1) := by decide +kernel
theorem dX2_chooseDown_42 : decode cX2_chooseDown 42 = .ok (.getfield 147, 3) := by decide +kernel
theorem dX2_chooseDown_45 : decode cX2_chooseDown 45 = .ok (.iaload, 1) := by decide +kernel
theorem dX2_chooseDown_46 : decode cX2_chooseDown 46 = .ok (.if_icmp .ge 8, 3) := by decide +kernel
theorem dX2_chooseDown_49 : decode cX2_chooseDown 49 = .ok (.aload_n 0, 1) := by decide +kernel
theorem dX2_chooseDown_50 : decode cX2_chooseDown 50 = .ok (.iload_n 1, 1) := by decide +kernel
theorem dX2_chooseDown_51 : decode cX2_chooseDown 51 = .ok (.putfield 147, 3) := by decide +kernel
theorem dX2_chooseDown_54 : decode cX2_chooseDown 54 = .ok (.iinc 1 1, 3) := by decide +kernel
theorem dX2_chooseDown_57 : decode cX2_chooseDown 57 = .ok (.goto (-50), 3) := by decide +kernel
theorem dX2_chooseDown_60 : decode cX2_chooseDown 60 = .ok (.aload_n 0, 1) := by decide +kernel
theorem dX2_chooseDown_61 : decode cX2_chooseDown 61 = .ok (.getfield 147, 3) := by decide +kernel
theorem dX2_chooseDown_64 : decode cX2_chooseDown 64 = .ok (.ifCond .ne 5, 3) := by decide +kernel
theorem dX2_chooseDown_67 : decode cX2_chooseDown 67 = .ok (.iconst 0, 1) := by decide +kernel
theorem dX2_chooseDown_68 : decode cX2_chooseDown 68 = .ok (.ireturn, 1) := by decide +kernel
theorem dX2_chooseDown_69 : decode cX2_chooseDown 69 = .ok (.aload_n 0, 1) := by decide +kernel
theorem dX2_chooseDown_70 : decode cX2_chooseDown 70 = .ok (.iconst 0, 1) := by decide +kernel
theorem dX2_chooseDown_71 : decode cX2_chooseDown 71 = .ok (.putfield 131, 3) := by decide +kernel
theorem dX2_chooseDown_74 : decode cX2_chooseDown 74 = .ok (.iconst 1, 1) := by decide +kernel
theorem dX2_chooseDown_75 : decode cX2_chooseDown 75 = .ok (.istore_n 1, 1) := by decide +kernel
theorem dX2_chooseDown_76 : decode cX2_chooseDown 76 = .ok (.iload_n 1, 1) := by decide +kernel
theorem dX2_chooseDown_77 : decode cX2_chooseDown 77 = .ok (.aload_n 0, 1) := by decide +kernel
theorem dX2_chooseDown_78 : decode cX2_chooseDown 78 = .ok (.getfield 67, 3) := by decide +kernel
theorem dX2_chooseDown_81 : decode cX2_chooseDown 81 = .ok (.if_icmp .gt 41, 3) := by decide +kernel
theorem dX2_chooseDown_84 : decode cX2_chooseDown 84 = .ok (.aload_n 0, 1) := by decide +kernel
theorem dX2_chooseDown_85 : decode cX2_chooseDown 85 = .ok (.aload_n 0, 1) := by decide +kernel
theorem dX2_chooseDown_86 : decode cX2_chooseDown 86 = .ok (.getfield 147, 3) := by decide +kernel
theorem dX2_chooseDown_89 : decode cX2_chooseDown 89 = .ok (.iload_n 1, 1) := by decide +kernel
theorem dX2_chooseDown_90 : decode cX2_chooseDown 90 = .ok (.invokevirtual 95, 3) := by decide +kernel
theorem dX2_chooseDown_93 : decode cX2_chooseDown 93 = .ok (.ifCond .ge 23, 3) := by decide +kernel
theorem dX2_chooseDown_96 : decode cX2_chooseDown 96 = .ok (.aload_n 0, 1) := by decide +kernel
theorem dX2_chooseDown_97 : decode cX2_chooseDown 97 = .ok (.getfield 131, 3) := by decide +kernel
theorem dX2_chooseDown_100 : decode cX2_chooseDown 100 = .ok (.ifCond .eq 11, 3) := by decide +kernel
theorem dX2_chooseDown_103 : decode cX2_chooseDown 103 = .ok (.aload_n 0, 1) := by decide +kernel
theorem dX2_chooseDown_104 : decode cX2_chooseDown 104 = .ok (.iload_n 1, 1) := by decide +kernel
theorem dX2_chooseDown_105 : decode cX2_chooseDown 105 = .ok (.invokevirtual 164, 3) := by decide +kernel
theorem dX2_chooseDown_108 : decode cX2_chooseDown 108 = .ok (.ifCond .eq 8, 3) := by decide +kernel
theorem dX2_chooseDown_111 : decode cX2_chooseDown 111 = .ok (.aload_n 0, 1) := by decide +kernel
theorem dX2_chooseDown_112 : decode cX2_chooseDown 112 = .ok (.iload_n 1, 1) := by decide +kernel
theorem dX2_chooseDown_113 : decode cX2_chooseDown 113 = .ok (.putfield 131, 3) := by decide +kernel
theorem dX2_chooseDown_116 : decode cX2_chooseDown 116 = .ok (.iinc 1 1, 3) := by decide +kernel
theorem dX2_chooseDown_119 : decode cX2_chooseDown 119 = .ok (.goto (-43), 3) := by decide +kernel
theorem dX2_chooseDown_122 : decode cX2_chooseDown 122 = .ok (.aload_n 0, 1) := by decide +kernel
theorem dX2_chooseDown_123 : decode cX2_chooseDown 123 = .ok (.getfield 131, 3) := by decide +kernel
theorem dX2_chooseDown_126 : decode cX2_chooseDown 126 = .ok (.ifCond .le 7, 3) := by decide +kernel
theorem dX2_chooseDown_129 : decode cX2_chooseDown 129 = .ok (.iconst 1, 1) := by decide +kernel
theorem dX2_chooseDown_130 : decode cX2_chooseDown 130 = .ok (.goto 4, 3) := by decide +kernel
theorem dX2_chooseDown_133 : decode cX2_chooseDown 133 = .ok (.iconst 2, 1) := by decide +kernel
theorem dX2_chooseDown_134 : decode cX2_chooseDown 134 = .ok (.ireturn, 1) := by decide +kernel
theorem dX2_chooseFirst_0 : decode cX2_chooseFirst 0 = .ok (.aload_n 0, 1) := by decide +kernel
theorem dX2_chooseFirst_1 : decode cX2_chooseFirst 1 = .ok (.iconst 1, 1) := by decide +kernel
theorem dX2_chooseFirst_2 : decode cX2_chooseFirst 2 = .ok (.putfield 147, 3) := by decide +kernel
theorem dX2_chooseFirst_5 : decode cX2_chooseFirst 5 = .ok (.iconst 2, 1) := by decide +kernel
theorem dX2_chooseFirst_6 : decode cX2_chooseFirst 6 = .ok (.istore_n 1, 1) := by decide +kernel
theorem dX2_chooseFirst_7 : decode cX2_chooseFirst 7 = .ok (.iload_n 1, 1) := by decide +kernel
theorem dX2_chooseFirst_8 : decode cX2_chooseFirst 8 = .ok (.aload_n 0, 1) := by decide +kernel
theorem dX2_chooseFirst_9 : decode cX2_chooseFirst 9 = .ok (.getfield 66, 3) := by decide +kernel
theorem dX2_chooseFirst_12 : decode cX2_chooseFirst 12 = .ok (.if_icmp .gt 39, 3) := by decide +kernel
theorem dX2_chooseFirst_15 : decode cX2_chooseFirst 15 = .ok (.aload_n 0, 1) := by decide +kernel
theorem dX2_chooseFirst_16 : decode cX2_chooseFirst 16 = .ok (.iload_n 1, 1) := by decide +kernel
theorem dX2_chooseFirst_17 : decode cX2_chooseFirst 17 = .ok (.iconst 0, 1) := by decide +kernel
theorem dX2_chooseFirst_18 : decode cX2_chooseFirst 18 = .ok (.invokestatic 77, 3) := by decide +kernel
theorem dX2_chooseFirst_21 : decode cX2_chooseFirst 21 = .ok (.invokevirtual 150, 3) := by decide +kernel
theorem dX2_chooseFirst_24 : decode cX2_chooseFirst 24 = .ok (.aload_n 0, 1) := by decide +kernel
theorem dX2_chooseFirst_25 : decode cX2_chooseFirst 25 = .ok (.aload_n 0, 1) := by decide +kernel
theorem dX2_chooseFirst_26 : decode cX2_chooseFirst 26 = .ok (.getfield 147, 3) := by decide +kernel
theorem dX2_chooseFirst_29 : decode cX2_chooseFirst 29 = .ok (.iconst 0, 1) := by decide +kernel
theorem dX2_chooseFirst_30 : decode cX2_chooseFirst 30 = .ok (.invokestatic 77, 3) := by decide +kernel
theorem dX2_chooseFirst_33 : decode cX2_chooseFirst 33 = .ok (.invokevirtual 150, 3) := by decide +kernel
theorem dX2_chooseFirst_36 : decode cX2_chooseFirst 36 = .ok (.lcmp, 1) := by decide +kernel
theorem dX2_chooseFirst_37 : decode cX2_chooseFirst 37 = .ok (.ifCond .ge 8, 3) := by decide +kernel
theorem dX2_chooseFirst_40 : decode cX2_chooseFirst 40 = .ok (.aload_n 0, 1) := by decide +kernel
theorem dX2_chooseFirst_41 : decode cX2_chooseFirst 41 = .ok (.iload_n 1, 1) := by decide +kernel
theorem dX2_chooseFirst_42 : decode cX2_chooseFirst 42 = .ok (.putfield 147, 3) := by decide +kernel
theorem dX2_chooseFirst_45 : decode cX2_chooseFirst 45 = .ok (.iinc 1 1, 3) := by decide +kernel
theorem dX2_chooseFirst_48 : decode cX2_chooseFirst 48 = .ok (.goto (-41), 3) := by decide +kernel
theorem dX2_chooseFirst_51 : decode cX2_chooseFirst 51 = .ok (.aload_n 0, 1) := by decide +kernel
theorem dX2_chooseFirst_52 : decode cX2_chooseFirst 52 = .ok (.aload_n 0, 1) := by decide +kernel
theorem dX2_chooseFirst_53 : decode cX2_chooseFirst 53 = .ok (.iconst 0, 1) := by decide +kernel
theorem dX2_chooseFirst_54 : decode cX2_chooseFirst 54 = .ok (.invokevirtual 118, 3) := by decide +kernel
theorem dX2_chooseFirst_57 : decode cX2_chooseFirst 57 = .ok (.putfield 131, 3) := by decide +kernel
theorem dX2_chooseFirst_60 : decode cX2_chooseFirst 60 = .ok (.iconst 1, 1) := by decide +kernel
theorem dX2_chooseFirst_61 : decode cX2_chooseFirst 61 = .ok (.ireturn, 1) := by decide +kernel
theorem dX2_chooseHelperOut_0 : decode cX2_chooseHelperOut 0 = .ok (.aload_n 0, 1) := by decide +kernel
theorem dX2_chooseHelperOut_1 : decode cX2_chooseHelperOut 1 = .ok (.aload_n 0, 1) := by decide +kernel
theorem dX2_chooseHelperOut_2 : decode cX2_chooseHelperOut 2 = .ok (.iconst 0, 1) := by decide +kernel
theorem dX2_chooseHelperOut_3 : decode cX2_chooseHelperOut 3 = .ok (.invokevirtual 128, 3) := by decide +kernel
theorem dX2_chooseHelperOut_6 : decode cX2_chooseHelperOut 6 = .ok (.putfield 147, 3) := by decide +kernel
theorem dX2_chooseHelperOut_9 : decode cX2_chooseHelperOut 9 = .ok (.aload_n 0, 1) := by decide +kernel
theorem dX2_chooseHelperOut_10 : decode cX2_chooseHelperOut 10 = .ok (.iconst 0, 1) := by decide +kernel
theorem dX2_chooseHelperOut_11 : decode cX2_chooseHelperOut 11 = .ok (.putfield 131, 3) := by decide +kernel
theorem dX2_chooseHelperOut_14 : decode cX2_chooseHelperOut 14 = .ok (.iconst 1, 1) := by decide +kernel
theorem dX2_chooseHelperOut_15 : decode cX2_chooseHelperOut 15 = .ok (.istore_n 1, 1) := by decide +kernel
theorem dX2_chooseHelperOut_16 : decode cX2_chooseHelperOut 16 = .ok (.iload_n 1, 1) := by decide +kernel
theorem dX2_chooseHelperOut_17 : decode cX2_chooseHelperOut 17 = .ok (.aload_n 0, 1) := by decide +kernel
theorem dX2_chooseHelperOut_18 : decode cX2_chooseHelperOut 18 = .ok (.getfield 67, 3) := by decide +kernel
theorem dX2_chooseHelperOut_21 : decode cX2_chooseHelperOut 21 = .ok (.if_icmp .gt 51, 3) := by decide +kernel
theorem dX2_chooseHelperOut_24 : decode cX2_chooseHelperOut 24 = .ok (.aload_n 0, 1) := by decide +kernel
theorem dX2_chooseHelperOut_25 : decode cX2_chooseHelperOut 25 = .ok (.aload_n 0, 1) := by decide +kernel
theorem dX2_chooseHelperOut_26 : decode cX2_chooseHelperOut 26 = .ok (.getfield 147, 3) := by decide +kernel
theorem dX2_chooseHelperOut_29 : decode cX2_chooseHelperOut 29 = .ok (.iload_n 1, 1) := by decide +kernel
theorem dX2_chooseHelperOut_30 : decode cX2_chooseHelperOut 30 = .ok (.invokevirtual 95, 3) := by decide +kernel
theorem dX2_chooseHelperOut_33 : decode cX2_chooseHelperOut 33 = .ok (.ifCond .eq 33, 3) := by decide +kernel
theorem dX2_chooseHelperOut_36 : decode cX2_chooseHelperOut 36 = .ok (.aload_n 0, 1) := by decide +kernel
theorem dX2_chooseHelperOut_37 : decode cX2_chooseHelperOut 37 = .ok (.getfield 131, 3) := by decide +kernel
theorem dX2_chooseHelperOut_40 : decode cX2_chooseHelperOut 40 = .ok (.ifCond .eq 21, 3) := by decide +kernel
theorem dX2_chooseHelperOut_43 : decode cX2_chooseHelperOut 43 = .ok (.aload_n 0, 1) := by decide +kernel
theorem dX2_chooseHelperOut_44 : decode cX2_chooseHelperOut 44 = .ok (.getfield 23, 3) := by decide +kernel
theorem dX2_chooseHelperOut_47 : decode cX2_chooseHelperOut 47 = .ok (.iload_n 1, 1) := by decide +kernel
theorem dX2_chooseHelperOut_48 : decode cX2_chooseHelperOut 48 = .ok (.iaload, 1) := by decide +kernel
theorem dX2_chooseHelperOut_49 : decode cX2_chooseHelperOut 49 = .ok (.aload_n 0, 1) := by decide +kernel
theorem dX2_chooseHelperOut_50 : decode cX2_chooseHelperOut 50 = .ok (.getfield 23, 3) := by decide +kernel
theorem dX2_chooseHelperOut_53 : decode cX2_chooseHelperOut 53 = .ok (.aload_n 0, 1) := by decide +kernel
theorem dX2_chooseHelperOut_54 : decode cX2_chooseHelperOut 54 = .ok (.getfield 131, 3) := by decide +kernel
theorem dX2_chooseHelperOut_57 : decode cX2_chooseHelperOut 57 = .ok (.iaload, 1) := by decide +kernel
theorem dX2_chooseHelperOut_58 : decode cX2_chooseHelperOut 58 = .ok (.if_icmp .ge 8, 3) := by decide +kernel
theorem dX2_chooseHelperOut_61 : decode cX2_chooseHelperOut 61 = .ok (.aload_n 0, 1) := by decide +kernel
theorem dX2_chooseHelperOut_62 : decode cX2_chooseHelperOut 62 = .ok (.iload_n 1, 1) := by decide +kernel
theorem dX2_chooseHelperOut_63 : decode cX2_chooseHelperOut 63 = .ok (.putfield 131, 3) := by decide +kernel
theorem dX2_chooseHelperOut_66 : decode cX2_chooseHelperOut 66 = .ok (.iinc 1 1, 3) := by decide +kernel
theorem dX2_chooseHelperOut_69 : decode cX2_chooseHelperOut 69 = .ok (.goto (-53), 3) := by decide +kernel
theorem dX2_chooseHelperOut_72 : decode cX2_chooseHelperOut 72 = .ok (.aload_n 0, 1) := by decide +kernel
theorem dX2_chooseHelperOut_73 : decode cX2_chooseHelperOut 73 = .ok (.getfield 131, 3) := by decide +kernel
theorem dX2_chooseHelperOut_76 : decode cX2_chooseHelperOut 76 = .ok (.ifCond .le 7, 3) := by decide +kernel
theorem dX2_chooseHelperOut_79 : decode cX2_chooseHelperOut 79 = .ok (.iconst 1, 1) := by decide +kernel
theorem dX2_chooseHelperOut_80 : decode cX2_chooseHelperOut 80 = .ok (.goto 4, 3) := by decide +kernel
theorem dX2_chooseHelperOut_83 : decode cX2_chooseHelperOut 83 = .ok (.iconst 2, 1) := by decide +kernel
theorem dX2_chooseHelperOut_84 : decode cX2_chooseHelperOut 84 = .ok (.ireturn, 1) := by decide +kernel
theorem dX2_chooseUp_0 : decode cX2_chooseUp 0 = .ok (.aload_n 0, 1) := by decide +kernel
theorem dX2_chooseUp_1 : decode cX2_chooseUp 1 = .ok (.iconst 0, 1) := by decide +kernel
theorem dX2_chooseUp_2 : decode cX2_chooseUp 2 = .ok (.putfield 131, 3) := by decide +kernel
theorem dX2_chooseUp_5 : decode cX2_chooseUp 5 = .ok (.iconst 1, 1) := by decide +kernel
theorem dX2_chooseUp_6 : decode cX2_chooseUp 6 = .ok (.istore_n 2, 1) := by decide +kernel
theorem dX2_chooseUp_7 : decode cX2_chooseUp 7 = .ok (.iload_n 2, 1) := by decide +kernel
theorem dX2_chooseUp_8 : decode cX2_chooseUp 8 = .ok (.aload_n 0, 1) := by decide +kernel
theorem dX2_chooseUp_9 : decode cX2_chooseUp 9 = .ok (.getfield 67, 3) := by decide +kernel
theorem dX2_chooseUp_12 : decode cX2_chooseUp 12 = .ok (.if_icmp .gt 48, 3) := by decide +kernel
theorem dX2_chooseUp_15 : decode cX2_chooseUp 15 = .ok (.aload_n 0, 1) := by decide +kernel
theorem dX2_chooseUp_16 : decode cX2_chooseUp 16 = .ok (.iload_n 1, 1) := by decide +kernel
theorem dX2_chooseUp_17 : decode cX2_chooseUp 17 = .ok (.iload_n 2, 1) := by decide +kernel
theorem dX2_chooseUp_18 : decode cX2_chooseUp 18 = .ok (.invokevirtual 95, 3) := by decide +kernel
theorem dX2_chooseUp_21 : decode cX2_chooseUp 21 = .ok (.ifCond .ge 33, 3) := by decide +kernel
theorem dX2_chooseUp_24 : decode cX2_chooseUp 24 = .ok (.aload_n 0, 1) := by decide +kernel
theorem dX2_chooseUp_25 : decode cX2_chooseUp 25 = .ok (.getfield 131, 3) := by decide +kernel
theorem dX2_chooseUp_28 : decode cX2_chooseUp 28 = .ok (.ifCond .eq 21, 3) := by decide +kernel
theorem dX2_chooseUp_31 : decode cX2_chooseUp 31 = .ok (.aload_n 0, 1) := by decide +kernel
theorem dX2_chooseUp_32 : decode cX2_chooseUp 32 = .ok (.getfield 23, 3) := by decide +kernel
theorem dX2_chooseUp_35 : decode cX2_chooseUp 35 = .ok (.iload_n 2, 1) := by decide +kernel
theorem dX2_chooseUp_36 : decode cX2_chooseUp 36 = .ok (.iaload, 1) := by decide +kernel
theorem dX2_chooseUp_37 : decode cX2_chooseUp 37 = .ok (.aload_n 0, 1) := by decide +kernel
theorem dX2_chooseUp_38 : decode cX2_chooseUp 38 = .ok (.getfield 23, 3) := by decide +kernel
theorem dX2_chooseUp_41 : decode cX2_chooseUp 41 = .ok (.aload_n 0, 1) := by decide +kernel
theorem dX2_chooseUp_42 : decode cX2_chooseUp 42 = .ok (.getfield 131, 3) := by decide +kernel
theorem dX2_chooseUp_45 : decode cX2_chooseUp 45 = .ok (.iaload, 1) := by decide +kernel
theorem dX2_chooseUp_46 : decode cX2_chooseUp 46 = .ok (.if_icmp .ge 8, 3) := by decide +kernel
theorem dX2_chooseUp_49 : decode cX2_chooseUp 49 = .ok (.aload_n 0, 1) := by decide +kernel
theorem dX2_chooseUp_50 : decode cX2_chooseUp 50 = .ok (.iload_n 2, 1) := by decide +kernel
theorem dX2_chooseUp_51 : decode cX2_chooseUp 51 = .ok (.putfield 131, 3) := by decide +kernel
theorem dX2_chooseUp_54 : decode cX2_chooseUp 54 = .ok (.iinc 2 1, 3) := by decide +kernel
theorem dX2_chooseUp_57 : decode cX2_chooseUp 57 = .ok (.goto (-50), 3) := by decide +kernel
theorem dX2_chooseUp_60 : decode cX2_chooseUp 60 = .ok (.aload_n 0, 1) := by decide +kernel
theorem dX2_chooseUp_61 : decode cX2_chooseUp 61 = .ok (.getfield 131, 3) := by decide +kernel
theorem dX2_chooseUp_64 : decode cX2_chooseUp 64 = .ok (.ifCond .ne 5, 3) := by decide +kernel
theorem dX2_chooseUp_67 : decode cX2_chooseUp 67 = .ok (.iconst 0, 1) := by decide +kernel
theorem dX2_chooseUp_68 : decode cX2_chooseUp 68 = .ok (.ireturn, 1) := by decide +kernel
theorem dX2_chooseUp_69 : decode cX2_chooseUp 69 = .ok (.aload_n 0, 1) := by decide +kernel
theorem dX2_chooseUp_70 : decode cX2_chooseUp 70 = .ok (.iconst 0, 1) := by decide +kernel
theorem dX2_chooseUp_71 : decode cX2_chooseUp 71 = .ok (.putfield 147, 3) := by decide +kernel
theorem dX2_chooseUp_74 : decode cX2_chooseUp 74 = .ok (.iconst 1, 1) := by decide +kernel
theorem dX2_chooseUp_75 : decode cX2_chooseUp 75 = .ok (.istore_n 2, 1) := by decide +kernel
theorem dX2_chooseUp_76 : decode cX2_chooseUp 76 = .ok (.iload_n 2, 1) := by decide +kernel
theorem dX2_chooseUp_77 : decode cX2_chooseUp 77 = .ok (.aload_n 0, 1) := by decide +kernel
theorem dX2_chooseUp_78 : decode cX2_chooseUp 78 = .ok (.getfield 66, 3) := by decide +kernel
theorem dX2_chooseUp_81 : decode cX2_chooseUp 81 = .ok (.if_icmp .gt 41, 3) := by decide +kernel
theorem dX2_chooseUp_84 : decode cX2_chooseUp 84 = .ok (.aload_n 0, 1) := by decide +kernel
theorem dX2_chooseUp_85 : decode cX2_chooseUp 85 = .ok (.iload_n 2, 1) := by decide +kernel
theorem dX2_chooseUp_86 : decode cX2_chooseUp 86 = .ok (.aload_n 0, 1) := by decide +kernel
theorem dX2_chooseUp_87 : decode cX2_chooseUp 87 = .ok (.getfield 131, 3) := by decide +kernel
theorem dX2_chooseUp_90 : decode cX2_chooseUp 90 = .ok (.invokevirtual 95, 3) := by decide +kernel
theorem dX2_chooseUp_93 : decode cX2_chooseUp 93 = .ok (.ifCond .le 23, 3) := by decide +kernel
theorem dX2_chooseUp_96 : decode cX2_chooseUp 96 = .ok (.aload_n 0, 1) := by decide +kernel
theorem dX2_chooseUp_97 : decode cX2_chooseUp 97 = .ok (.getfield 147, 3) := by decide +kernel
theorem dX2_chooseUp_100 : decode cX2_chooseUp 100 = .ok (.ifCond .eq 11, 3) := by decide +kernel
theorem dX2_chooseUp_103 : decode cX2_chooseUp 103 = .ok (.aload_n 0, 1) := by decide +kernel
theorem dX2_chooseUp_104 : decode cX2_chooseUp 104 = .ok (.iload_n 2, 1) := by decide +kernel
theorem dX2_chooseUp_105 : decode cX2_chooseUp 105 = .ok (.invokevirtual 157, 3) := by decide +kernel
theorem dX2_chooseUp_108 : decode cX2_chooseUp 108 = .ok (.ifCond .eq 8, 3) := by decide +kernel
theorem dX2_chooseUp_111 : decode cX2_chooseUp 111 = .ok (.aload_n 0, 1) := by decide +kernel
theorem dX2_chooseUp_112 : decode cX2_chooseUp 112 = .ok (.iload_n 2, 1) := by decide +kernel
theorem dX2_chooseUp_113 : decode cX2_chooseUp 113 = .ok (.putfield 147, 3) := by decide +kernel
theorem dX2_chooseUp_116 : decode cX2_chooseUp 116 = .ok (.iinc 2 1, 3) := by decide +kernel
theorem dX2_chooseUp_119 : decode cX2_chooseUp 119 = .ok (.goto (-43), 3) := by decide +kernel
theorem dX2_chooseUp_122 : decode cX2_chooseUp 122 = .ok (.aload_n 0, 1) := by decide +kernel
theorem dX2_chooseUp_123 : decode cX2_chooseUp 123 = .ok (.getfield 147, 3) := by decide +kernel
theorem dX2_chooseUp_126 : decode cX2_chooseUp 126 = .ok (.ifCond .le 7, 3) := by decide +kernel
theorem dX2_chooseUp_129 : decode cX2_chooseUp 129 = .ok (.iconst 1, 1) := by decide +kernel
theorem dX2_chooseUp_130 : decode cX2_chooseUp 130 = .ok (.goto 4, 3) := by decide +kernel
theorem dX2_chooseUp_133 : decode cX2_chooseUp 133 = .ok (.iconst 2, 1) := by decide +kernel
theorem dX2_chooseUp_134 : decode cX2_chooseUp 134 = .ok (.ireturn, 1) := by decide +kernel
theorem dX2_compareProducts_0 : decode cX2_compareProducts 0 = .ok (.aload_n 0, 1) := by decide +kernel
theorem dX2_compareProducts_1 : decode cX2_compareProducts 1 = .ok (.iload_n 1, 1) := by decide +kernel
theorem dX2_compareProducts_2 : decode cX2_compareProducts 2 = .ok (.invokevirtual 167, 3) := by decide +kernel
theorem dX2_compareProducts_5 : decode cX2_compareProducts 5 = .ok (.ifCond .eq 55, 3) := by decide +kernel
theorem dX2_compareProducts_8 : decode cX2_compareProducts 8 = .ok (.aload_n 0, 1) := by decide +kernel
theorem dX2_compareProducts_9 : decode cX2_compareProducts 9 = .ok (.iload_n 2, 1) := by decide +kernel
theorem dX2_compareProducts_10 : decode cX2_compareProducts 10 = .ok (.invokevirtual 167, 3) := by decide +kernel
theorem dX2_compareProducts_13 : decode cX2_compareProducts 13 = .ok (.ifCond .eq 47, 3) := by decide +kernel
theorem dX2_compareProducts_16 : decode cX2_compareProducts 16 = .ok (.aload_n 0, 1) := by decide +kernel
theorem dX2_compareProducts_17 : decode cX2_compareProducts 17 = .ok (.iload_n 3, 1) := by decide +kernel
theorem dX2_compareProducts_18 : decode cX2_compareProducts 18 = .ok (.invokevirtual 167, 3) := by decide +kernel
theorem dX2_compareProducts_21 : decode cX2_compareProducts 21 = .ok (.ifCond .eq 39, 3) := by decide +kernel
theorem dX2_compareProducts_24 : decode cX2_compareProducts 24 = .ok (.aload_n 0, 1) := by decide +kernel
theorem dX2_compareProducts_25 : decode cX2_compareProducts 25 = .ok (.iload 4, 2) := by decide +kernel
theorem dX2_compareProducts_27 : decode cX2_compareProducts 27 = .ok (.invokevirtual 167, 3) := by decide +kernel
theorem dX2_compareProducts_30 : decode cX2_compareProducts 30 = .ok (.ifCond .eq 30, 3) := by decide +kernel
theorem dX2_compareProducts_33 : decode cX2_compareProducts 33 = .ok (.aload_n 0, 1) := by decide +kernel
theorem dX2_compareProducts_34 : decode cX2_compareProducts 34 = .ok (.iload_n 1, 1) := by decide +kernel
theorem dX2_compareProducts_35 : decode cX2_compareProducts 35 = .ok (.invokevirtual 150, 3) := by decide +kernel
theorem dX2_compareProducts_38 : decode cX2_compareProducts 38 = .ok (.aload_n 0, 1) := by decide +kernel
theorem dX2_compareProducts_39 : decode cX2_compareProducts 39 = .ok (.iload_n 2, 1) := by decide +kernel
theorem dX2_compareProducts_40 : decode cX2_compareProducts 40 = .ok (.invokevirtual 150, 3) := by decide +kernel
theorem dX2_compareProducts_43 : decode cX2_compareProducts 43 = .ok (.lmul, 1) := by decide +kernel
theorem dX2_compareProducts_44 : decode cX2_compareProducts 44 = .ok (.aload_n 0, 1) := by decide +kernel
theorem dX2_compareProducts_45 : decode cX2_compareProducts 45 = .ok (.iload_n 3, 1) := by decide +kernel
theorem dX2_compareProducts_46 : decode cX2_compareProducts 46 = .ok (.invokevirtual 150, 3) := by decide +kernel
theorem dX2_compareProducts_49 : decode cX2_compareProducts 49 = .ok (.aload_n 0, 1) := by decide +kernel
theorem dX2_compareProducts_50 : decode cX2_compareProducts 50 = .ok (.iload 4, 2) := by decide +kernel
theorem dX2_compareProducts_52 : decode cX2_compareProducts 52 = .ok (.invokevirtual 150, 3) := by decide +kernel
theorem dX2_compareProducts_55 : decode cX2_compareProducts 55 = .ok (.lmul, 1) := by decide +kernel
theorem dX2_compareProducts_56 : decode cX2_compareProducts 56 = .ok (.invokestatic 170, 3) := by decide +kernel
theorem dX2_compareProducts_59 : decode cX2_compareProducts 59 = .ok (.ireturn, 1) := by decide +kernel
theorem dX2_compareProducts_60 : decode cX2_compareProducts 60 = .ok (.aload_n 0, 1) := by decide +kernel
theorem dX2_compareProducts_61 : decode cX2_compareProducts 61 = .ok (.getfield 38, 3) := by decide +kernel
theorem dX2_compareProducts_64 : decode cX2_compareProducts 64 = .ok (.aload_n 0, 1) := by decide +kernel
theorem dX2_compareProducts_65 : decode cX2_compareProducts 65 = .ok (.getfield 13, 3) := by decide +kernel
theorem dX2_compareProducts_68 : decode cX2_compareProducts 68 = .ok (.iload_n 1, 1) := by decide +kernel
theorem dX2_compareProducts_69 : decode cX2_compareProducts 69 = .ok (.invokevirtual 106, 3) := by decide +kernel
theorem dX2_compareProducts_72 : decode cX2_compareProducts 72 = .ok (.aload_n 0, 1) := by decide +kernel
theorem dX2_compareProducts_73 : decode cX2_compareProducts 73 = .ok (.getfield 41, 3) := by decide +kernel
theorem dX2_compareProducts_76 : decode cX2_compareProducts 76 = .ok (.aload_n 0, 1) := by decide +kernel
theorem dX2_compareProducts_77 : decode cX2_compareProducts 77 = .ok (.getfield 13, 3) := by decide +kernel
theorem dX2_compareProducts_80 : decode cX2_compareProducts 80 = .ok (.iload_n 2, 1) := by decide +kernel
theorem dX2_compareProducts_81 : decode cX2_compareProducts 81 = .ok (.invokevirtual 106, 3) := by decide +kernel
theorem dX2_compareProducts_84 : decode cX2_compareProducts 84 = .ok (.aload_n 0, 1) := by decide +kernel
theorem dX2_compareProducts_85 : decode cX2_compareProducts 85 = .ok (.getfield 44, 3) := by decide +kernel
theorem dX2_compareProducts_88 : decode cX2_compareProducts 88 = .ok (.aload_n 0, 1) := by decide +kernel
theorem dX2_compareProducts_89 : decode cX2_compareProducts 89 = .ok (.getfield 38, 3) := by decide +kernel
theorem dX2_compareProducts_92 : decode cX2_compareProducts 92 = .ok (.aload_n 0, 1) := by decide +kernel
theorem dX2_compareProducts_93 : decode cX2_compareProducts 93 = .ok (.getfield 41, 3) := by decide +kernel
theorem dX2_compareProducts_96 : decode cX2_compareProducts 96 = .ok (.invokevirtual 176, 3) := by decide +kernel
theorem dX2_compareProducts_99 : decode cX2_compareProducts 99 = .ok (.aload_n 0, 1) := by decide +kernel
theorem dX2_compareProducts_100 : decode cX2_compareProducts 100 = .ok (.getfield 38, 3) := by decide +kernel
theorem dX2_compareProducts_103 : decode cX2_compareProducts 103 = .ok (.aload_n 0, 1) := by decide +kernel
theorem dX2_compareProducts_104 : decode cX2_compareProducts 104 = .ok (.getfield 13, 3) := by decide +kernel
theorem dX2_compareProducts_107 : decode cX2_compareProducts 107 = .ok (.iload_n 3, 1) := by decide +kernel
theorem dX2_compareProducts_108 : decode cX2_compareProducts 108 = .ok (.invokevirtual 106, 3) := by decide +kernel
theorem dX2_compareProducts_111 : decode cX2_compareProducts 111 = .ok (.aload_n 0, 1) := by decide +kernel
theorem dX2_compareProducts_112 : decode cX2_compareProducts 112 = .ok (.getfield 41, 3) := by decide +kernel
theorem dX2_compareProducts_115 : decode cX2_compareProducts 115 = .ok (.aload_n 0, 1) := by decide +kernel
theorem dX2_compareProducts_116 : decode cX2_compareProducts 116 = .ok (.getfield 13, 3) := by decide +kernel
theorem dX2_compareProducts_119 : decode cX2_compareProducts 119 = .ok (.iload 4, 2) := by decide +kernel
theorem dX2_compareProducts_121 : decode cX2_compareProducts 121 = .ok (.invokevirtual 106, 3) := by decide +kernel
theorem dX2_compareProducts_124 : decode cX2_compareProducts 124 = .ok (.aload_n 0, 1) := by decide +kernel
theorem dX2_compareProducts_125 : decode cX2_compareProducts 125 = .ok (.getfield 47, 3) := by decide +kernel
theorem dX2_compareProducts_128 : decode cX2_compareProducts 128 = .ok (.aload_n 0, 1) := by decide +kernel
theorem dX2_compareProducts_129 : decode cX2_compareProducts 129 = .ok (.getfield 38, 3) := by decide +kernel
theorem dX2_compareProducts_132 : decode cX2_compareProducts 132 = .ok (.aload_n 0, 1) := by decide +kernel
theorem dX2_compareProducts_133 : decode cX2_compareProducts 133 = .ok (.getfield 41, 3) := by decide +kernel
theorem dX2_compareProducts_136 : decode cX2_compareProducts 136 = .ok (.invokevirtual 176, 3) := by decide +kernel
theorem dX2_compareProducts_139 : decode cX2_compareProducts 139 = .ok (.aload_n 0, 1) := by decide +kernel
theorem dX2_compareProducts_140 : decode cX2_compareProducts 140 = .ok (.getfield 44, 3) := by decide +kernel
theorem dX2_compareProducts_143 : decode cX2_compareProducts 143 = .ok (.aload_n 0, 1) := by decide +kernel
theorem dX2_compareProducts_144 : decode cX2_compareProducts 144 = .ok (.getfield 47, 3) := by decide +kernel
theorem dX2_compareProducts_147 : decode cX2_compareProducts 147 = .ok (.invokevirtual 180, 3) := by decide +kernel
theorem dX2_compareProducts_150 : decode cX2_compareProducts 150 = .ok (.ireturn, 1) := by decide +kernel
theorem dX2_dropHelper_0 : decode cX2_dropHelper 0 = .ok (.aload_n 0, 1) := by decide +kernel
theorem dX2_dropHelper_1 : decode cX2_dropHelper 1 = .ok (.iconst 0, 1) := by decide +kernel
theorem dX2_dropHelper_2 : decode cX2_dropHelper 2 = .ok (.invokevirtual 118, 3) := by decide +kernel
theorem dX2_dropHelper_5 : decode cX2_dropHelper 5 = .ok (.istore_n 1, 1) := by decide +kernel
theorem dX2_dropHelper_6 : decode cX2_dropHelper 6 = .ok (.aload_n 0, 1) := by decide +kernel
theorem dX2_dropHelper_7 : decode cX2_dropHelper 7 = .ok (.iconst 0, 1) := by decide +kernel
theorem dX2_dropHelper_8 : decode cX2_dropHelper 8 = .ok (.putfield 70, 3) := by decide +kernel
theorem dX2_dropHelper_11 : decode cX2_dropHelper 11 = .ok (.iload_n 1, 1) := by decide +kernel
theorem dX2_dropHelper_12 : decode cX2_dropHelper 12 = .ok (.iconst 1, 1) := by decide +kernel
theorem dX2_dropHelper_13 : decode cX2_dropHelper 13 = .ok (.if_icmp .ge 4, 3) := by decide +kernel
theorem dX2_dropHelper_16 : decode cX2_dropHelper 16 = .ok (.return_, 1) := by decide +kernel
theorem dX2_dropHelper_17 : decode cX2_dropHelper 17 = .ok (.iconst 0, 1) := by decide +kernel
theorem dX2_dropHelper_18 : decode cX2_dropHelper 18 = .ok (.istore_n 2, 1) := by decide +kernel
theorem dX2_dropHelper_19 : decode cX2_dropHelper 19 = .ok (.iload_n 2, 1) := by decide +kernel
theorem dX2_dropHelper_20 : decode cX2_dropHelper 20 = .ok (.aload_n 0, 1) := by decide +kernel
theorem dX2_dropHelper_21 : decode cX2_dropHelper 21 = .ok (.getfield 66, 3) := by decide +kernel
theorem dX2_dropHelper_24 : decode cX2_dropHelper 24 = .ok (.if_icmp .gt 44, 3) := by decide +kernel
theorem dX2_dropHelper_27 : decode cX2_dropHelper 27 = .ok (.aload_n 0, 1) := by decide +kernel
theorem dX2_dropHelper_28 : decode cX2_dropHelper 28 = .ok (.getfield 38, 3) := by decide +kernel
theorem dX2_dropHelper_31 : decode cX2_dropHelper 31 = .ok (.aload_n 0, 1) := by decide +kernel
theorem dX2_dropHelper_32 : decode cX2_dropHelper 32 = .ok (.getfield 13, 3) := by decide +kernel
theorem dX2_dropHelper_35 : decode cX2_dropHelper 35 = .ok (.iload_n 2, 1) := by decide +kernel
theorem dX2_dropHelper_36 : decode cX2_dropHelper 36 = .ok (.aload_n 0, 1) := by decide +kernel
theorem dX2_dropHelper_37 : decode cX2_dropHelper 37 = .ok (.getfield 67, 3) := by decide +kernel
theorem dX2_dropHelper_40 : decode cX2_dropHelper 40 = .ok (.invokestatic 77, 3) := by decide +kernel
theorem dX2_dropHelper_43 : decode cX2_dropHelper 43 = .ok (.invokevirtual 106, 3) := by decide +kernel
theorem dX2_dropHelper_46 : decode cX2_dropHelper 46 = .ok (.aload_n 0, 1) := by decide +kernel
theorem dX2_dropHelper_47 : decode cX2_dropHelper 47 = .ok (.getfield 38, 3) := by decide +kernel
theorem dX2_dropHelper_50 : decode cX2_dropHelper 50 = .ok (.aload_n 0, 1) := by decide +kernel
theorem dX2_dropHelper_51 : decode cX2_dropHelper 51 = .ok (.getfield 13, 3) := by decide +kernel
theorem dX2_dropHelper_54 : decode cX2_dropHelper 54 = .ok (.iload_n 2, 1) := by decide +kernel
theorem dX2_dropHelper_55 : decode cX2_dropHelper 55 = .ok (.iload_n 1, 1) := by decide +kernel
theorem dX2_dropHelper_56 : decode cX2_dropHelper 56 = .ok (.invokestatic 77, 3) := by decide +kernel
theorem dX2_dropHelper_59 : decode cX2_dropHelper 59 = .ok (.invokevirtual 154, 3) := by decide +kernel
theorem dX2_dropHelper_62 : decode cX2_dropHelper 62 = .ok (.iinc 2 1, 3) := by decide +kernel
theorem dX2_dropHelper_65 : decode cX2_dropHelper 65 = .ok (.goto (-46), 3) := by decide +kernel
theorem dX2_dropHelper_68 : decode cX2_dropHelper 68 = .ok (.aload_n 0, 1) := by decide +kernel
theorem dX2_dropHelper_69 : decode cX2_dropHelper 69 = .ok (.getfield 23, 3) := by decide +kernel
theorem dX2_dropHelper_72 : decode cX2_dropHelper 72 = .ok (.iload_n 1, 1) := by decide +kernel
theorem dX2_dropHelper_73 : decode cX2_dropHelper 73 = .ok (.aload_n 0, 1) := by decide +kernel
theorem dX2_dropHelper_74 : decode cX2_dropHelper 74 = .ok (.getfield 23, 3) := by decide +kernel
theorem dX2_dropHelper_77 : decode cX2_dropHelper 77 = .ok (.aload_n 0, 1) := by decide +kernel
theorem dX2_dropHelper_78 : decode cX2_dropHelper 78 = .ok (.getfield 67, 3) := by decide +kernel
theorem dX2_dropHelper_81 : decode cX2_dropHelper 81 = .ok (.iaload, 1) := by decide +kernel
theorem dX2_dropHelper_82 : decode cX2_dropHelper 82 = .ok (.iastore, 1) := by decide +kernel
theorem dX2_dropHelper_83 : decode cX2_dropHelper 83 = .ok (.aload_n 0, 1) := by decide +kernel
theorem dX2_dropHelper_84 : decode cX2_dropHelper 84 = .ok (.dup, 1) := by decide +kernel
theorem dX2_dropHelper_85 : decode cX2_dropHelper 85 = .ok (.getfield 67, 3) := by decide +kernel
theorem dX2_dropHelper_88 : decode cX2_dropHelper 88 = .ok (.iconst 1, 1) := by decide +kernel
theorem dX2_dropHelper_89 : decode cX2_dropHelper 89 = .ok (.isub, 1) := by decide +kernel
theorem dX2_dropHelper_90 : decode cX2_dropHelper 90 = .ok (.putfield 67, 3) := by decide +kernel
theorem dX2_dropHelper_93 : decode cX2_dropHelper 93 = .ok (.return_, 1) := by decide +kernel
theorem dX2_entersAhead_0 : decode cX2_entersAhead 0 = .ok (.aload_n 0, 1) := by decide +kernel
theorem dX2_entersAhead_1 : decode cX2_entersAhead 1 = .ok (.iconst 0, 1) := by decide +kernel
theorem dX2_entersAhead_2 : decode cX2_entersAhead 2 = .ok (.aload_n 0, 1) := by decide +kernel
theorem dX2_entersAhead_3 : decode cX2_entersAhead 3 = .ok (.getfield 131, 3) := by decide +kernel
theorem dX2_entersAhead_6 : decode cX2_entersAhead 6 = .ok (.invokestatic 77, 3) := by decide +kernel
theorem dX2_entersAhead_9 : decode cX2_entersAhead 9 = .ok (.aload_n 0, 1) := by decide +kernel
theorem dX2_entersAhead_10 : decode cX2_entersAhead 10 = .ok (.getfield 147, 3) := by decide +kernel
theorem dX2_entersAhead_13 : decode cX2_entersAhead 13 = .ok (.iload_n 1, 1) := by decide +kernel
theorem dX2_entersAhead_14 : decode cX2_entersAhead 14 = .ok (.invokestatic 77, 3) := by decide +kernel
theorem dX2_entersAhead_17 : decode cX2_entersAhead 17 = .ok (.iconst 0, 1) := by decide +kernel
theorem dX2_entersAhead_18 : decode cX2_entersAhead 18 = .ok (.iload_n 1, 1) := by decide +kernel
theorem dX2_entersAhead_19 : decode cX2_entersAhead 19 = .ok (.invokestatic 77, 3) := by decide +kernel
theorem dX2_entersAhead_22 : decode cX2_entersAhead 22 = .ok (.aload_n 0, 1) := by decide +kernel
theorem dX2_entersAhead_23 : decode cX2_entersAhead 23 = .ok (.getfield 147, 3) := by decide +kernel
theorem dX2_entersAhead_26 : decode cX2_entersAhead 26 = .ok (.aload_n 0, 1) := by decide +kernel
theorem dX2_entersAhead_27 : decode cX2_entersAhead 27 = .ok (.getfield 131, 3) := by decide +kernel
theorem dX2_entersAhead_30 : decode cX2_entersAhead 30 = .ok (.invokestatic 77, 3) := by decide +kernel
theorem dX2_entersAhead_33 : decode cX2_entersAhead 33 = .ok (.invokevirtual 160, 3) := by decide +kernel
theorem dX2_entersAhead_36 : decode cX2_entersAhead 36 = .ok (.istore_n 2, 1) := by decide +kernel
theorem dX2_entersAhead_37 : decode cX2_entersAhead 37 = .ok (.iload_n 2, 1) := by decide +kernel
theorem dX2_entersAhead_38 : decode cX2_entersAhead 38 = .ok (.ifCond .lt 25, 3) := by decide +kernel
theorem dX2_entersAhead_41 : decode cX2_entersAhead 41 = .ok (.iload_n 2, 1) := by decide +kernel
theorem dX2_entersAhead_42 : decode cX2_entersAhead 42 = .ok (.ifCond .ne 25, 3) := by decide +kernel
theorem dX2_entersAhead_45 : decode cX2_entersAhead 45 = .ok (.aload_n 0, 1) := by decide +kernel
theorem dX2_entersAhead_46 : decode cX2_entersAhead 46 = .ok (.getfield 23, 3) := by decide +kernel
theorem dX2_entersAhead_49 : decode cX2_entersAhead 49 = .ok (.iload_n 1, 1) := by decide +kernel
theorem dX2_entersAhead_50 : decode cX2_entersAhead 50 = .ok (.iaload, 1) := by decide +kernel
theorem dX2_entersAhead_51 : decode cX2_entersAhead 51 = .ok (.aload_n 0, 1) := by decide +kernel
theorem dX2_entersAhead_52 : decode cX2_entersAhead 52 = .ok (.getfield 23, 3) := by decide +kernel
theorem dX2_entersAhead_55 : decode cX2_entersAhead 55 = .ok (.aload_n 0, 1) := by decide +kernel
theorem dX2_entersAhead_56 : decode cX2_entersAhead 56 = .ok (.getfield 131, 3) := by decide +kernel
theorem dX2_entersAhead_59 : decode cX2_entersAhead 59 = .ok (.iaload, 1) := by decide +kernel
theorem dX2_entersAhead_60 : decode cX2_entersAhead 60 = .ok (.if_icmp .ge 7, 3) := by decide +kernel
theorem dX2_entersAhead_63 : decode cX2_entersAhead 63 = .ok (.iconst 1, 1) := by decide +kernel
theorem dX2_entersAhead_64 : decode cX2_entersAhead 64 = .ok (.goto 4, 3) := by decide +kernel
theorem dX2_entersAhead_67 : decode cX2_entersAhead 67 = .ok (.iconst 0, 1) := by decide +kernel
theorem dX2_entersAhead_68 : decode cX2_entersAhead 68 = .ok (.ireturn, 1) := by decide +kernel
theorem dX2_floor_0 : decode cX2_floor 0 = .ok (.aload_n 0, 1) := by decide +kernel
theorem dX2_floor_1 : decode cX2_floor 1 = .ok (.aload_n 0, 1) := by decide +kernel
theorem dX2_floor_2 : decode cX2_floor 2 = .ok (.getfield 35, 3) := by decide +kernel
theorem dX2_floor_5 : decode cX2_floor 5 = .ok (.invokevirtual 121, 3) := by decide +kernel
theorem dX2_floor_8 : decode cX2_floor 8 = .ok (.aload_n 0, 1) := by decide +kernel
theorem dX2_floor_9 : decode cX2_floor 9 = .ok (.getfield 38, 3) := by decide +kernel
theorem dX2_floor_12 : decode cX2_floor 12 = .ok (.aload_n 0, 1) := by decide +kernel
theorem dX2_floor_13 : decode cX2_floor 13 = .ok (.getfield 13, 3) := by decide +kernel
theorem dX2_floor_16 : decode cX2_floor 16 = .ok (.iload_n 1, 1) := by decide +kernel
theorem dX2_floor_17 : decode cX2_floor 17 = .ok (.iconst 0, 1) := by decide +kernel
theorem dX2_floor_18 : decode cX2_floor 18 = .ok (.invokestatic 77, 3) := by decide +kernel
theorem dX2_floor_21 : decode cX2_floor 21 = .ok (.invokevirtual 106, 3) := by decide +kernel
theorem dX2_floor_24 : decode cX2_floor 24 = .ok (.aload_n 0, 1) := by decide +kernel
theorem dX2_floor_25 : decode cX2_floor 25 = .ok (.getfield 38, 3) := by decide +kernel
theorem dX2_floor_28 : decode cX2_floor 28 = .ok (.aload_n 0, 1) := by decide +kernel
theorem dX2_floor_29 : decode cX2_floor 29 = .ok (.getfield 35, 3) := by decide +kernel
theorem dX2_floor_32 : decode cX2_floor 32 = .ok (.aload_n 2, 1) := by decide +kernel
theorem dX2_floor_33 : decode cX2_floor 33 = .ok (.aload_n 0, 1) := by decide +kernel
theorem dX2_floor_34 : decode cX2_floor 34 = .ok (.getfield 53, 3) := by decide +kernel
theorem dX2_floor_37 : decode cX2_floor 37 = .ok (.invokevirtual 141, 3) := by decide +kernel
theorem dX2_floor_40 : decode cX2_floor 40 = .ok (.return_, 1) := by decide +kernel
theorem dX2_isSmall_0 : decode cX2_isSmall 0 = .ok (.aload_n 0, 1) := by decide +kernel
theorem dX2_isSmall_1 : decode cX2_isSmall 1 = .ok (.getfield 13, 3) := by decide +kernel
theorem dX2_isSmall_4 : decode cX2_isSmall 4 = .ok (.iload_n 1, 1) := by decide +kernel
theorem dX2_isSmall_5 : decode cX2_isSmall 5 = .ok (.iaload, 1) := by decide +kernel
theorem dX2_isSmall_6 : decode cX2_isSmall 6 = .ok (.iconst (-1), 1) := by decide +kernel
theorem dX2_isSmall_7 : decode cX2_isSmall 7 = .ok (.if_icmp .lt 17, 3) := by decide +kernel
theorem dX2_isSmall_10 : decode cX2_isSmall 10 = .ok (.aload_n 0, 1) := by decide +kernel
theorem dX2_isSmall_11 : decode cX2_isSmall 11 = .ok (.getfield 13, 3) := by decide +kernel
theorem dX2_isSmall_14 : decode cX2_isSmall 14 = .ok (.iload_n 1, 1) := by decide +kernel
theorem dX2_isSmall_15 : decode cX2_isSmall 15 = .ok (.iaload, 1) := by decide +kernel
theorem dX2_isSmall_16 : decode cX2_isSmall 16 = .ok (.iconst 1, 1) := by decide +kernel
theorem dX2_isSmall_17 : decode cX2_isSmall 17 = .ok (.if_icmp .gt 7, 3) := by decide +kernel
theorem dX2_isSmall_20 : decode cX2_isSmall 20 = .ok (.iconst 1, 1) := by decide +kernel
theorem dX2_isSmall_21 : decode cX2_isSmall 21 = .ok (.goto 4, 3) := by decide +kernel
theorem dX2_isSmall_24 : decode cX2_isSmall 24 = .ok (.iconst 0, 1) := by decide +kernel
theorem dX2_isSmall_25 : decode cX2_isSmall 25 = .ok (.ireturn, 1) := by decide +kernel
theorem dX2_leavesAhead_0 : decode cX2_leavesAhead 0 = .ok (.aload_n 0, 1) := by decide +kernel
theorem dX2_leavesAhead_1 : decode cX2_leavesAhead 1 = .ok (.iload_n 1, 1) := by decide +kernel
theorem dX2_leavesAhead_2 : decode cX2_leavesAhead 2 = .ok (.iconst 0, 1) := by decide +kernel
theorem dX2_leavesAhead_3 : decode cX2_leavesAhead 3 = .ok (.invokestatic 77, 3) := by decide +kernel
theorem dX2_leavesAhead_6 : decode cX2_leavesAhead 6 = .ok (.aload_n 0, 1) := by decide +kernel
theorem dX2_leavesAhead_7 : decode cX2_leavesAhead 7 = .ok (.getfield 147, 3) := by decide +kernel
theorem dX2_leavesAhead_10 : decode cX2_leavesAhead 10 = .ok (.aload_n 0, 1) := by decide +kernel
theorem dX2_leavesAhead_11 : decode cX2_leavesAhead 11 = .ok (.getfield 131, 3) := by decide +kernel
theorem dX2_leavesAhead_14 : decode cX2_leavesAhead 14 = .ok (.invokestatic 77, 3) := by decide +kernel
theorem dX2_leavesAhead_17 : decode cX2_leavesAhead 17 = .ok (.aload_n 0, 1) := by decide +kernel
theorem dX2_leavesAhead_18 : decode cX2_leavesAhead 18 = .ok (.getfield 147, 3) := by decide +kernel
theorem dX2_leavesAhead_21 : decode cX2_leavesAhead 21 = .ok (.iconst 0, 1) := by decide +kernel
theorem dX2_leavesAhead_22 : decode cX2_leavesAhead 22 = .ok (.invokestatic 77, 3) := by decide +kernel
theorem dX2_leavesAhead_25 : decode cX2_leavesAhead 25 = .ok (.iload_n 1, 1) := by decide +kernel
theorem dX2_leavesAhead_26 : decode cX2_leavesAhead 26 = .ok (.aload_n 0, 1) := by decide +kernel
theorem dX2_leavesAhead_27 : decode cX2_leavesAhead 27 = .ok (.getfield 131, 3) := by decide +kernel
theorem dX2_leavesAhead_30 : decode cX2_leavesAhead 30 = .ok (.invokestatic 77, 3) := by decide +kernel
theorem dX2_leavesAhead_33 : decode cX2_leavesAhead 33 = .ok (.invokevirtual 160, 3) := by decide +kernel
theorem dX2_leavesAhead_36 : decode cX2_leavesAhead 36 = .ok (.istore_n 2, 1) := by decide +kernel
theorem dX2_leavesAhead_37 : decode cX2_leavesAhead 37 = .ok (.iload_n 2, 1) := by decide +kernel
theorem dX2_leavesAhead_38 : decode cX2_leavesAhead 38 = .ok (.ifCond .lt 25, 3) := by decide +kernel
theorem dX2_leavesAhead_41 : decode cX2_leavesAhead 41 = .ok (.iload_n 2, 1) := by decide +kernel
theorem dX2_leavesAhead_42 : decode cX2_leavesAhead 42 = .ok (.ifCond .ne 25, 3) := by decide +kernel
theorem dX2_leavesAhead_45 : decode cX2_leavesAhead 45 = .ok (.aload_n 0, 1) := by decide +kernel
theorem dX2_leavesAhead_46 : decode cX2_leavesAhead 46 = .ok (.getfield 20, 3) := by decide +kernel
theorem dX2_leavesAhead_49 : decode cX2_leavesAhead 49 = .ok (.iload_n 1, 1) := by decide +kernel
theorem dX2_leavesAhead_50 : decode cX2_leavesAhead 50 = .ok (.iaload, 1) := by decide +kernel
theorem dX2_leavesAhead_51 : decode cX2_leavesAhead 51 = .ok (.aload_n 0, 1) := by decide +kernel
theorem dX2_leavesAhead_52 : decode cX2_leavesAhead 52 = .ok (.getfield 20, 3) := by decide +kernel
theorem dX2_leavesAhead_55 : decode cX2_leavesAhead 55 = .ok (.aload_n 0, 1) := by decide +kernel
theorem dX2_leavesAhead_56 : decode cX2_leavesAhead 56 = .ok (.getfield 147, 3) := by decide +kernel
theorem dX2_leavesAhead_59 : decode cX2_leavesAhead 59 = .ok (.iaload, 1) := by decide +kernel
theorem dX2_leavesAhead_60 : decode cX2_leavesAhead 60 = .ok (.if_icmp .ge 7, 3) := by decide +kernel
theorem dX2_leavesAhead_63 : decode cX2_leavesAhead 63 = .ok (.iconst 1, 1) := by decide +kernel
theorem dX2_leavesAhead_64 : decode cX2_leavesAhead 64 = .ok (.goto 4, 3) := by decide +kernel
theorem dX2_leavesAhead_67 : decode cX2_leavesAhead 67 = .ok (.iconst 0, 1) := by decide +kernel
theorem dX2_leavesAhead_68 : decode cX2_leavesAhead 68 = .ok (.ireturn, 1) := by decide +kernel
theorem dX2_pivotGreat_0 : decode cX2_pivotGreat 0 = .ok (.aload_n 0, 1) := by decide +kernel
theorem dX2_pivotGreat_1 : decode cX2_pivotGreat 1 = .ok (.getfield 38, 3) := by decide +kernel
theorem dX2_pivotGreat_4 : decode cX2_pivotGreat 4 = .ok (.aload_n 0, 1) := by decide +kernel
theorem dX2_pivotGreat_5 : decode cX2_pivotGreat 5 = .ok (.getfield 13, 3) := by decide +kernel
theorem dX2_pivotGreat_8 : decode cX2_pivotGreat 8 = .ok (.iload_n 1, 1) := by decide +kernel
theorem dX2_pivotGreat_9 : decode cX2_pivotGreat 9 = .ok (.invokevirtual 106, 3) := by decide +kernel
theorem dX2_pivotGreat_12 : decode cX2_pivotGreat 12 = .ok (.aload_n 0, 1) := by decide +kernel
theorem dX2_pivotGreat_13 : decode cX2_pivotGreat 13 = .ok (.getfield 44, 3) := by decide +kernel
theorem dX2_pivotGreat_16 : decode cX2_pivotGreat 16 = .ok (.aload_n 0, 1) := by decide +kernel
theorem dX2_pivotGreat_17 : decode cX2_pivotGreat 17 = .ok (.getfield 38, 3) := by decide +kernel
theorem dX2_pivotGreat_20 : decode cX2_pivotGreat 20 = .ok (.aload_n 0, 1) := by decide +kernel
theorem dX2_pivotGreat_21 : decode cX2_pivotGreat 21 = .ok (.getfield 31, 3) := by decide +kernel
theorem dX2_pivotGreat_24 : decode cX2_pivotGreat 24 = .ok (.invokevirtual 176, 3) := by decide +kernel
theorem dX2_pivotGreat_27 : decode cX2_pivotGreat 27 = .ok (.aload_n 0, 1) := by decide +kernel
theorem dX2_pivotGreat_28 : decode cX2_pivotGreat 28 = .ok (.getfield 38, 3) := by decide +kernel
theorem dX2_pivotGreat_31 : decode cX2_pivotGreat 31 = .ok (.aload_n 0, 1) := by decide +kernel
theorem dX2_pivotGreat_32 : decode cX2_pivotGreat 32 = .ok (.getfield 13, 3) := by decide +kernel
theorem dX2_pivotGreat_35 : decode cX2_pivotGreat 35 = .ok (.iload_n 2, 1) := by decide +kernel
theorem dX2_pivotGreat_36 : decode cX2_pivotGreat 36 = .ok (.invokevirtual 106, 3) := by decide +kernel
theorem dX2_pivotGreat_39 : decode cX2_pivotGreat 39 = .ok (.aload_n 0, 1) := by decide +kernel
theorem dX2_pivotGreat_40 : decode cX2_pivotGreat 40 = .ok (.getfield 41, 3) := by decide +kernel
theorem dX2_pivotGreat_43 : decode cX2_pivotGreat 43 = .ok (.aload_n 0, 1) := by decide +kernel
theorem dX2_pivotGreat_44 : decode cX2_pivotGreat 44 = .ok (.getfield 13, 3) := by decide +kernel
theorem dX2_pivotGreat_47 : decode cX2_pivotGreat 47 = .ok (.iload_n 3, 1) := by decide +kernel
theorem dX2_pivotGreat_48 : decode cX2_pivotGreat 48 = .ok (.invokevirtual 106, 3) := by decide +kernel
theorem dX2_pivotGreat_51 : decode cX2_pivotGreat 51 = .ok (.aload_n 0, 1) := by decide +kernel
theorem dX2_pivotGreat_52 : decode cX2_pivotGreat 52 = .ok (.getfield 47, 3) := by decide +kernel
theorem dX2_pivotGreat_55 : decode cX2_pivotGreat 55 = .ok (.aload_n 0, 1) := by decide +kernel
theorem dX2_pivotGreat_56 : decode cX2_pivotGreat 56 = .ok (.getfield 38, 3) := by decide +kernel
theorem dX2_pivotGreat_59 : decode cX2_pivotGreat 59 = .ok (.aload_n 0, 1) := by decide +kernel
theorem dX2_pivotGreat_60 : decode cX2_pivotGreat 60 = .ok (.getfield 41, 3) := by decide +kernel
theorem dX2_pivotGreat_63 : decode cX2_pivotGreat 63 = .ok (.invokevirtual 176, 3) := by decide +kernel
theorem dX2_pivotGreat_66 : decode cX2_pivotGreat 66 = .ok (.aload_n 0, 1) := by decide +kernel
theorem dX2_pivotGreat_67 : decode cX2_pivotGreat 67 = .ok (.getfield 44, 3) := by decide +kernel
theorem dX2_pivotGreat_70 : decode cX2_pivotGreat 70 = .ok (.aload_n 0, 1) := by decide +kernel
theorem dX2_pivotGreat_71 : decode cX2_pivotGreat 71 = .ok (.getfield 47, 3) := by decide +kernel
theorem dX2_pivotGreat_74 : decode cX2_pivotGreat 74 = .ok (.iconst (-1), 1) := by decide +kernel
theorem dX2_pivotGreat_75 : decode cX2_pivotGreat 75 = .ok (.invokevirtual 196, 3) := by decide +kernel
theorem dX2_pivotGreat_78 : decode cX2_pivotGreat 78 = .ok (.aload_n 0, 1) := by decide +kernel
theorem dX2_pivotGreat_79 : decode cX2_pivotGreat 79 = .ok (.getfield 44, 3) := by decide +kernel
theorem dX2_pivotGreat_82 : decode cX2_pivotGreat 82 = .ok (.aload_n 0, 1) := by decide +kernel
theorem dX2_pivotGreat_83 : decode cX2_pivotGreat 83 = .ok (.getfield 35, 3) := by decide +kernel
theorem dX2_pivotGreat_86 : decode cX2_pivotGreat 86 = .ok (.aload_n 0, 1) := by decide +kernel
theorem dX2_pivotGreat_87 : decode cX2_pivotGreat 87 = .ok (.getfield 50, 3) := by decide +kernel
theorem dX2_pivotGreat_90 : decode cX2_pivotGreat 90 = .ok (.aload_n 0, 1) := by decide +kernel
theorem dX2_pivotGreat_91 : decode cX2_pivotGreat 91 = .ok (.getfield 53, 3) := by decide +kernel
theorem dX2_pivotGreat_94 : decode cX2_pivotGreat 94 = .ok (.invokevirtual 141, 3) := by decide +kernel
theorem dX2_pivotGreat_97 : decode cX2_pivotGreat 97 = .ok (.aload_n 0, 1) := by decide +kernel
theorem dX2_pivotGreat_98 : decode cX2_pivotGreat 98 = .ok (.getfield 50, 3) := by decide +kernel
theorem dX2_pivotGreat_101 : decode cX2_pivotGreat 101 = .ok (.getfield 200, 3) := by decide +kernel
theorem dX2_pivotGreat_104 : decode cX2_pivotGreat 104 = .ok (.bipush 6, 2) := by decide +kernel
theorem dX2_pivotGreat_106 : decode cX2_pivotGreat 106 = .ok (.if_icmp .le 5, 3) := by decide +kernel
theorem dX2_pivotGreat_109 : decode cX2_pivotGreat 109 = .ok (.iconst 0, 1) := by decide +kernel
theorem dX2_pivotGreat_110 : decode cX2_pivotGreat 110 = .ok (.ireturn, 1) := by decide +kernel
theorem dX2_pivotGreat_111 : decode cX2_pivotGreat 111 = .ok (.aload_n 0, 1) := by decide +kernel
theorem dX2_pivotGreat_112 : decode cX2_pivotGreat 112 = .ok (.getfield 50, 3) := by decide +kernel
theorem dX2_pivotGreat_115 : decode cX2_pivotGreat 115 = .ok (.dup, 1) := by decide +kernel
theorem dX2_pivotGreat_116 : decode cX2_pivotGreat 116 = .ok (.getfield 145, 3) := by decide +kernel
theorem dX2_pivotGreat_119 : decode cX2_pivotGreat 119 = .ok (.iload 4, 2) := by decide +kernel
theorem dX2_pivotGreat_121 : decode cX2_pivotGreat 121 = .ok (.imul, 1) := by decide +kernel
theorem dX2_pivotGreat_122 : decode cX2_pivotGreat 122 = .ok (.putfield 145, 3) := by decide +kernel
theorem dX2_pivotGreat_125 : decode cX2_pivotGreat 125 = .ok (.aload_n 0, 1) := by decide +kernel
theorem dX2_pivotGreat_126 : decode cX2_pivotGreat 126 = .ok (.getfield 50, 3) := by decide +kernel
theorem dX2_pivotGreat_129 : decode cX2_pivotGreat 129 = .ok (.aload_n 0, 1) := by decide +kernel
theorem dX2_pivotGreat_130 : decode cX2_pivotGreat 130 = .ok (.getfield 17, 3) := by decide +kernel
theorem dX2_pivotGreat_133 : decode cX2_pivotGreat 133 = .ok (.iload_n 1, 1) := by decide +kernel
theorem dX2_pivotGreat_134 : decode cX2_pivotGreat 134 = .ok (.invokevirtual 154, 3) := by decide +kernel
theorem dX2_pivotGreat_137 : decode cX2_pivotGreat 137 = .ok (.iconst 1, 1) := by decide +kernel
theorem dX2_pivotGreat_138 : decode cX2_pivotGreat 138 = .ok (.ireturn, 1) := by decide +kernel
theorem dX2_pivotRow_0 : decode cX2_pivotRow 0 = .ok (.iload_n 1, 1) := by decide +kernel
theorem dX2_pivotRow_1 : decode cX2_pivotRow 1 = .ok (.iconst 0, 1) := by decide +kernel
theorem dX2_pivotRow_2 : decode cX2_pivotRow 2 = .ok (.invokestatic 77, 3) := by decide +kernel
theorem dX2_pivotRow_5 : decode cX2_pivotRow 5 = .ok (.istore_n 3, 1) := by decide +kernel
theorem dX2_pivotRow_6 : decode cX2_pivotRow 6 = .ok (.aload_n 0, 1) := by decide +kernel
theorem dX2_pivotRow_7 : decode cX2_pivotRow 7 = .ok (.getfield 147, 3) := by decide +kernel
theorem dX2_pivotRow_10 : decode cX2_pivotRow 10 = .ok (.iconst 0, 1) := by decide +kernel
theorem dX2_pivotRow_11 : decode cX2_pivotRow 11 = .ok (.invokestatic 77, 3) := by decide +kernel
theorem dX2_pivotRow_14 : decode cX2_pivotRow 14 = .ok (.istore 4, 2) := by decide +kernel
theorem dX2_pivotRow_16 : decode cX2_pivotRow 16 = .ok (.aload_n 0, 1) := by decide +kernel
theorem dX2_pivotRow_17 : decode cX2_pivotRow 17 = .ok (.getfield 131, 3) := by decide +kernel
theorem dX2_pivotRow_20 : decode cX2_pivotRow 20 = .ok (.bipush 8, 2) := by decide +kernel
theorem dX2_pivotRow_22 : decode cX2_pivotRow 22 = .ok (.imul, 1) := by decide +kernel
theorem dX2_pivotRow_23 : decode cX2_pivotRow 23 = .ok (.istore 5, 2) := by decide +kernel
theorem dX2_pivotRow_25 : decode cX2_pivotRow 25 = .ok (.aload_n 0, 1) := by decide +kernel
theorem dX2_pivotRow_26 : decode cX2_pivotRow 26 = .ok (.bipush (-2), 2) := by decide +kernel
theorem dX2_pivotRow_28 : decode cX2_pivotRow 28 = .ok (.iconst 0, 1) := by decide +kernel
theorem dX2_pivotRow_29 : decode cX2_pivotRow 29 = .ok (.invokestatic 77, 3) := by decide +kernel
theorem dX2_pivotRow_32 : decode cX2_pivotRow 32 = .ok (.invokevirtual 150, 3) := by decide +kernel
theorem dX2_pivotRow_35 : decode cX2_pivotRow 35 = .ok (.lstore 6, 2) := by decide +kernel
theorem dX2_pivotRow_37 : decode cX2_pivotRow 37 = .ok (.aload_n 0, 1) := by decide +kernel
theorem dX2_pivotRow_38 : decode cX2_pivotRow 38 = .ok (.iload 4, 2) := by decide +kernel
theorem dX2_pivotRow_40 : decode cX2_pivotRow 40 = .ok (.iload 5, 2) := by decide +kernel
theorem dX2_pivotRow_42 : decode cX2_pivotRow 42 = .ok (.iadd, 1) := by decide +kernel
theorem dX2_pivotRow_43 : decode cX2_pivotRow 43 = .ok (.invokevirtual 150, 3) := by decide +kernel
theorem dX2_pivotRow_46 : decode cX2_pivotRow 46 = .ok (.lstore 8, 2) := by decide +kernel
theorem dX2_pivotRow_48 : decode cX2_pivotRow 48 = .ok (.aload_n 0, 1) := by decide +kernel
theorem dX2_pivotRow_49 : decode cX2_pivotRow 49 = .ok (.iload_n 3, 1) := by decide +kernel
theorem dX2_pivotRow_50 : decode cX2_pivotRow 50 = .ok (.iload 5, 2) := by decide +kernel
theorem dX2_pivotRow_52 : decode cX2_pivotRow 52 = .ok (.iadd, 1) := by decide +kernel
theorem dX2_pivotRow_53 : decode cX2_pivotRow 53 = .ok (.invokevirtual 150, 3) := by decide +kernel
theorem dX2_pivotRow_56 : decode cX2_pivotRow 56 = .ok (.lstore 10, 2) := by decide +kernel
theorem dX2_pivotRow_58 : decode cX2_pivotRow 58 = .ok (.lload 6, 2) := by decide +kernel
theorem dX2_pivotRow_60 : decode cX2_pivotRow 60 = .ok (.lconst 0, 1) := by decide +kernel
theorem dX2_pivotRow_61 : decode cX2_pivotRow 61 = .ok (.lcmp, 1) := by decide +kernel
theorem dX2_pivotRow_62 : decode cX2_pivotRow 62 = .ok (.ifCond .le 43, 3) := by decide +kernel
theorem dX2_pivotRow_65 : decode cX2_pivotRow 65 = .ok (.aload_n 0, 1) := by decide +kernel
theorem dX2_pivotRow_66 : decode cX2_pivotRow 66 = .ok (.bipush (-2), 2) := by decide +kernel
theorem dX2_pivotRow_68 : decode cX2_pivotRow 68 = .ok (.iconst 0, 1) := by decide +kernel
theorem dX2_pivotRow_69 : decode cX2_pivotRow 69 = .ok (.invokestatic 77, 3) := by decide +kernel
theorem dX2_pivotRow_72 : decode cX2_pivotRow 72 = .ok (.invokevirtual 167, 3) := by decide +kernel
theorem dX2_pivotRow_75 : decode cX2_pivotRow 75 = .ok (.ifCond .eq 30, 3) := by decide +kernel
theorem dX2_pivotRow_78 : decode cX2_pivotRow 78 = .ok (.aload_n 0, 1) := by decide +kernel
theorem dX2_pivotRow_79 : decode cX2_pivotRow 79 = .ok (.iload 4, 2) := by decide +kernel
theorem dX2_pivotRow_81 : decode cX2_pivotRow 81 = .ok (.iload 5, 2) := by decide +kernel
theorem dX2_pivotRow_83 : decode cX2_pivotRow 83 = .ok (.iadd, 1) := by decide +kernel
theorem dX2_pivotRow_84 : decode cX2_pivotRow 84 = .ok (.invokevirtual 167, 3) := by decide +kernel
theorem dX2_pivotRow_87 : decode cX2_pivotRow 87 = .ok (.ifCond .eq 18, 3) := by decide +kernel
theorem dX2_pivotRow_90 : decode cX2_pivotRow 90 = .ok (.aload_n 0, 1) := by decide +kernel
theorem dX2_pivotRow_91 : decode cX2_pivotRow 91 = .ok (.iload_n 3, 1) := by decide +kernel
theorem dX2_pivotRow_92 : decode cX2_pivotRow 92 = .ok (.iload 5, 2) := by decide +kernel
theorem dX2_pivotRow_94 : decode cX2_pivotRow 94 = .ok (.iadd, 1) := by decide +kernel
theorem dX2_pivotRow_95 : decode cX2_pivotRow 95 = .ok (.invokevirtual 167, 3) := by decide +kernel
theorem dX2_pivotRow_98 : decode cX2_pivotRow 98 = .ok (.ifCond .eq 7, 3) := by decide +kernel
theorem dX2_pivotRow_101 : decode cX2_pivotRow 101 = .ok (.iconst 1, 1) := by decide +kernel
theorem dX2_pivotRow_102 : decode cX2_pivotRow 102 = .ok (.goto 4, 3) := by decide +kernel
theorem dX2_pivotRow_105 : decode cX2_pivotRow 105 = .ok (.iconst 0, 1) := by decide +kernel
theorem dX2_pivotRow_106 : decode cX2_pivotRow 106 = .ok (.istore 12, 2) := by decide +kernel
theorem dX2_pivotRow_108 : decode cX2_pivotRow 108 = .ok (.iconst 0, 1) := by decide +kernel
theorem dX2_pivotRow_109 : decode cX2_pivotRow 109 = .ok (.istore 13, 2) := by decide +kernel
theorem dX2_pivotRow_111 : decode cX2_pivotRow 111 = .ok (.iload 13, 2) := by decide +kernel
theorem dX2_pivotRow_113 : decode cX2_pivotRow 113 = .ok (.aload_n 0, 1) := by decide +kernel
theorem dX2_pivotRow_114 : decode cX2_pivotRow 114 = .ok (.getfield 67, 3) := by decide +kernel
theorem dX2_pivotRow_117 : decode cX2_pivotRow 117 = .ok (.if_icmp .gt 137, 3) := by decide +kernel
theorem dX2_pivotRow_120 : decode cX2_pivotRow 120 = .ok (.iload_n 3, 1) := by decide +kernel
theorem dX2_pivotRow_121 : decode cX2_pivotRow 121 = .ok (.iload 13, 2) := by decide +kernel
theorem dX2_pivotRow_123 : decode cX2_pivotRow 123 = .ok (.bipush 8, 2) := by decide +kernel
theorem dX2_pivotRow_125 : decode cX2_pivotRow 125 = .ok (.imul, 1) := by decide +kernel
theorem dX2_pivotRow_126 : decode cX2_pivotRow 126 = .ok (.iadd, 1) := by decide +kernel
theorem dX2_pivotRow_127 : decode cX2_pivotRow 127 = .ok (.istore 14, 2) := by decide +kernel
theorem dX2_pivotRow_129 : decode cX2_pivotRow 129 = .ok (.iload 4, 2) := by decide +kernel
theorem dX2_pivotRow_131 : decode cX2_pivotRow 131 = .ok (.iload 13, 2) := by decide +kernel
theorem dX2_pivotRow_133 : decode cX2_pivotRow 133 = .ok (.bipush 8, 2) := by decide +kernel
theorem dX2_pivotRow_135 : decode cX2_pivotRow 135 = .ok (.imul, 1) := by decide +kernel
theorem dX2_pivotRow_136 : decode cX2_pivotRow 136 = .ok (.iadd, 1) := by decide +kernel
theorem dX2_pivotRow_137 : decode cX2_pivotRow 137 = .ok (.istore 15, 2) := by decide +kernel
theorem dX2_pivotRow_139 : decode cX2_pivotRow 139 = .ok (.iload 13, 2) := by decide +kernel
theorem dX2_pivotRow_141 : decode cX2_pivotRow 141 = .ok (.aload_n 0, 1) := by decide +kernel
theorem dX2_pivotRow_142 : decode cX2_pivotRow 142 = .ok (.getfield 131, 3) := by decide +kernel
theorem dX2_pivotRow_145 : decode cX2_pivotRow 145 = .ok (.if_icmp .ne 21, 3) := by decide +kernel
theorem dX2_pivotRow_148 : decode cX2_pivotRow 148 = .ok (.aload_n 0, 1) := by decide +kernel
theorem dX2_pivotRow_149 : decode cX2_pivotRow 149 = .ok (.getfield 13, 3) := by decide +kernel
theorem dX2_pivotRow_152 : decode cX2_pivotRow 152 = .ok (.aload_n 0, 1) := by decide +kernel
theorem dX2_pivotRow_153 : decode cX2_pivotRow 153 = .ok (.getfield 17, 3) := by decide +kernel
theorem dX2_pivotRow_156 : decode cX2_pivotRow 156 = .ok (.iload 14, 2) := by decide +kernel
theorem dX2_pivotRow_158 : decode cX2_pivotRow 158 = .ok (.iload_n 2, 1) := by decide +kernel
theorem dX2_pivotRow_159 : decode cX2_pivotRow 159 = .ok (.ineg, 1) := by decide +kernel
theorem dX2_pivotRow_160 : decode cX2_pivotRow 160 = .ok (.invokestatic 188, 3) := by decide +kernel
theorem dX2_pivotRow_163 : decode cX2_pivotRow 163 = .ok (.goto 85, 3) := by decide +kernel
theorem dX2_pivotRow_166 : decode cX2_pivotRow 166 = .ok (.iload 12, 2) := by decide +kernel
theorem dX2_pivotRow_168 : decode cX2_pivotRow 168 = .ok (.ifCond .eq 62, 3) := by decide +kernel
theorem dX2_pivotRow_171 : decode cX2_pivotRow 171 = .ok (.aload_n 0, 1) := by decide +kernel
theorem dX2_pivotRow_172 : decode cX2_pivotRow 172 = .ok (.iload 14, 2) := by decide +kernel
theorem dX2_pivotRow_174 : decode cX2_pivotRow 174 = .ok (.invokevirtual 167, 3) := by decide +kernel
theorem dX2_pivotRow_177 : decode cX2_pivotRow 177 = .ok (.ifCond .eq 53, 3) := by decide +kernel
theorem dX2_pivotRow_180 : decode cX2_pivotRow 180 = .ok (.aload_n 0, 1) := by decide +kernel
theorem dX2_pivotRow_181 : decode cX2_pivotRow 181 = .ok (.iload 15, 2) := by decide +kernel
theorem dX2_pivotRow_183 : decode cX2_pivotRow 183 = .ok (.invokevirtual 167, 3) := by decide +kernel
theorem dX2_pivotRow_186 : decode cX2_pivotRow 186 = .ok (.ifCond .eq 44, 3) := by decide +kernel
theorem dX2_pivotRow_189 : decode cX2_pivotRow 189 = .ok (.aload_n 0, 1) := by decide +kernel
theorem dX2_pivotRow_190 : decode cX2_pivotRow 190 = .ok (.iload 14, 2) := by decide +kernel
theorem dX2_pivotRow_192 : decode cX2_pivotRow 192 = .ok (.invokevirtual 150, 3) := by decide +kernel
theorem dX2_pivotRow_195 : decode cX2_pivotRow 195 = .ok (.lload 8, 2) := by decide +kernel
theorem dX2_pivotRow_197 : decode cX2_pivotRow 197 = .ok (.lmul, 1) := by decide +kernel
theorem dX2_pivotRow_198 : decode cX2_pivotRow 198 = .ok (.lload 10, 2) := by decide +kernel
theorem dX2_pivotRow_200 : decode cX2_pivotRow 200 = .ok (.aload_n 0, 1) := by decide +kernel
theorem dX2_pivotRow_201 : decode cX2_pivotRow 201 = .ok (.iload 15, 2) := by decide +kernel
theorem dX2_pivotRow_203 : decode cX2_pivotRow 203 = .ok (.invokevirtual 150, 3) := by decide +kernel
theorem dX2_pivotRow_206 : decode cX2_pivotRow 206 = .ok (.lmul, 1) := by decide +kernel
theorem dX2_pivotRow_207 : decode cX2_pivotRow 207 = .ok (.lsub, 1) := by decide +kernel
theorem dX2_pivotRow_208 : decode cX2_pivotRow 208 = .ok (.lstore 16, 2) := by decide +kernel
theorem dX2_pivotRow_210 : decode cX2_pivotRow 210 = .ok (.aload_n 0, 1) := by decide +kernel
theorem dX2_pivotRow_211 : decode cX2_pivotRow 211 = .ok (.getfield 17, 3) := by decide +kernel
theorem dX2_pivotRow_214 : decode cX2_pivotRow 214 = .ok (.iload 14, 2) := by decide +kernel
theorem dX2_pivotRow_216 : decode cX2_pivotRow 216 = .ok (.iload_n 2, 1) := by decide +kernel
theorem dX2_pivotRow_217 : decode cX2_pivotRow 217 = .ok (.i2l, 1) := by decide +kernel
theorem dX2_pivotRow_218 : decode cX2_pivotRow 218 = .ok (.lload 16, 2) := by decide +kernel
theorem dX2_pivotRow_220 : decode cX2_pivotRow 220 = .ok (.lload 6, 2) := by decide +kernel
theorem dX2_pivotRow_222 : decode cX2_pivotRow 222 = .ok (.ldiv, 1) := by decide +kernel
theorem dX2_pivotRow_223 : decode cX2_pivotRow 223 = .ok (.lmul, 1) := by decide +kernel
theorem dX2_pivotRow_224 : decode cX2_pivotRow 224 = .ok (.invokestatic 81, 3) := by decide +kernel
theorem dX2_pivotRow_227 : decode cX2_pivotRow 227 = .ok (.goto 21, 3) := by decide +kernel
theorem dX2_pivotRow_230 : decode cX2_pivotRow 230 = .ok (.aload_n 0, 1) := by decide +kernel
theorem dX2_pivotRow_231 : decode cX2_pivotRow 231 = .ok (.iload 14, 2) := by decide +kernel
theorem dX2_pivotRow_233 : decode cX2_pivotRow 233 = .ok (.iload_n 3, 1) := by decide +kernel
theorem dX2_pivotRow_234 : decode cX2_pivotRow 234 = .ok (.iload 5, 2) := by decide +kernel
theorem dX2_pivotRow_236 : decode cX2_pivotRow 236 = .ok (.iadd, 1) := by decide +kernel
theorem dX2_pivotRow_237 : decode cX2_pivotRow 237 = .ok (.iload 15, 2) := by decide +kernel
theorem dX2_pivotRow_239 : decode cX2_pivotRow 239 = .ok (.iload_n 2, 1) := by decide +kernel
theorem dX2_pivotRow_240 : decode cX2_pivotRow 240 = .ok (.invokevirtual 192, 3) := by decide +kernel
theorem dX2_pivotRow_243 : decode cX2_pivotRow 243 = .ok (.ifCond .ne 5, 3) := by decide +kernel
theorem dX2_pivotRow_246 : decode cX2_pivotRow 246 = .ok (.iconst 0, 1) := by decide +kernel
theorem dX2_pivotRow_247 : decode cX2_pivotRow 247 = .ok (.ireturn, 1) := by decide +kernel
theorem dX2_pivotRow_248 : decode cX2_pivotRow 248 = .ok (.iinc 13 1, 3) := by decide +kernel
theorem dX2_pivotRow_251 : decode cX2_pivotRow 251 = .ok (.goto (-140), 3) := by decide +kernel
theorem dX2_pivotRow_254 : decode cX2_pivotRow 254 = .ok (.iconst 1, 1) := by decide +kernel
theorem dX2_pivotRow_255 : decode cX2_pivotRow 255 = .ok (.ireturn, 1) := by decide +kernel
theorem dX2_remainder_0 : decode cX2_remainder 0 = .ok (.aload_n 0, 1) := by decide +kernel
theorem dX2_remainder_1 : decode cX2_remainder 1 = .ok (.aload_n 0, 1) := by decide +kernel
theorem dX2_remainder_2 : decode cX2_remainder 2 = .ok (.getfield 35, 3) := by decide +kernel
theorem dX2_remainder_5 : decode cX2_remainder 5 = .ok (.invokevirtual 121, 3) := by decide +kernel
theorem dX2_remainder_8 : decode cX2_remainder 8 = .ok (.aload_n 1, 1) := by decide +kernel
theorem dX2_remainder_9 : decode cX2_remainder 9 = .ok (.aload_n 0, 1) := by decide +kernel
theorem dX2_remainder_10 : decode cX2_remainder 10 = .ok (.getfield 35, 3) := by decide +kernel
theorem dX2_remainder_13 : decode cX2_remainder 13 = .ok (.aload_n 0, 1) := by decide +kernel
theorem dX2_remainder_14 : decode cX2_remainder 14 = .ok (.getfield 50, 3) := by decide +kernel
theorem dX2_remainder_17 : decode cX2_remainder 17 = .ok (.aload_n 0, 1) := by decide +kernel
theorem dX2_remainder_18 : decode cX2_remainder 18 = .ok (.getfield 53, 3) := by decide +kernel
theorem dX2_remainder_21 : decode cX2_remainder 21 = .ok (.invokevirtual 141, 3) := by decide +kernel
theorem dX2_remainder_24 : decode cX2_remainder 24 = .ok (.return_, 1) := by decide +kernel
theorem dX2_small_0 : decode cX2_small 0 = .ok (.aload_n 0, 1) := by decide +kernel
theorem dX2_small_1 : decode cX2_small 1 = .ok (.getfield 13, 3) := by decide +kernel
theorem dX2_small_4 : decode cX2_small 4 = .ok (.iload_n 1, 1) := by decide +kernel
theorem dX2_small_5 : decode cX2_small 5 = .ok (.iaload, 1) := by decide +kernel
theorem dX2_small_6 : decode cX2_small 6 = .ok (.i2l, 1) := by decide +kernel
theorem dX2_small_7 : decode cX2_small 7 = .ok (.aload_n 0, 1) := by decide +kernel
theorem dX2_small_8 : decode cX2_small 8 = .ok (.getfield 13, 3) := by decide +kernel
theorem dX2_small_11 : decode cX2_small 11 = .ok (.iload_n 1, 1) := by decide +kernel
theorem dX2_small_12 : decode cX2_small 12 = .ok (.iconst 1, 1) := by decide +kernel
theorem dX2_small_13 : decode cX2_small 13 = .ok (.iadd, 1) := by decide +kernel
theorem dX2_small_14 : decode cX2_small 14 = .ok (.iaload, 1) := by decide +kernel
theorem dX2_small_15 : decode cX2_small 15 = .ok (.i2l, 1) := by decide +kernel
theorem dX2_small_16 : decode cX2_small 16 = .ok (.lmul, 1) := by decide +kernel
theorem dX2_small_17 : decode cX2_small 17 = .ok (.lreturn, 1) := by decide +kernel
theorem dX2_write_0 : decode cX2_write 0 = .ok (.iload_n 1, 1) := by decide +kernel
theorem dX2_write_1 : decode cX2_write 1 = .ok (.bipush (-2), 2) := by decide +kernel
theorem dX2_write_3 : decode cX2_write 3 = .ok (.if_icmp .ne 15, 3) := by decide +kernel
theorem dX2_write_6 : decode cX2_write 6 = .ok (.iload_n 2, 1) := by decide +kernel
theorem dX2_write_7 : decode cX2_write 7 = .ok (.ifCond .ne 7, 3) := by decide +kernel
theorem dX2_write_10 : decode cX2_write 10 = .ok (.iconst 1, 1) := by decide +kernel
theorem dX2_write_11 : decode cX2_write 11 = .ok (.goto 48, 3) := by decide +kernel
theorem dX2_write_14 : decode cX2_write 14 = .ok (.iconst 0, 1) := by decide +kernel
theorem dX2_write_15 : decode cX2_write 15 = .ok (.goto 44, 3) := by decide +kernel
theorem dX2_write_18 : decode cX2_write 18 = .ok (.iload_n 1, 1) := by decide +kernel
theorem dX2_write_19 : decode cX2_write 19 = .ok (.aload_n 0, 1) := by decide +kernel
theorem dX2_write_20 : decode cX2_write 20 = .ok (.getfield 70, 3) := by decide +kernel
theorem dX2_write_23 : decode cX2_write 23 = .ok (.ifCond .eq 7, 3) := by decide +kernel
theorem dX2_write_26 : decode cX2_write 26 = .ok (.iconst (-1), 1) := by decide +kernel
theorem dX2_write_27 : decode cX2_write 27 = .ok (.goto 4, 3) := by decide +kernel
theorem dX2_write_30 : decode cX2_write 30 = .ok (.iconst 0, 1) := by decide +kernel
theorem dX2_write_31 : decode cX2_write 31 = .ok (.if_icmp .lt 27, 3) := by decide +kernel
theorem dX2_write_34 : decode cX2_write 34 = .ok (.iload_n 1, 1) := by decide +kernel
theorem dX2_write_35 : decode cX2_write 35 = .ok (.aload_n 0, 1) := by decide +kernel
theorem dX2_write_36 : decode cX2_write 36 = .ok (.getfield 66, 3) := by decide +kernel
theorem dX2_write_39 : decode cX2_write 39 = .ok (.if_icmp .gt 19, 3) := by decide +kernel
theorem dX2_write_42 : decode cX2_write 42 = .ok (.iload_n 2, 1) := by decide +kernel
theorem dX2_write_43 : decode cX2_write 43 = .ok (.ifCond .lt 15, 3) := by decide +kernel
theorem dX2_write_46 : decode cX2_write 46 = .ok (.iload_n 2, 1) := by decide +kernel
theorem dX2_write_47 : decode cX2_write 47 = .ok (.aload_n 0, 1) := by decide +kernel
theorem dX2_write_48 : decode cX2_write 48 = .ok (.getfield 67, 3) := by decide +kernel
theorem dX2_write_51 : decode cX2_write 51 = .ok (.if_icmp .gt 7, 3) := by decide +kernel
theorem dX2_write_54 : decode cX2_write 54 = .ok (.iconst 1, 1) := by decide +kernel
theorem dX2_write_55 : decode cX2_write 55 = .ok (.goto 4, 3) := by decide +kernel
theorem dX2_write_58 : decode cX2_write 58 = .ok (.iconst 0, 1) := by decide +kernel
theorem dX2_write_59 : decode cX2_write 59 = .ok (.istore 4, 2) := by decide +kernel
theorem dX2_write_61 : decode cX2_write 61 = .ok (.iload 4, 2) := by decide +kernel
theorem dX2_write_63 : decode cX2_write 63 = .ok (.ifCond .ne 5, 3) := by decide +kernel
theorem dX2_write_66 : decode cX2_write 66 = .ok (.iconst 0, 1) := by decide +kernel
theorem dX2_write_67 : decode cX2_write 67 = .ok (.ireturn, 1) := by decide +kernel
theorem dX2_write_68 : decode cX2_write 68 = .ok (.aload_n 0, 1) := by decide +kernel
theorem dX2_write_69 : decode cX2_write 69 = .ok (.getfield 38, 3) := by decide +kernel
theorem dX2_write_72 : decode cX2_write 72 = .ok (.aload_n 0, 1) := by decide +kernel
theorem dX2_write_73 : decode cX2_write 73 = .ok (.getfield 13, 3) := by decide +kernel
theorem dX2_write_76 : decode cX2_write 76 = .ok (.iload_n 1, 1) := by decide +kernel
theorem dX2_write_77 : decode cX2_write 77 = .ok (.iload_n 2, 1) := by decide +kernel
theorem dX2_write_78 : decode cX2_write 78 = .ok (.invokestatic 77, 3) := by decide +kernel
theorem dX2_write_81 : decode cX2_write 81 = .ok (.invokevirtual 106, 3) := by decide +kernel
theorem dX2_write_84 : decode cX2_write 84 = .ok (.aload_n 3, 1) := by decide +kernel
theorem dX2_write_85 : decode cX2_write 85 = .ok (.invokevirtual 110, 3) := by decide +kernel
theorem dX2_write_88 : decode cX2_write 88 = .ok (.aload_n 3, 1) := by decide +kernel
theorem dX2_write_89 : decode cX2_write 89 = .ok (.aload_n 0, 1) := by decide +kernel
theorem dX2_write_90 : decode cX2_write 90 = .ok (.getfield 38, 3) := by decide +kernel
theorem dX2_write_93 : decode cX2_write 93 = .ok (.iconst 1, 1) := by decide +kernel
theorem dX2_write_94 : decode cX2_write 94 = .ok (.invokevirtual 115, 3) := by decide +kernel
theorem dX2_write_97 : decode cX2_write 97 = .ok (.iconst 1, 1) := by decide +kernel
theorem dX2_write_98 : decode cX2_write 98 = .ok (.ireturn, 1) := by decide +kernel
theorem w_45 : Cond.selects RX2 yX2_small yX2_small ∈ tb := sel_3 (q := (yX2_small, 20)) 13 (by decide +kernel)
theorem w_46 : Cond.selects RX2 yX2_isSmall yX2_isSmall ∈ tb := sel_3 (q := (yX2_isSmall, 20)) 14 (by decide +kernel)
theorem w_47 : Cond.selects RX2 yX2_pivotGreat yX2_pivotGreat ∈ tb := sel_3 (q := (yX2_pivotGreat, 20)) 15 (by decide +kernel)
theorem w_68 : Cond.selects RX2 yX2_leavesAhead yX2_leavesAhead ∈ tb := sel_5 (q := (yX2_leavesAhead, 20)) 4 (by decide +kernel)
theorem w_69 : Cond.selects RX2 yX2_compareProducts yX2_compareProducts ∈ tb := sel_5 (q := (yX2_compareProducts, 20)) 5 (by decide +kernel)
theorem w_70 : Cond.selects RX2 yX2_entersAhead yX2_entersAhead ∈ tb := sel_5 (q := (yX2_entersAhead, 20)) 6 (by decide +kernel)
theorem w_403 : Cond.fieldLinkNest RX2 200 (TX0 1).1 (TX0 1).2.1 (TX0 1).2.2.1 "OptimumHouse" ∈ nst := nsc_1 200 (by decide +kernel) rfl
theorem w_408 : Cond.fieldLinkNest RX2 145 (TX0 2).1 (TX0 2).2.1 (TX0 2).2.2.1 "OptimumHouse" ∈ nst := nsc_1 205 (by decide +kernel) rfl
theorem w_457 : Cond.fieldLink RX2 17 (TX2 1).1 (TX2 1).2.1 (TX2 1).2.2.1 ∈ tb := tbc_2 14 (by decide +kernel) rfl
theorem w_461 : Cond.fieldLink RX2 31 (TX2 5).1 (TX2 5).2.1 (TX2 5).2.2.1 ∈ tb := tbc_2 18 (by decide +kernel) rfl
theorem w_462 : Cond.fieldLink RX2 35 (TX2 6).1 (TX2 6).2.1 (TX2 6).2.2.1 ∈ tb := tbc_2 19 (by decide +kernel) rfl
theorem w_463 : Cond.fieldLink RX2 38 (TX2 7).1 (TX2 7).2.1 (TX2 7).2.2.1 ∈ tb := tbc_2 20 (by decide +kernel) rfl
theorem w_464 : Cond.fieldLink RX2 41 (TX2 8).1 (TX2 8).2.1 (TX2 8).2.2.1 ∈ tb := tbc_2 21 (by decide +kernel) rfl
theorem w_465 : Cond.fieldLink RX2 44 (TX2 9).1 (TX2 9).2.1 (TX2 9).2.2.1 ∈ tb := tbc_2 22 (by decide +kernel) rfl
theorem w_466 : Cond.fieldLink RX2 47 (TX2 10).1 (TX2 10).2.1 (TX2 10).2.2.1 ∈ tb := tbc_2 23 (by decide +kernel) rfl
theorem w_467 : Cond.fieldLink RX2 50 (TX2 11).1 (TX2 11).2.1 (TX2 11).2.2.1 ∈ tb := tbc_2 24 (by decide +kernel) rfl
theorem w_468 : Cond.fieldLink RX2 53 (TX2 12).1 (TX2 12).2.1 (TX2 12).2.2.1 ∈ tb := tbc_2 25 (by decide +kernel) rfl
theorem w_1118 : Cond.instanceMethod yX10_clear ∈ tb := tbc_4 195 (by decide +kernel) rfl
theorem w_1119 : Cond.selects RX10 yX10_clear yX10_clear ∈ tb := tbc_4 196 (by decide +kernel) rfl
theorem w_1120 : Cond.code yX10_clear cX10_clear 1 none ∈ tb := tbc_4 197 (by decide +kernel) rfl
theorem w_1243 : Cond.methodLink RX2 150 yX2_small ∈ tb := tbc_5 80 (by decide +kernel) rfl
theorem w_1245 : Cond.instanceMethod yX2_small ∈ tb := tbc_5 82 (by decide +kernel) rfl
theorem w_1246 : Cond.code yX2_small cX2_small 2 (some .long) ∈ tb := tbc_5 83 (by decide +kernel) rfl
theorem w_1247 : Cond.methodLink RX2 167 yX2_isSmall ∈ tb := tbc_5 84 (by decide +kernel) rfl
theorem w_1249 : Cond.instanceMethod yX2_isSmall ∈ tb := tbc_5 86 (by decide +kernel) rfl
theorem w_1250 : Cond.code yX2_isSmall cX2_isSmall 2 (some .boolean) ∈ tb := tbc_5 87 (by decide +kernel) rfl
theorem w_1251 : Cond.methodLink RX2 188 yX0_move ∈ tb := tbc_5 88 (by decide +kernel) rfl
theorem w_1252 : Cond.static yX0_move ∈ tb := tbc_5 89 (by decide +kernel) rfl
theorem w_1253 : Cond.code yX0_move cX0_move 7 none ∈ tb := tbc_5 90 (by decide +kernel) rfl
theorem w_1254 : Cond.methodLink RX2 192 yX2_pivotGreat ∈ tb := tbc_5 91 (by decide +kernel) rfl
theorem w_1256 : Cond.instanceMethod yX2_pivotGreat ∈ tb := tbc_5 93 (by decide +kernel) rfl
theorem w_1257 : Cond.code yX2_pivotGreat cX2_pivotGreat 5 (some .boolean) ∈ tb := tbc_5 94 (by decide +kernel) rfl
theorem w_1258 : Cond.methodLink RX2 176 yX0_product ∈ tb := tbc_5 95 (by decide +kernel) rfl
theorem w_1279 : Cond.methodLink RX2 196 yX0_add ∈ tb := tbc_5 116 (by decide +kernel) rfl
theorem w_1305 : Cond.methodLink RX2 141 yX0_divide ∈ tb := tbc_5 142 (by decide +kernel) rfl
theorem w_1330 : Cond.methodLink RX2 154 yX0_save ∈ tb := tbc_5 167 (by decide +kernel) rfl
theorem w_1368 : Cond.instanceMethod yX0_compareWith ∈ tb := tbc_5 205 (by decide +kernel) rfl
theorem w_1369 : Cond.selects RX0 yX0_compareWith yX0_compareWith ∈ tb := tbc_5 206 (by decide +kernel) rfl
theorem w_1370 : Cond.code yX0_compareWith cX0_compareWith 2 (some .int) ∈ tb := tbc_5 207 (by decide +kernel) rfl
theorem w_1375 : Cond.methodLink RX2 137 yX3_isWhole ∈ tb := tbc_5 212 (by decide +kernel) rfl
theorem w_1376 : Cond.instanceMethod yX3_isWhole ∈ tb := tbc_5 213 (by decide +kernel) rfl
theorem w_1377 : Cond.selects RX3 yX3_isWhole yX3_isWhole ∈ tb := tbc_5 214 (by decide +kernel) rfl
theorem w_1378 : Cond.code yX3_isWhole cX3_isWhole 2 (some .boolean) ∈ tb := tbc_5 215 (by decide +kernel) rfl
theorem w_1436 : Cond.instanceMethod yX10_number ∈ tb := tbc_6 33 (by decide +kernel) rfl
theorem w_1437 : Cond.selects RX10 yX10_number yX10_number ∈ tb := tbc_6 34 (by decide +kernel) rfl
theorem w_1438 : Cond.code yX10_number cX10_number 7 none ∈ tb := tbc_6 35 (by decide +kernel) rfl
theorem w_1585 : Cond.methodLink RX2 157 yX2_leavesAhead ∈ tb := tbc_6 182 (by decide +kernel) rfl
theorem w_1587 : Cond.instanceMethod yX2_leavesAhead ∈ tb := tbc_6 184 (by decide +kernel) rfl
theorem w_1588 : Cond.code yX2_leavesAhead cX2_leavesAhead 3 (some .boolean) ∈ tb := tbc_6 185 (by decide +kernel) rfl
theorem w_1589 : Cond.methodLink RX2 160 yX2_compareProducts ∈ tb := tbc_6 186 (by decide +kernel) rfl
theorem w_1591 : Cond.instanceMethod yX2_compareProducts ∈ tb := tbc_6 188 (by decide +kernel) rfl
theorem w_1592 : Cond.code yX2_compareProducts cX2_compareProducts 5 (some .int) ∈ tb := tbc_6 189 (by decide +kernel) rfl
theorem w_1593 : Cond.methodLink RX2 170 yJ13_compare_74951 ∈ tb := tbc_6 190 (by decide +kernel) rfl
theorem w_1594 : Cond.static yJ13_compare_74951 ∈ tb := tbc_6 191 (by decide +kernel) rfl
theorem w_1595 : Cond.code yJ13_compare_74951 cJ13_compare_74951 4 (some .int) ∈ tb := tbc_6 192 (by decide +kernel) rfl
theorem w_1596 : Cond.methodLink RX2 180 yX0_compareWith ∈ tb := tbc_6 193 (by decide +kernel) rfl
theorem w_1601 : Cond.methodLink RX2 164 yX2_entersAhead ∈ tb := tbc_6 198 (by decide +kernel) rfl
theorem w_1603 : Cond.instanceMethod yX2_entersAhead ∈ tb := tbc_6 200 (by decide +kernel) rfl
theorem w_1604 : Cond.code yX2_entersAhead cX2_entersAhead 3 (some .boolean) ∈ tb := tbc_6 201 (by decide +kernel) rfl
theorem w_1715 : Cond.methodLink RX2 110 yX10_clear ∈ tb := tbc_7 72 (by decide +kernel) rfl
theorem w_1716 : Cond.methodLink RX2 115 yX10_number ∈ tb := tbc_7 73 (by decide +kernel) rfl
section RW32
variable {p : Program} {l : Launch} {e : Env} {R : Room} {s : State} {m : MethodId} {args : Array Value} {below : List Frame} {meth : Method} {c : Code} {H : Heap} {locs : List Loc} {cells slots : Nat} {Q : State → Prop}
variable {cc : ByteArray} {pc nL : Nat} {ls : Array Slot} {rest st0 : List Value} {G : sG} {n : Nat} {S : sS}
theorem g_X2_35 (Cx : sC G p m c cc nL s args RX2) (hW : sW G n S H) {k : Nat} (hk : k < n) (ht : tau k = .inl 2) {v : Value} (hv : S.2.2.2 k 6 = v) (hdg : decode cc pc = .ok (.getfield 35, 3)) (kk : W p l e R s m args below meth c H locs cells slots Q (F0 m (pc + 3) ls (v :: rest))) : W p l e R s m args below meth c H locs cells slots Q (F0 m pc ls (.ref (G.2.2.1 + k) :: rest)) :=
  sGet Cx inX2 rfl 6 (by decide) w_462 hW hk ht hv hdg kk
theorem g_X2_38 (Cx : sC G p m c cc nL s args RX2) (hW : sW G n S H) {k : Nat} (hk : k < n) (ht : tau k = .inl 2) {v : Value} (hv : S.2.2.2 k 7 = v) (hdg : decode cc pc = .ok (.getfield 38, 3)) (kk : W p l e R s m args below meth c H locs cells slots Q (F0 m (pc + 3) ls (v :: rest))) : W p l e R s m args below meth c H locs cells slots Q (F0 m pc ls (.ref (G.2.2.1 + k) :: rest)) :=
  sGet Cx inX2 rfl 7 (by decide) w_463 hW hk ht hv hdg kk
theorem g_X2_53 (Cx : sC G p m c cc nL s args RX2) (hW : sW G n S H) {k : Nat} (hk : k < n) (ht : tau k = .inl 2) {v : Value} (hv : S.2.2.2 k 12 = v) (hdg : decode cc pc = .ok (.getfield 53, 3)) (kk : W p l e R s m args below meth c H locs cells slots Q (F0 m (pc + 3) ls (v :: rest))) : W p l e R s m args below meth c H locs cells slots Q (F0 m pc ls (.ref (G.2.2.1 + k) :: rest)) :=
  sGet Cx inX2 rfl 12 (by decide) w_468 hW hk ht hv hdg kk
theorem c_X2_141 (Cx : sC G p m c cc nL s args RX2) {rm : Room} {mc ms : Nat} (h1 : rm.cells = mc) (h2 : rm.slots = ms) (h3 : rm.frames + 1 ≤ R.frames ∧ 8 + (5 + 11) + rm.locals ≤ R.locals) : CallW R s args RX2 RX0 141 yX0_divide cX0_divide 5 none (.code yX0_divide cX0_divide 5 none :: tb) rm mc ms 3 :=
  sCw Cx 3 w_1305 w_1306 w_1307 w_212 w_1308 (by decide +kernel) h1 h2 h3
theorem g_X2_50 (Cx : sC G p m c cc nL s args RX2) (hW : sW G n S H) {k : Nat} (hk : k < n) (ht : tau k = .inl 2) {v : Value} (hv : S.2.2.2 k 11 = v) (hdg : decode cc pc = .ok (.getfield 50, 3)) (kk : W p l e R s m args below meth c H locs cells slots Q (F0 m (pc + 3) ls (v :: rest))) : W p l e R s m args below meth c H locs cells slots Q (F0 m pc ls (.ref (G.2.2.1 + k) :: rest)) :=
  sGet Cx inX2 rfl 11 (by decide) w_467 hW hk ht hv hdg kk
theorem c_X2_137 (Cx : sC G p m c cc nL s args RX2) {rm : Room} {mc ms : Nat} (h1 : rm.cells = mc) (h2 : rm.slots = ms) (h3 : rm.frames + 1 ≤ R.frames ∧ 8 + (2 + 11) + rm.locals ≤ R.locals) : CallW R s args RX2 RX3 137 yX3_isWhole cX3_isWhole 2 (some .boolean) (.code yX3_isWhole cX3_isWhole 2 (some .boolean) :: tb) rm mc ms 1 :=
  sCw Cx 1 w_1375 w_1376 w_1377 w_207 w_1378 (by decide +kernel) h1 h2 h3
theorem g_X2_145 (Cx : sC G p m c cc nL s args RX2) (hW : sW G n S H) {k : Nat} (hk : k < n) (ht : tau k = .inl 0) {v : Int} (hv : S.1 k 2 = v) (hdg : decode cc pc = .ok (.getfield 145, 3)) (kk : W p l e R s m args below meth c H locs cells slots Q (F0 m (pc + 3) ls (.int (iv v) :: rest))) : W p l e R s m args below meth c H locs cells slots Q (F0 m pc ls (.ref (G.2.2.1 + k) :: rest)) :=
  sGetN Cx inX0 rfl 2 (by decide) w_408 hW hk ht (congrArg (fun z => Value.int (iv z)) hv) hdg kk
theorem c_X2_110 (Cx : sC G p m c cc nL s args RX2) {rm : Room} {mc ms : Nat} (h1 : rm.cells = mc) (h2 : rm.slots = ms) (h3 : rm.frames + 1 ≤ R.frames ∧ 8 + (1 + 11) + rm.locals ≤ R.locals) : CallW R s args RX2 RX10 110 yX10_clear cX10_clear 1 none (.code yX10_clear cX10_clear 1 none :: tb) rm mc ms 0 :=
  sCw Cx 0 w_1715 w_1118 w_1119 w_205 w_1120 (by decide +kernel) h1 h2 h3
theorem c_X2_115 (Cx : sC G p m c cc nL s args RX2) {rm : Room} {mc ms : Nat} (h1 : rm.cells = mc) (h2 : rm.slots = ms) (h3 : rm.frames + 1 ≤ R.frames ∧ 8 + (7 + 11) + rm.locals ≤ R.locals) : CallW R s args RX2 RX10 115 yX10_number cX10_number 7 none (.code yX10_number cX10_number 7 none :: tb) rm mc ms 2 :=
  sCw Cx 2 w_1716 w_1436 w_1437 w_205 w_1438 (by decide +kernel) h1 h2 h3
theorem c_X2_154 (Cx : sC G p m c cc nL s args RX2) {rm : Room} {mc ms : Nat} (h1 : rm.cells = mc) (h2 : rm.slots = ms) (h3 : rm.frames + 1 ≤ R.frames ∧ 8 + (5 + 11) + rm.locals ≤ R.locals) : CallW R s args RX2 RX0 154 yX0_save cX0_save 5 none (.code yX0_save cX0_save 5 none :: tb) rm mc ms 2 :=
  sCw Cx 2 w_1330 w_1331 w_1332 w_212 w_1333 (by decide +kernel) h1 h2 h3
theorem c_X2_167 (Cx : sC G p m c cc nL s args RX2) {rm : Room} {mc ms : Nat} (h1 : rm.cells = mc) (h2 : rm.slots = ms) (h3 : rm.frames + 1 ≤ R.frames ∧ 8 + (2 + 11) + rm.locals ≤ R.locals) : CallW R s args RX2 RX2 167 yX2_isSmall cX2_isSmall 2 (some .boolean) (.code yX2_isSmall cX2_isSmall 2 (some .boolean) :: tb) rm mc ms 1 :=
  sCw Cx 1 w_1247 w_1249 w_46 w_213 w_1250 (by decide +kernel) h1 h2 h3
theorem g_X2_41 (Cx : sC G p m c cc nL s args RX2) (hW : sW G n S H) {k : Nat} (hk : k < n) (ht : tau k = .inl 2) {v : Value} (hv : S.2.2.2 k 8 = v) (hdg : decode cc pc = .ok (.getfield 41, 3)) (kk : W p l e R s m args below meth c H locs cells slots Q (F0 m (pc + 3) ls (v :: rest))) : W p l e R s m args below meth c H locs cells slots Q (F0 m pc ls (.ref (G.2.2.1 + k) :: rest)) :=
  sGet Cx inX2 rfl 8 (by decide) w_464 hW hk ht hv hdg kk
theorem g_X2_44 (Cx : sC G p m c cc nL s args RX2) (hW : sW G n S H) {k : Nat} (hk : k < n) (ht : tau k = .inl 2) {v : Value} (hv : S.2.2.2 k 9 = v) (hdg : decode cc pc = .ok (.getfield 44, 3)) (kk : W p l e R s m args below meth c H locs cells slots Q (F0 m (pc + 3) ls (v :: rest))) : W p l e R s m args below meth c H locs cells slots Q (F0 m pc ls (.ref (G.2.2.1 + k) :: rest)) :=
  sGet Cx inX2 rfl 9 (by decide) w_465 hW hk ht hv hdg kk
theorem c_X2_176 (Cx : sC G p m c cc nL s args RX2) {rm : Room} {mc ms : Nat} (h1 : rm.cells = mc) (h2 : rm.slots = ms) (h3 : rm.frames + 1 ≤ R.frames ∧ 8 + (12 + 11) + rm.locals ≤ R.locals) : CallW R s args RX2 RX0 176 yX0_product cX0_product 12 none (.code yX0_product cX0_product 12 none :: tb) rm mc ms 2 :=
  sCw Cx 2 w_1258 w_1259 w_1260 w_212 w_1261 (by decide +kernel) h1 h2 h3
theorem g_X2_47 (Cx : sC G p m c cc nL s args RX2) (hW : sW G n S H) {k : Nat} (hk : k < n) (ht : tau k = .inl 2) {v : Value} (hv : S.2.2.2 k 10 = v) (hdg : decode cc pc = .ok (.getfield 47, 3)) (kk : W p l e R s m args below meth c H locs cells slots Q (F0 m (pc + 3) ls (v :: rest))) : W p l e R s m args below meth c H locs cells slots Q (F0 m pc ls (.ref (G.2.2.1 + k) :: rest)) :=
  sGet Cx inX2 rfl 10 (by decide) w_466 hW hk ht hv hdg kk
theorem c_X2_180 (Cx : sC G p m c cc nL s args RX2) {rm : Room} {mc ms : Nat} (h1 : rm.cells = mc) (h2 : rm.slots = ms) (h3 : rm.frames + 1 ≤ R.frames ∧ 8 + (2 + 11) + rm.locals ≤ R.locals) : CallW R s args RX2 RX0 180 yX0_compareWith cX0_compareWith 2 (some .int) (.code yX0_compareWith cX0_compareWith 2 (some .int) :: tb) rm mc ms 1 :=
  sCw Cx 1 w_1596 w_1368 w_1369 w_212 w_1370 (by decide +kernel) h1 h2 h3
theorem c_X2_150 (Cx : sC G p m c cc nL s args RX2) {rm : Room} {mc ms : Nat} (h1 : rm.cells = mc) (h2 : rm.slots = ms) (h3 : rm.frames + 1 ≤ R.frames ∧ 8 + (2 + 11) + rm.locals ≤ R.locals) : CallW R s args RX2 RX2 150 yX2_small cX2_small 2 (some .long) (.code yX2_small cX2_small 2 (some .long) :: tb) rm mc ms 1 :=
  sCw Cx 1 w_1243 w_1245 w_45 w_213 w_1246 (by decide +kernel) h1 h2 h3
theorem c_X2_170 (Cx : sC G p m c cc nL s args RX2) {rm : Room} {mc ms : Nat} (h1 : rm.cells = mc) (h2 : rm.slots = ms) (h3 : rm.frames + 1 ≤ R.frames ∧ 8 + (4 + 11) + rm.locals ≤ R.locals) : CallB R s args RX2 170 yJ13_compare_74951 cJ13_compare_74951 4 (some .int) (.code yJ13_compare_74951 cJ13_compare_74951 4 (some .int) :: tb) rm mc ms 2 ∧ (Cond.static yJ13_compare_74951).before args s = true :=
  sCS Cx 2 w_1593 w_1594 w_226 w_1595 (by decide +kernel) h1 h2 h3
theorem c_X2_160 (Cx : sC G p m c cc nL s args RX2) {rm : Room} {mc ms : Nat} (h1 : rm.cells = mc) (h2 : rm.slots = ms) (h3 : rm.frames + 1 ≤ R.frames ∧ 8 + (5 + 11) + rm.locals ≤ R.locals) : CallW R s args RX2 RX2 160 yX2_compareProducts cX2_compareProducts 5 (some .int) (.code yX2_compareProducts cX2_compareProducts 5 (some .int) :: tb) rm mc ms 4 :=
  sCw Cx 4 w_1589 w_1591 w_69 w_213 w_1592 (by decide +kernel) h1 h2 h3
theorem p_X2_147 (Cx : sC G p m c cc nL s args RX2) (hW : sW G n S H) (hL : sL G locs) {k : Nat} (hk : k < n) (ht : tau k = .inl 2) {v : Int} (hdg : decode cc pc = .ok (.putfield 147, 3)) (kk : ∀ (H1 : Heap) (locs1 : List Loc), sW G n (uF S k 17 v) H1 → sL G locs1 → W p l e R s m args below meth c H1 locs1 cells slots Q (F0 m (pc + 3) ls rest)) : W p l e R s m args below meth c H locs cells slots Q (F0 m pc ls (.int (iv v) :: .ref (G.2.2.1 + k) :: rest)) :=
  sPut Cx inX2 tyX2 tyX2_ok nmX2 rfl 17 (by decide) w_473 rfl hW hL hk ht rfl rfl (fun _ h => uF_same h) (fun _ h => uF_off h) (congrArg (fun z => Value.int (iv z)) uF_on) hdg kk
theorem p_X2_131 (Cx : sC G p m c cc nL s args RX2) (hW : sW G n S H) (hL : sL G locs) {k : Nat} (hk : k < n) (ht : tau k = .inl 2) {v : Int} (hdg : decode cc pc = .ok (.putfield 131, 3)) (kk : ∀ (H1 : Heap) (locs1 : List Loc), sW G n (uF S k 18 v) H1 → sL G locs1 → W p l e R s m args below meth c H1 locs1 cells slots Q (F0 m (pc + 3) ls rest)) : W p l e R s m args below meth c H locs cells slots Q (F0 m pc ls (.int (iv v) :: .ref (G.2.2.1 + k) :: rest)) :=
  sPut Cx inX2 tyX2 tyX2_ok nmX2 rfl 18 (by decide) w_474 rfl hW hL hk ht rfl rfl (fun _ h => uF_same h) (fun _ h => uF_off h) (congrArg (fun z => Value.int (iv z)) uF_on) hdg kk
theorem c_X2_157 (Cx : sC G p m c cc nL s args RX2) {rm : Room} {mc ms : Nat} (h1 : rm.cells = mc) (h2 : rm.slots = ms) (h3 : rm.frames + 1 ≤ R.frames ∧ 8 + (3 + 11) + rm.locals ≤ R.locals) : CallW R s args RX2 RX2 157 yX2_leavesAhead cX2_leavesAhead 3 (some .boolean) (.code yX2_leavesAhead cX2_leavesAhead 3 (some .boolean) :: tb) rm mc ms 1 :=
  sCw Cx 1 w_1585 w_1587 w_68 w_213 w_1588 (by decide +kernel) h1 h2 h3
theorem c_X2_164 (Cx : sC G p m c cc nL s args RX2) {rm : Room} {mc ms : Nat} (h1 : rm.cells = mc) (h2 : rm.slots = ms) (h3 : rm.frames + 1 ≤ R.frames ∧ 8 + (3 + 11) + rm.locals ≤ R.locals) : CallW R s args RX2 RX2 164 yX2_entersAhead cX2_entersAhead 3 (some .boolean) (.code yX2_entersAhead cX2_entersAhead 3 (some .boolean) :: tb) rm mc ms 1 :=
  sCw Cx 1 w_1601 w_1603 w_70 w_213 w_1604 (by decide +kernel) h1 h2 h3
theorem g_X2_31 (Cx : sC G p m c cc nL s args RX2) (hW : sW G n S H) {k : Nat} (hk : k < n) (ht : tau k = .inl 2) {v : Value} (hv : S.2.2.2 k 5 = v) (hdg : decode cc pc = .ok (.getfield 31, 3)) (kk : W p l e R s m args below meth c H locs cells slots Q (F0 m (pc + 3) ls (v :: rest))) : W p l e R s m args below meth c H locs cells slots Q (F0 m pc ls (.ref (G.2.2.1 + k) :: rest)) :=
  sGet Cx inX2 rfl 5 (by decide) w_461 hW hk ht hv hdg kk
theorem c_X2_196 (Cx : sC G p m c cc nL s args RX2) {rm : Room} {mc ms : Nat} (h1 : rm.cells = mc) (h2 : rm.slots = ms) (h3 : rm.frames + 1 ≤ R.frames ∧ 8 + (5 + 11) + rm.locals ≤ R.locals) : CallW R s args RX2 RX0 196 yX0_add cX0_add 5 none (.code yX0_add cX0_add 5 none :: tb) rm mc ms 2 :=
  sCw Cx 2 w_1279 w_1280 w_1281 w_212 w_1282 (by decide +kernel) h1 h2 h3
theorem g_X2_200 (Cx : sC G p m c cc nL s args RX2) (hW : sW G n S H) {k : Nat} (hk : k < n) (ht : tau k = .inl 0) {v : Int} (hv : S.1 k 1 = v) (hdg : decode cc pc = .ok (.getfield 200, 3)) (kk : W p l e R s m args below meth c H locs cells slots Q (F0 m (pc + 3) ls (.int (iv v) :: rest))) : W p l e R s m args below meth c H locs cells slots Q (F0 m pc ls (.ref (G.2.2.1 + k) :: rest)) :=
  sGetN Cx inX0 rfl 1 (by decide) w_403 hW hk ht (congrArg (fun z => Value.int (iv z)) hv) hdg kk
theorem p_X2_145 (Cx : sC G p m c cc nL s args RX2) (hW : sW G n S H) (hL : sL G locs) {k : Nat} (hk : k < n) (ht : tau k = .inl 0) {v : Int} (hdg : decode cc pc = .ok (.putfield 145, 3)) (kk : ∀ (H1 : Heap) (locs1 : List Loc), sW G n (uF S k 2 v) H1 → sL G locs1 → W p l e R s m args below meth c H1 locs1 cells slots Q (F0 m (pc + 3) ls rest)) : W p l e R s m args below meth c H locs cells slots Q (F0 m pc ls (.int (iv v) :: .ref (G.2.2.1 + k) :: rest)) :=
  sPutN Cx inX0 tyX0 tyX0_ok nmX0 rfl 2 (by decide) w_408 rfl hW hL hk ht rfl rfl (fun _ h => uF_same h) (fun _ h => uF_off h) (congrArg (fun z => Value.int (iv z)) uF_on) hdg kk
theorem g_X2_17 (Cx : sC G p m c cc nL s args RX2) (hW : sW G n S H) {k : Nat} (hk : k < n) (ht : tau k = .inl 2) {v : Value} (hv : S.2.2.2 k 1 = v) (hdg : decode cc pc = .ok (.getfield 17, 3)) (kk : W p l e R s m args below meth c H locs cells slots Q (F0 m (pc + 3) ls (v :: rest))) : W p l e R s m args below meth c H locs cells slots Q (F0 m pc ls (.ref (G.2.2.1 + k) :: rest)) :=
  sGet Cx inX2 rfl 1 (by decide) w_457 hW hk ht hv hdg kk
theorem c_X2_192 (Cx : sC G p m c cc nL s args RX2) {rm : Room} {mc ms : Nat} (h1 : rm.cells = mc) (h2 : rm.slots = ms) (h3 : rm.frames + 1 ≤ R.frames ∧ 8 + (5 + 11) + rm.locals ≤ R.locals) : CallW R s args RX2 RX2 192 yX2_pivotGreat cX2_pivotGreat 5 (some .boolean) (.code yX2_pivotGreat cX2_pivotGreat 5 (some .boolean) :: tb) rm mc ms 4 :=
  sCw Cx 4 w_1254 w_1256 w_47 w_213 w_1257 (by decide +kernel) h1 h2 h3
theorem c_X2_188 (Cx : sC G p m c cc nL s args RX2) {rm : Room} {mc ms : Nat} (h1 : rm.cells = mc) (h2 : rm.slots = ms) (h3 : rm.frames + 1 ≤ R.frames ∧ 8 + (7 + 11) + rm.locals ≤ R.locals) : CallB R s args RX2 188 yX0_move cX0_move 7 none (.code yX0_move cX0_move 7 none :: tb) rm mc ms 4 ∧ (Cond.static yX0_move).before args s = true :=
  sCS Cx 4 w_1251 w_1252 w_212 w_1253 (by decide +kernel) h1 h2 h3
end RW32
