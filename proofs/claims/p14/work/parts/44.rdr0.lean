theorem dX4_advance_0 : decode cX4_advance 0 = .ok (.aload_n 0, 1) := by decide +kernel
theorem dX4_advance_1 : decode cX4_advance 1 = .ok (.dup, 1) := by decide +kernel
theorem dX4_advance_2 : decode cX4_advance 2 = .ok (.getfield 40, 3) := by decide +kernel
theorem dX4_advance_5 : decode cX4_advance 5 = .ok (.iconst 1, 1) := by decide +kernel
theorem dX4_advance_6 : decode cX4_advance 6 = .ok (.iadd, 1) := by decide +kernel
theorem dX4_advance_7 : decode cX4_advance 7 = .ok (.putfield 40, 3) := by decide +kernel
theorem dX4_advance_10 : decode cX4_advance 10 = .ok (.return_, 1) := by decide +kernel
theorem dX4_behindDigits_0 : decode cX4_behindDigits 0 = .ok (.iload_n 1, 1) := by decide +kernel
theorem dX4_behindDigits_1 : decode cX4_behindDigits 1 = .ok (.istore_n 3, 1) := by decide +kernel
theorem dX4_behindDigits_2 : decode cX4_behindDigits 2 = .ok (.iload_n 3, 1) := by decide +kernel
theorem dX4_behindDigits_3 : decode cX4_behindDigits 3 = .ok (.iload_n 2, 1) := by decide +kernel
theorem dX4_behindDigits_4 : decode cX4_behindDigits 4 = .ok (.if_icmp .ge 23, 3) := by decide +kernel
theorem dX4_behindDigits_7 : decode cX4_behindDigits 7 = .ok (.aload_n 0, 1) := by decide +kernel
theorem dX4_behindDigits_8 : decode cX4_behindDigits 8 = .ok (.getfield 14, 3) := by decide +kernel
theorem dX4_behindDigits_11 : decode cX4_behindDigits 11 = .ok (.iload_n 3, 1) := by decide +kernel
theorem dX4_behindDigits_12 : decode cX4_behindDigits 12 = .ok (.invokevirtual 43, 3) := by decide +kernel
theorem dX4_behindDigits_15 : decode cX4_behindDigits 15 = .ok (.invokestatic 56, 3) := by decide +kernel
theorem dX4_behindDigits_18 : decode cX4_behindDigits 18 = .ok (.ifCond .eq 9, 3) := by decide +kernel
theorem dX4_behindDigits_21 : decode cX4_behindDigits 21 = .ok (.iinc 3 1, 3) := by decide +kernel
theorem dX4_behindDigits_24 : decode cX4_behindDigits 24 = .ok (.goto (-22), 3) := by decide +kernel
theorem dX4_behindDigits_27 : decode cX4_behindDigits 27 = .ok (.iload_n 3, 1) := by decide +kernel
theorem dX4_behindDigits_28 : decode cX4_behindDigits 28 = .ok (.ireturn, 1) := by decide +kernel
theorem dX4_hasMoreThanNoughts_0 : decode cX4_hasMoreThanNoughts 0 = .ok (.iload_n 1, 1) := by decide +kernel
theorem dX4_hasMoreThanNoughts_1 : decode cX4_hasMoreThanNoughts 1 = .ok (.istore_n 3, 1) := by decide +kernel
theorem dX4_hasMoreThanNoughts_2 : decode cX4_hasMoreThanNoughts 2 = .ok (.iload_n 3, 1) := by decide +kernel
theorem dX4_hasMoreThanNoughts_3 : decode cX4_hasMoreThanNoughts 3 = .ok (.iload_n 2, 1) := by decide +kernel
theorem dX4_hasMoreThanNoughts_4 : decode cX4_hasMoreThanNoughts 4 = .ok (.if_icmp .ge 24, 3) := by decide +kernel
theorem dX4_hasMoreThanNoughts_7 : decode cX4_hasMoreThanNoughts 7 = .ok (.aload_n 0, 1) := by decide +kernel
theorem dX4_hasMoreThanNoughts_8 : decode cX4_hasMoreThanNoughts 8 = .ok (.getfield 14, 3) := by decide +kernel
theorem dX4_hasMoreThanNoughts_11 : decode cX4_hasMoreThanNoughts 11 = .ok (.iload_n 3, 1) := by decide +kernel
theorem dX4_hasMoreThanNoughts_12 : decode cX4_hasMoreThanNoughts 12 = .ok (.invokevirtual 43, 3) := by decide +kernel
theorem dX4_hasMoreThanNoughts_15 : decode cX4_hasMoreThanNoughts 15 = .ok (.bipush 48, 2) := by decide +kernel
theorem dX4_hasMoreThanNoughts_17 : decode cX4_hasMoreThanNoughts 17 = .ok (.if_icmp .eq 5, 3) := by decide +kernel
theorem dX4_hasMoreThanNoughts_20 : decode cX4_hasMoreThanNoughts 20 = .ok (.iconst 1, 1) := by decide +kernel
theorem dX4_hasMoreThanNoughts_21 : decode cX4_hasMoreThanNoughts 21 = .ok (.ireturn, 1) := by decide +kernel
theorem dX4_hasMoreThanNoughts_22 : decode cX4_hasMoreThanNoughts 22 = .ok (.iinc 3 1, 3) := by decide +kernel
theorem dX4_hasMoreThanNoughts_25 : decode cX4_hasMoreThanNoughts 25 = .ok (.goto (-23), 3) := by decide +kernel
theorem dX4_hasMoreThanNoughts_28 : decode cX4_hasMoreThanNoughts 28 = .ok (.iconst 0, 1) := by decide +kernel
theorem dX4_hasMoreThanNoughts_29 : decode cX4_hasMoreThanNoughts 29 = .ok (.ireturn, 1) := by decide +kernel
theorem dX4_isProof_0 : decode cX4_isProof 0 = .ok (.aload_n 0, 1) := by decide +kernel
theorem dX4_isProof_1 : decode cX4_isProof 1 = .ok (.invokevirtual 119, 3) := by decide +kernel
theorem dX4_isProof_4 : decode cX4_isProof 4 = .ok (.istore_n 2, 1) := by decide +kernel
theorem dX4_isProof_5 : decode cX4_isProof 5 = .ok (.iload_n 2, 1) := by decide +kernel
theorem dX4_isProof_6 : decode cX4_isProof 6 = .ok (.bipush 7, 2) := by decide +kernel
theorem dX4_isProof_8 : decode cX4_isProof 8 = .ok (.if_icmp .eq 17, 3) := by decide +kernel
theorem dX4_isProof_11 : decode cX4_isProof 11 = .ok (.iload_n 2, 1) := by decide +kernel
theorem dX4_isProof_12 : decode cX4_isProof 12 = .ok (.bipush 8, 2) := by decide +kernel
theorem dX4_isProof_14 : decode cX4_isProof 14 = .ok (.if_icmp .eq 11, 3) := by decide +kernel
theorem dX4_isProof_17 : decode cX4_isProof 17 = .ok (.iload_n 2, 1) := by decide +kernel
theorem dX4_isProof_18 : decode cX4_isProof 18 = .ok (.bipush 9, 2) := by decide +kernel
theorem dX4_isProof_20 : decode cX4_isProof 20 = .ok (.if_icmp .eq 5, 3) := by decide +kernel
theorem dX4_isProof_23 : decode cX4_isProof 23 = .ok (.iconst 0, 1) := by decide +kernel
theorem dX4_isProof_24 : decode cX4_isProof 24 = .ok (.ireturn, 1) := by decide +kernel
theorem dX4_isProof_25 : decode cX4_isProof 25 = .ok (.aload_n 0, 1) := by decide +kernel
theorem dX4_isProof_26 : decode cX4_isProof 26 = .ok (.dup, 1) := by decide +kernel
theorem dX4_isProof_27 : decode cX4_isProof 27 = .ok (.getfield 40, 3) := by decide +kernel
theorem dX4_isProof_30 : decode cX4_isProof 30 = .ok (.iconst 1, 1) := by decide +kernel
theorem dX4_isProof_31 : decode cX4_isProof 31 = .ok (.iadd, 1) := by decide +kernel
theorem dX4_isProof_32 : decode cX4_isProof 32 = .ok (.putfield 40, 3) := by decide +kernel
theorem dX4_isProof_35 : decode cX4_isProof 35 = .ok (.iload_n 2, 1) := by decide +kernel
theorem dX4_isProof_36 : decode cX4_isProof 36 = .ok (.bipush 7, 2) := by decide +kernel
theorem dX4_isProof_38 : decode cX4_isProof 38 = .ok (.if_icmp .ne 28, 3) := by decide +kernel
theorem dX4_isProof_41 : decode cX4_isProof 41 = .ok (.aload_n 0, 1) := by decide +kernel
theorem dX4_isProof_42 : decode cX4_isProof 42 = .ok (.iconst 2, 1) := by decide +kernel
theorem dX4_isProof_43 : decode cX4_isProof 43 = .ok (.invokevirtual 122, 3) := by decide +kernel
theorem dX4_isProof_46 : decode cX4_isProof 46 = .ok (.ifCond .eq 18, 3) := by decide +kernel
theorem dX4_isProof_49 : decode cX4_isProof 49 = .ok (.aload_n 0, 1) := by decide +kernel
theorem dX4_isProof_50 : decode cX4_isProof 50 = .ok (.iconst 3, 1) := by decide +kernel
theorem dX4_isProof_51 : decode cX4_isProof 51 = .ok (.invokevirtual 122, 3) := by decide +kernel
theorem dX4_isProof_54 : decode cX4_isProof 54 = .ok (.ifCond .eq 10, 3) := by decide +kernel
theorem dX4_isProof_57 : decode cX4_isProof 57 = .ok (.aload_n 0, 1) := by decide +kernel
theorem dX4_isProof_58 : decode cX4_isProof 58 = .ok (.invokevirtual 125, 3) := by decide +kernel
theorem dX4_isProof_61 : decode cX4_isProof 61 = .ok (.ifCond .ne 5, 3) := by decide +kernel
theorem dX4_isProof_64 : decode cX4_isProof 64 = .ok (.iconst 0, 1) := by decide +kernel
theorem dX4_isProof_65 : decode cX4_isProof 65 = .ok (.ireturn, 1) := by decide +kernel
theorem dX4_isProof_66 : decode cX4_isProof 66 = .ok (.iload_n 2, 1) := by decide +kernel
theorem dX4_isProof_67 : decode cX4_isProof 67 = .ok (.bipush 8, 2) := by decide +kernel
theorem dX4_isProof_69 : decode cX4_isProof 69 = .ok (.if_icmp .eq 22, 3) := by decide +kernel
theorem dX4_isProof_72 : decode cX4_isProof 72 = .ok (.aload_n 0, 1) := by decide +kernel
theorem dX4_isProof_73 : decode cX4_isProof 73 = .ok (.bipush 10, 2) := by decide +kernel
theorem dX4_isProof_75 : decode cX4_isProof 75 = .ok (.invokevirtual 122, 3) := by decide +kernel
theorem dX4_isProof_78 : decode cX4_isProof 78 = .ok (.ifCond .eq 11, 3) := by decide +kernel
theorem dX4_isProof_81 : decode cX4_isProof 81 = .ok (.aload_n 0, 1) := by decide +kernel
theorem dX4_isProof_82 : decode cX4_isProof 82 = .ok (.iload_n 1, 1) := by decide +kernel
theorem dX4_isProof_83 : decode cX4_isProof 83 = .ok (.invokevirtual 129, 3) := by decide +kernel
theorem dX4_isProof_86 : decode cX4_isProof 86 = .ok (.ifCond .ne 5, 3) := by decide +kernel
theorem dX4_isProof_89 : decode cX4_isProof 89 = .ok (.iconst 0, 1) := by decide +kernel
theorem dX4_isProof_90 : decode cX4_isProof 90 = .ok (.ireturn, 1) := by decide +kernel
theorem dX4_isProof_91 : decode cX4_isProof 91 = .ok (.iload_n 2, 1) := by decide +kernel
theorem dX4_isProof_92 : decode cX4_isProof 92 = .ok (.bipush 9, 2) := by decide +kernel
theorem dX4_isProof_94 : decode cX4_isProof 94 = .ok (.if_icmp .ne 33, 3) := by decide +kernel
theorem dX4_isProof_97 : decode cX4_isProof 97 = .ok (.aload_n 0, 1) := by decide +kernel
theorem dX4_isProof_98 : decode cX4_isProof 98 = .ok (.bipush 11, 2) := by decide +kernel
theorem dX4_isProof_100 : decode cX4_isProof 100 = .ok (.invokevirtual 122, 3) := by decide +kernel
theorem dX4_isProof_103 : decode cX4_isProof 103 = .ok (.ifCond .eq 22, 3) := by decide +kernel
theorem dX4_isProof_106 : decode cX4_isProof 106 = .ok (.aload_n 0, 1) := by decide +kernel
theorem dX4_isProof_107 : decode cX4_isProof 107 = .ok (.iload_n 1, 1) := by decide +kernel
theorem dX4_isProof_108 : decode cX4_isProof 108 = .ok (.invokevirtual 129, 3) := by decide +kernel
theorem dX4_isProof_111 : decode cX4_isProof 111 = .ok (.ifCond .eq 14, 3) := by decide +kernel
theorem dX4_isProof_114 : decode cX4_isProof 114 = .ok (.aload_n 0, 1) := by decide +kernel
theorem dX4_isProof_115 : decode cX4_isProof 115 = .ok (.invokevirtual 119, 3) := by decide +kernel
theorem dX4_isProof_118 : decode cX4_isProof 118 = .ok (.ifCond .ne 7, 3) := by decide +kernel
theorem dX4_isProof_121 : decode cX4_isProof 121 = .ok (.iconst 1, 1) := by decide +kernel
theorem dX4_isProof_122 : decode cX4_isProof 122 = .ok (.goto 4, 3) := by decide +kernel
theorem dX4_isProof_125 : decode cX4_isProof 125 = .ok (.iconst 0, 1) := by decide +kernel
theorem dX4_isProof_126 : decode cX4_isProof 126 = .ok (.ireturn, 1) := by decide +kernel
theorem dX4_isProof_127 : decode cX4_isProof 127 = .ok (.aload_n 0, 1) := by decide +kernel
theorem dX4_isProof_128 : decode cX4_isProof 128 = .ok (.invokevirtual 132, 3) := by decide +kernel
theorem dX4_isProof_131 : decode cX4_isProof 131 = .ok (.ifCond .eq 14, 3) := by decide +kernel
theorem dX4_isProof_134 : decode cX4_isProof 134 = .ok (.aload_n 0, 1) := by decide +kernel
theorem dX4_isProof_135 : decode cX4_isProof 135 = .ok (.invokevirtual 119, 3) := by decide +kernel
theorem dX4_isProof_138 : decode cX4_isProof 138 = .ok (.ifCond .ne 7, 3) := by decide +kernel
theorem dX4_isProof_141 : decode cX4_isProof 141 = .ok (.iconst 1, 1) := by decide +kernel
theorem dX4_isProof_142 : decode cX4_isProof 142 = .ok (.goto 4, 3) := by decide +kernel
theorem dX4_isProof_145 : decode cX4_isProof 145 = .ok (.iconst 0, 1) := by decide +kernel
theorem dX4_isProof_146 : decode cX4_isProof 146 = .ok (.ireturn, 1) := by decide +kernel
theorem dX4_isWord_0 : decode cX4_isWord 0 = .ok (.aload_n 3, 1) := by decide +kernel
theorem dX4_isWord_1 : decode cX4_isWord 1 = .ok (.invokevirtual 87, 3) := by decide +kernel
theorem dX4_isWord_4 : decode cX4_isWord 4 = .ok (.iload_n 2, 1) := by decide +kernel
theorem dX4_isWord_5 : decode cX4_isWord 5 = .ok (.iload_n 1, 1) := by decide +kernel
theorem dX4_isWord_6 : decode cX4_isWord 6 = .ok (.isub, 1) := by decide +kernel
theorem dX4_isWord_7 : decode cX4_isWord 7 = .ok (.if_icmp .eq 5, 3) := by decide +kernel
theorem dX4_isWord_10 : decode cX4_isWord 10 = .ok (.iconst 0, 1) := by decide +kernel
theorem dX4_isWord_11 : decode cX4_isWord 11 = .ok (.ireturn, 1) := by decide +kernel
theorem dX4_isWord_12 : decode cX4_isWord 12 = .ok (.iconst 0, 1) := by decide +kernel
theorem dX4_isWord_13 : decode cX4_isWord 13 = .ok (.istore 4, 2) := by decide +kernel
theorem dX4_isWord_15 : decode cX4_isWord 15 = .ok (.iload 4, 2) := by decide +kernel
theorem dX4_isWord_17 : decode cX4_isWord 17 = .ok (.aload_n 3, 1) := by decide +kernel
theorem dX4_isWord_18 : decode cX4_isWord 18 = .ok (.invokevirtual 87, 3) := by decide +kernel
theorem dX4_isWord_21 : decode cX4_isWord 21 = .ok (.if_icmp .ge 31, 3) := by decide +kernel
theorem dX4_isWord_24 : decode cX4_isWord 24 = .ok (.aload_n 0, 1) := by decide +kernel
theorem dX4_isWord_25 : decode cX4_isWord 25 = .ok (.getfield 14, 3) := by decide +kernel
theorem dX4_isWord_28 : decode cX4_isWord 28 = .ok (.iload_n 1, 1) := by decide +kernel
theorem dX4_isWord_29 : decode cX4_isWord 29 = .ok (.iload 4, 2) := by decide +kernel
theorem dX4_isWord_31 : decode cX4_isWord 31 = .ok (.iadd, 1) := by decide +kernel
theorem dX4_isWord_32 : decode cX4_isWord 32 = .ok (.invokevirtual 43, 3) := by decide +kernel
theorem dX4_isWord_35 : decode cX4_isWord 35 = .ok (.aload_n 3, 1) := by decide +kernel
theorem dX4_isWord_36 : decode cX4_isWord 36 = .ok (.iload 4, 2) := by decide +kernel
theorem dX4_isWord_38 : decode cX4_isWord 38 = .ok (.invokevirtual 90, 3) := by decide +kernel
theorem dX4_isWord_41 : decode cX4_isWord 41 = .ok (.if_icmp .eq 5, 3) := by decide +kernel
theorem dX4_isWord_44 : decode cX4_isWord 44 = .ok (.iconst 0, 1) := by decide +kernel
theorem dX4_isWord_45 : decode cX4_isWord 45 = .ok (.ireturn, 1) := by decide +kernel
theorem dX4_isWord_46 : decode cX4_isWord 46 = .ok (.iinc 4 1, 3) := by decide +kernel
theorem dX4_isWord_49 : decode cX4_isWord 49 = .ok (.goto (-34), 3) := by decide +kernel
theorem dX4_isWord_52 : decode cX4_isWord 52 = .ok (.iconst 1, 1) := by decide +kernel
theorem dX4_isWord_53 : decode cX4_isWord 53 = .ok (.ireturn, 1) := by decide +kernel
theorem dX4_kind_0 : decode cX4_kind 0 = .ok (.aload_n 0, 1) := by decide +kernel
theorem dX4_kind_1 : decode cX4_kind 1 = .ok (.getfield 40, 3) := by decide +kernel
theorem dX4_kind_4 : decode cX4_kind 4 = .ok (.aload_n 0, 1) := by decide +kernel
theorem dX4_kind_5 : decode cX4_kind 5 = .ok (.getfield 24, 3) := by decide +kernel
theorem dX4_kind_8 : decode cX4_kind 8 = .ok (.if_icmp .ge 18, 3) := by decide +kernel
theorem dX4_kind_11 : decode cX4_kind 11 = .ok (.aload_n 0, 1) := by decide +kernel
theorem dX4_kind_12 : decode cX4_kind 12 = .ok (.getfield 20, 3) := by decide +kernel
theorem dX4_kind_15 : decode cX4_kind 15 = .ok (.aload_n 0, 1) := by decide +kernel
theorem dX4_kind_16 : decode cX4_kind 16 = .ok (.getfield 40, 3) := by decide +kernel
theorem dX4_kind_19 : decode cX4_kind 19 = .ok (.iaload, 1) := by decide +kernel
theorem dX4_kind_20 : decode cX4_kind 20 = .ok (.bipush 16, 2) := by decide +kernel
theorem dX4_kind_22 : decode cX4_kind 22 = .ok (.irem, 1) := by decide +kernel
theorem dX4_kind_23 : decode cX4_kind 23 = .ok (.goto 4, 3) := by decide +kernel
theorem dX4_kind_26 : decode cX4_kind 26 = .ok (.iconst 0, 1) := by decide +kernel
theorem dX4_kind_27 : decode cX4_kind 27 = .ok (.ireturn, 1) := by decide +kernel
theorem dX4_mark_0 : decode cX4_mark 0 = .ok (.aload_n 0, 1) := by decide +kernel
theorem dX4_mark_1 : decode cX4_mark 1 = .ok (.getfield 24, 3) := by decide +kernel
theorem dX4_mark_4 : decode cX4_mark 4 = .ok (.aload_n 0, 1) := by decide +kernel
theorem dX4_mark_5 : decode cX4_mark 5 = .ok (.getfield 20, 3) := by decide +kernel
theorem dX4_mark_8 : decode cX4_mark 8 = .ok (.arraylength, 1) := by decide +kernel
theorem dX4_mark_9 : decode cX4_mark 9 = .ok (.if_icmp .ge 28, 3) := by decide +kernel
theorem dX4_mark_12 : decode cX4_mark 12 = .ok (.aload_n 0, 1) := by decide +kernel
theorem dX4_mark_13 : decode cX4_mark 13 = .ok (.getfield 20, 3) := by decide +kernel
theorem dX4_mark_16 : decode cX4_mark 16 = .ok (.aload_n 0, 1) := by decide +kernel
theorem dX4_mark_17 : decode cX4_mark 17 = .ok (.getfield 24, 3) := by decide +kernel
theorem dX4_mark_20 : decode cX4_mark 20 = .ok (.iload_n 2, 1) := by decide +kernel
theorem dX4_mark_21 : decode cX4_mark 21 = .ok (.bipush 16, 2) := by decide +kernel
theorem dX4_mark_23 : decode cX4_mark 23 = .ok (.imul, 1) := by decide +kernel
theorem dX4_mark_24 : decode cX4_mark 24 = .ok (.iload_n 1, 1) := by decide +kernel
theorem dX4_mark_25 : decode cX4_mark 25 = .ok (.iadd, 1) := by decide +kernel
theorem dX4_mark_26 : decode cX4_mark 26 = .ok (.iastore, 1) := by decide +kernel
theorem dX4_mark_27 : decode cX4_mark 27 = .ok (.aload_n 0, 1) := by decide +kernel
theorem dX4_mark_28 : decode cX4_mark 28 = .ok (.dup, 1) := by decide +kernel
theorem dX4_mark_29 : decode cX4_mark 29 = .ok (.getfield 24, 3) := by decide +kernel
theorem dX4_mark_32 : decode cX4_mark 32 = .ok (.iconst 1, 1) := by decide +kernel
theorem dX4_mark_33 : decode cX4_mark 33 = .ok (.iadd, 1) := by decide +kernel
theorem dX4_mark_34 : decode cX4_mark 34 = .ok (.putfield 24, 3) := by decide +kernel
theorem dX4_mark_37 : decode cX4_mark 37 = .ok (.return_, 1) := by decide +kernel
theorem dX4_open_0 : decode cX4_open 0 = .ok (.aload_n 0, 1) := by decide +kernel
theorem dX4_open_1 : decode cX4_open 1 = .ok (.aload_n 1, 1) := by decide +kernel
theorem dX4_open_2 : decode cX4_open 2 = .ok (.putfield 14, 3) := by decide +kernel
theorem dX4_open_5 : decode cX4_open 5 = .ok (.aload_n 0, 1) := by decide +kernel
theorem dX4_open_6 : decode cX4_open 6 = .ok (.iconst 0, 1) := by decide +kernel
theorem dX4_open_7 : decode cX4_open 7 = .ok (.putfield 24, 3) := by decide +kernel
theorem dX4_open_10 : decode cX4_open 10 = .ok (.aload_n 0, 1) := by decide +kernel
theorem dX4_open_11 : decode cX4_open 11 = .ok (.getfield 14, 3) := by decide +kernel
theorem dX4_open_14 : decode cX4_open 14 = .ok (.invokevirtual 28, 3) := by decide +kernel
theorem dX4_open_17 : decode cX4_open 17 = .ok (.istore_n 2, 1) := by decide +kernel
theorem dX4_open_18 : decode cX4_open 18 = .ok (.iconst 0, 1) := by decide +kernel
theorem dX4_open_19 : decode cX4_open 19 = .ok (.istore_n 3, 1) := by decide +kernel
theorem dX4_open_20 : decode cX4_open 20 = .ok (.iconst 0, 1) := by decide +kernel
theorem dX4_open_21 : decode cX4_open 21 = .ok (.istore 4, 2) := by decide +kernel
theorem dX4_open_23 : decode cX4_open 23 = .ok (.iload 4, 2) := by decide +kernel
theorem dX4_open_25 : decode cX4_open 25 = .ok (.sipush 30000, 3) := by decide +kernel
theorem dX4_open_28 : decode cX4_open 28 = .ok (.if_icmp .ge 48, 3) := by decide +kernel
theorem dX4_open_31 : decode cX4_open 31 = .ok (.iload_n 3, 1) := by decide +kernel
theorem dX4_open_32 : decode cX4_open 32 = .ok (.iload_n 2, 1) := by decide +kernel
theorem dX4_open_33 : decode cX4_open 33 = .ok (.if_icmp .ge 43, 3) := by decide +kernel
theorem dX4_open_36 : decode cX4_open 36 = .ok (.aload_n 0, 1) := by decide +kernel
theorem dX4_open_37 : decode cX4_open 37 = .ok (.iload_n 3, 1) := by decide +kernel
theorem dX4_open_38 : decode cX4_open 38 = .ok (.iload_n 2, 1) := by decide +kernel
theorem dX4_open_39 : decode cX4_open 39 = .ok (.invokevirtual 32, 3) := by decide +kernel
theorem dX4_open_42 : decode cX4_open 42 = .ok (.istore_n 3, 1) := by decide +kernel
theorem dX4_open_43 : decode cX4_open 43 = .ok (.aload_n 0, 1) := by decide +kernel
theorem dX4_open_44 : decode cX4_open 44 = .ok (.getfield 24, 3) := by decide +kernel
theorem dX4_open_47 : decode cX4_open 47 = .ok (.ifCond .le 23, 3) := by decide +kernel
theorem dX4_open_50 : decode cX4_open 50 = .ok (.aload_n 0, 1) := by decide +kernel
theorem dX4_open_51 : decode cX4_open 51 = .ok (.getfield 20, 3) := by decide +kernel
theorem dX4_open_54 : decode cX4_open 54 = .ok (.aload_n 0, 1) := by decide +kernel
theorem dX4_open_55 : decode cX4_open 55 = .ok (.getfield 24, 3) := by decide +kernel
theorem dX4_open_58 : decode cX4_open 58 = .ok (.iconst 1, 1) := by decide +kernel
theorem dX4_open_59 : decode cX4_open 59 = .ok (.isub, 1) := by decide +kernel
theorem dX4_open_60 : decode cX4_open 60 = .ok (.iaload, 1) := by decide +kernel
theorem dX4_open_61 : decode cX4_open 61 = .ok (.bipush 16, 2) := by decide +kernel
theorem dX4_open_63 : decode cX4_open 63 = .ok (.irem, 1) := by decide +kernel
theorem dX4_open_64 : decode cX4_open 64 = .ok (.iconst 1, 1) := by decide +kernel
theorem dX4_open_65 : decode cX4_open 65 = .ok (.if_icmp .ne 5, 3) := by decide +kernel
theorem dX4_open_68 : decode cX4_open 68 = .ok (.iload_n 2, 1) := by decide +kernel
theorem dX4_open_69 : decode cX4_open 69 = .ok (.istore_n 3, 1) := by decide +kernel
theorem dX4_open_70 : decode cX4_open 70 = .ok (.iinc 4 1, 3) := by decide +kernel
theorem dX4_open_73 : decode cX4_open 73 = .ok (.goto (-50), 3) := by decide +kernel
theorem dX4_open_76 : decode cX4_open 76 = .ok (.aload_n 0, 1) := by decide +kernel
theorem dX4_open_77 : decode cX4_open 77 = .ok (.iconst 0, 1) := by decide +kernel
theorem dX4_open_78 : decode cX4_open 78 = .ok (.iload_n 2, 1) := by decide +kernel
theorem dX4_open_79 : decode cX4_open 79 = .ok (.invokevirtual 36, 3) := by decide +kernel
theorem dX4_open_82 : decode cX4_open 82 = .ok (.aload_n 0, 1) := by decide +kernel
theorem dX4_open_83 : decode cX4_open 83 = .ok (.iconst 0, 1) := by decide +kernel
theorem dX4_open_84 : decode cX4_open 84 = .ok (.putfield 40, 3) := by decide +kernel
theorem dX4_open_87 : decode cX4_open 87 = .ok (.return_, 1) := by decide +kernel
theorem dX4_pass_0 : decode cX4_pass 0 = .ok (.aload_n 0, 1) := by decide +kernel
theorem dX4_pass_1 : decode cX4_pass 1 = .ok (.invokevirtual 119, 3) := by decide +kernel
theorem dX4_pass_4 : decode cX4_pass 4 = .ok (.iload_n 1, 1) := by decide +kernel
theorem dX4_pass_5 : decode cX4_pass 5 = .ok (.if_icmp .eq 5, 3) := by decide +kernel
theorem dX4_pass_8 : decode cX4_pass 8 = .ok (.iconst 0, 1) := by decide +kernel
theorem dX4_pass_9 : decode cX4_pass 9 = .ok (.ireturn, 1) := by decide +kernel
theorem dX4_pass_10 : decode cX4_pass 10 = .ok (.aload_n 0, 1) := by decide +kernel
theorem dX4_pass_11 : decode cX4_pass 11 = .ok (.dup, 1) := by decide +kernel
theorem dX4_pass_12 : decode cX4_pass 12 = .ok (.getfield 40, 3) := by decide +kernel
theorem dX4_pass_15 : decode cX4_pass 15 = .ok (.iconst 1, 1) := by decide +kernel
theorem dX4_pass_16 : decode cX4_pass 16 = .ok (.iadd, 1) := by decide +kernel
theorem dX4_pass_17 : decode cX4_pass 17 = .ok (.putfield 40, 3) := by decide +kernel
theorem dX4_pass_20 : decode cX4_pass 20 = .ok (.iconst 1, 1) := by decide +kernel
theorem dX4_pass_21 : decode cX4_pass 21 = .ok (.ireturn, 1) := by decide +kernel
theorem dX4_passAbove_0 : decode cX4_passAbove 0 = .ok (.aload_n 0, 1) := by decide +kernel
theorem dX4_passAbove_1 : decode cX4_passAbove 1 = .ok (.invokevirtual 119, 3) := by decide +kernel
theorem dX4_passAbove_4 : decode cX4_passAbove 4 = .ok (.iconst 2, 1) := by decide +kernel
theorem dX4_passAbove_5 : decode cX4_passAbove 5 = .ok (.if_icmp .eq 5, 3) := by decide +kernel
theorem dX4_passAbove_8 : decode cX4_passAbove 8 = .ok (.iconst 0, 1) := by decide +kernel
theorem dX4_passAbove_9 : decode cX4_passAbove 9 = .ok (.ireturn, 1) := by decide +kernel
theorem dX4_passAbove_10 : decode cX4_passAbove 10 = .ok (.aload_n 0, 1) := by decide +kernel
theorem dX4_passAbove_11 : decode cX4_passAbove 11 = .ok (.invokevirtual 106, 3) := by decide +kernel
theorem dX4_passAbove_14 : decode cX4_passAbove 14 = .ok (.istore_n 1, 1) := by decide +kernel
theorem dX4_passAbove_15 : decode cX4_passAbove 15 = .ok (.aload_n 0, 1) := by decide +kernel
theorem dX4_passAbove_16 : decode cX4_passAbove 16 = .ok (.iload_n 1, 1) := by decide +kernel
theorem dX4_passAbove_17 : decode cX4_passAbove 17 = .ok (.aload_n 0, 1) := by decide +kernel
theorem dX4_passAbove_18 : decode cX4_passAbove 18 = .ok (.getfield 14, 3) := by decide +kernel
theorem dX4_passAbove_21 : decode cX4_passAbove 21 = .ok (.invokevirtual 28, 3) := by decide +kernel
theorem dX4_passAbove_24 : decode cX4_passAbove 24 = .ok (.invokevirtual 94, 3) := by decide +kernel
theorem dX4_passAbove_27 : decode cX4_passAbove 27 = .ok (.istore_n 2, 1) := by decide +kernel
theorem dX4_passAbove_28 : decode cX4_passAbove 28 = .ok (.aload_n 0, 1) := by decide +kernel
theorem dX4_passAbove_29 : decode cX4_passAbove 29 = .ok (.iload_n 1, 1) := by decide +kernel
theorem dX4_passAbove_30 : decode cX4_passAbove 30 = .ok (.iload_n 2, 1) := by decide +kernel
theorem dX4_passAbove_31 : decode cX4_passAbove 31 = .ok (.invokevirtual 97, 3) := by decide +kernel
theorem dX4_passAbove_34 : decode cX4_passAbove 34 = .ok (.ifCond .ne 5, 3) := by decide +kernel
theorem dX4_passAbove_37 : decode cX4_passAbove 37 = .ok (.iconst 0, 1) := by decide +kernel
theorem dX4_passAbove_38 : decode cX4_passAbove 38 = .ok (.ireturn, 1) := by decide +kernel
theorem dX4_passAbove_39 : decode cX4_passAbove 39 = .ok (.aload_n 0, 1) := by decide +kernel
theorem dX4_passAbove_40 : decode cX4_passAbove 40 = .ok (.dup, 1) := by decide +kernel
theorem dX4_passAbove_41 : decode cX4_passAbove 41 = .ok (.getfield 40, 3) := by decide +kernel
theorem dX4_passAbove_44 : decode cX4_passAbove 44 = .ok (.iconst 1, 1) := by decide +kernel
theorem dX4_passAbove_45 : decode cX4_passAbove 45 = .ok (.iadd, 1) := by decide +kernel
theorem dX4_passAbove_46 : decode cX4_passAbove 46 = .ok (.putfield 40, 3) := by decide +kernel
theorem dX4_passAbove_49 : decode cX4_passAbove 49 = .ok (.iconst 1, 1) := by decide +kernel
theorem dX4_passAbove_50 : decode cX4_passAbove 50 = .ok (.ireturn, 1) := by decide +kernel
theorem dX4_passPairs_0 : decode cX4_passPairs 0 = .ok (.iconst 0, 1) := by decide +kernel
theorem dX4_passPairs_1 : decode cX4_passPairs 1 = .ok (.istore_n 1, 1) := by decide +kernel
theorem dX4_passPairs_2 : decode cX4_passPairs 2 = .ok (.iload_n 1, 1) := by decide +kernel
theorem dX4_passPairs_3 : decode cX4_passPairs 3 = .ok (.sipush 30000, 3) := by decide +kernel
theorem dX4_passPairs_6 : decode cX4_passPairs 6 = .ok (.if_icmp .gt 35, 3) := by decide +kernel
theorem dX4_passPairs_9 : decode cX4_passPairs 9 = .ok (.aload_n 0, 1) := by decide +kernel
theorem dX4_passPairs_10 : decode cX4_passPairs 10 = .ok (.iconst 2, 1) := by decide +kernel
theorem dX4_passPairs_11 : decode cX4_passPairs 11 = .ok (.invokevirtual 122, 3) := by decide +kernel
theorem dX4_passPairs_14 : decode cX4_passPairs 14 = .ok (.ifCond .eq 27, 3) := by decide +kernel
theorem dX4_passPairs_17 : decode cX4_passPairs 17 = .ok (.aload_n 0, 1) := by decide +kernel
theorem dX4_passPairs_18 : decode cX4_passPairs 18 = .ok (.iconst 4, 1) := by decide +kernel
theorem dX4_passPairs_19 : decode cX4_passPairs 19 = .ok (.invokevirtual 122, 3) := by decide +kernel
theorem dX4_passPairs_22 : decode cX4_passPairs 22 = .ok (.ifCond .eq 11, 3) := by decide +kernel
theorem dX4_passPairs_25 : decode cX4_passPairs 25 = .ok (.aload_n 0, 1) := by decide +kernel
theorem dX4_passPairs_26 : decode cX4_passPairs 26 = .ok (.iconst 2, 1) := by decide +kernel
theorem dX4_passPairs_27 : decode cX4_passPairs 27 = .ok (.invokevirtual 122, 3) := by decide +kernel
theorem dX4_passPairs_30 : decode cX4_passPairs 30 = .ok (.ifCond .ne 5, 3) := by decide +kernel
theorem dX4_passPairs_33 : decode cX4_passPairs 33 = .ok (.iconst 0, 1) := by decide +kernel
theorem dX4_passPairs_34 : decode cX4_passPairs 34 = .ok (.ireturn, 1) := by decide +kernel
theorem dX4_passPairs_35 : decode cX4_passPairs 35 = .ok (.iinc 1 1, 3) := by decide +kernel
theorem dX4_passPairs_38 : decode cX4_passPairs 38 = .ok (.goto (-36), 3) := by decide +kernel
theorem dX4_passPairs_41 : decode cX4_passPairs 41 = .ok (.aload_n 0, 1) := by decide +kernel
theorem dX4_passPairs_42 : decode cX4_passPairs 42 = .ok (.iconst 5, 1) := by decide +kernel
theorem dX4_passPairs_43 : decode cX4_passPairs 43 = .ok (.invokevirtual 122, 3) := by decide +kernel
theorem dX4_passPairs_46 : decode cX4_passPairs 46 = .ok (.ireturn, 1) := by decide +kernel
theorem dX4_passPoint_0 : decode cX4_passPoint 0 = .ok (.iconst 1, 1) := by decide +kernel
theorem dX4_passPoint_1 : decode cX4_passPoint 1 = .ok (.istore_n 2, 1) := by decide +kernel
theorem dX4_passPoint_2 : decode cX4_passPoint 2 = .ok (.iload_n 2, 1) := by decide +kernel
theorem dX4_passPoint_3 : decode cX4_passPoint 3 = .ok (.iload_n 1, 1) := by decide +kernel
theorem dX4_passPoint_4 : decode cX4_passPoint 4 = .ok (.if_icmp .gt 19, 3) := by decide +kernel
theorem dX4_passPoint_7 : decode cX4_passPoint 7 = .ok (.aload_n 0, 1) := by decide +kernel
theorem dX4_passPoint_8 : decode cX4_passPoint 8 = .ok (.iconst 2, 1) := by decide +kernel
theorem dX4_passPoint_9 : decode cX4_passPoint 9 = .ok (.invokevirtual 122, 3) := by decide +kernel
theorem dX4_passPoint_12 : decode cX4_passPoint 12 = .ok (.ifCond .ne 5, 3) := by decide +kernel
theorem dX4_passPoint_15 : decode cX4_passPoint 15 = .ok (.iconst 0, 1) := by decide +kernel
theorem dX4_passPoint_16 : decode cX4_passPoint 16 = .ok (.ireturn, 1) := by decide +kernel
theorem dX4_passPoint_17 : decode cX4_passPoint 17 = .ok (.iinc 2 1, 3) := by decide +kernel
theorem dX4_passPoint_20 : decode cX4_passPoint 20 = .ok (.goto (-18), 3) := by decide +kernel
theorem dX4_passPoint_23 : decode cX4_passPoint 23 = .ok (.aload_n 0, 1) := by decide +kernel
theorem dX4_passPoint_24 : decode cX4_passPoint 24 = .ok (.iconst 3, 1) := by decide +kernel
theorem dX4_passPoint_25 : decode cX4_passPoint 25 = .ok (.invokevirtual 122, 3) := by decide +kernel
theorem dX4_passPoint_28 : decode cX4_passPoint 28 = .ok (.ifCond .eq 14, 3) := by decide +kernel
theorem dX4_passPoint_31 : decode cX4_passPoint 31 = .ok (.aload_n 0, 1) := by decide +kernel
theorem dX4_passPoint_32 : decode cX4_passPoint 32 = .ok (.invokevirtual 125, 3) := by decide +kernel
theorem dX4_passPoint_35 : decode cX4_passPoint 35 = .ok (.ifCond .eq 7, 3) := by decide +kernel
theorem dX4_passPoint_38 : decode cX4_passPoint 38 = .ok (.iconst 1, 1) := by decide +kernel
theorem dX4_passPoint_39 : decode cX4_passPoint 39 = .ok (.goto 4, 3) := by decide +kernel
theorem dX4_passPoint_42 : decode cX4_passPoint 42 = .ok (.iconst 0, 1) := by decide +kernel
theorem dX4_passPoint_43 : decode cX4_passPoint 43 = .ok (.ireturn, 1) := by decide +kernel
theorem dX4_passTree_0 : decode cX4_passTree 0 = .ok (.iconst 1, 1) := by decide +kernel
theorem dX4_passTree_1 : decode cX4_passTree 1 = .ok (.istore_n 1, 1) := by decide +kernel
theorem dX4_passTree_2 : decode cX4_passTree 2 = .ok (.iconst 0, 1) := by decide +kernel
theorem dX4_passTree_3 : decode cX4_passTree 3 = .ok (.istore_n 2, 1) := by decide +kernel
theorem dX4_passTree_4 : decode cX4_passTree 4 = .ok (.iload_n 2, 1) := by decide +kernel
theorem dX4_passTree_5 : decode cX4_passTree 5 = .ok (.sipush 30000, 3) := by decide +kernel
theorem dX4_passTree_8 : decode cX4_passTree 8 = .ok (.if_icmp .gt 107, 3) := by decide +kernel
theorem dX4_passTree_11 : decode cX4_passTree 11 = .ok (.iload_n 1, 1) := by decide +kernel
theorem dX4_passTree_12 : decode cX4_passTree 12 = .ok (.ifCond .le 103, 3) := by decide +kernel
theorem dX4_passTree_15 : decode cX4_passTree 15 = .ok (.aload_n 0, 1) := by decide +kernel
theorem dX4_passTree_16 : decode cX4_passTree 16 = .ok (.invokevirtual 119, 3) := by decide +kernel
theorem dX4_passTree_19 : decode cX4_passTree 19 = .ok (.istore_n 3, 1) := by decide +kernel
theorem dX4_passTree_20 : decode cX4_passTree 20 = .ok (.iload_n 3, 1) := by decide +kernel
theorem dX4_passTree_21 : decode cX4_passTree 21 = .ok (.bipush 12, 2) := by decide +kernel
theorem dX4_passTree_23 : decode cX4_passTree 23 = .ok (.if_icmp .lt 9, 3) := by decide +kernel
theorem dX4_passTree_26 : decode cX4_passTree 26 = .ok (.iload_n 3, 1) := by decide +kernel
theorem dX4_passTree_27 : decode cX4_passTree 27 = .ok (.bipush 15, 2) := by decide +kernel
theorem dX4_passTree_29 : decode cX4_passTree 29 = .ok (.if_icmp .le 5, 3) := by decide +kernel
theorem dX4_passTree_32 : decode cX4_passTree 32 = .ok (.iconst 0, 1) := by decide +kernel
theorem dX4_passTree_33 : decode cX4_passTree 33 = .ok (.ireturn, 1) := by decide +kernel
theorem dX4_passTree_34 : decode cX4_passTree 34 = .ok (.aload_n 0, 1) := by decide +kernel
theorem dX4_passTree_35 : decode cX4_passTree 35 = .ok (.dup, 1) := by decide +kernel
theorem dX4_passTree_36 : decode cX4_passTree 36 = .ok (.getfield 40, 3) := by decide +kernel
theorem dX4_passTree_39 : decode cX4_passTree 39 = .ok (.iconst 1, 1) := by decide +kernel
theorem dX4_passTree_40 : decode cX4_passTree 40 = .ok (.iadd, 1) := by decide +kernel
theorem dX4_passTree_41 : decode cX4_passTree 41 = .ok (.putfield 40, 3) := by decide +kernel
theorem dX4_passTree_44 : decode cX4_passTree 44 = .ok (.iload_n 3, 1) := by decide +kernel
theorem dX4_passTree_45 : decode cX4_passTree 45 = .ok (.bipush 12, 2) := by decide +kernel
theorem dX4_passTree_47 : decode cX4_passTree 47 = .ok (.if_icmp .ne 22, 3) := by decide +kernel
theorem dX4_passTree_50 : decode cX4_passTree 50 = .ok (.aload_n 0, 1) := by decide +kernel
theorem dX4_passTree_51 : decode cX4_passTree 51 = .ok (.iconst 2, 1) := by decide +kernel
theorem dX4_passTree_52 : decode cX4_passTree 52 = .ok (.invokevirtual 122, 3) := by decide +kernel
theorem dX4_passTree_55 : decode cX4_passTree 55 = .ok (.ifCond .eq 28, 3) := by decide +kernel
theorem dX4_passTree_58 : decode cX4_passTree 58 = .ok (.aload_n 0, 1) := by decide +kernel
theorem dX4_passTree_59 : decode cX4_passTree 59 = .ok (.iconst 2, 1) := by decide +kernel
theorem dX4_passTree_60 : decode cX4_passTree 60 = .ok (.invokevirtual 122, 3) := by decide +kernel
theorem dX4_passTree_63 : decode cX4_passTree 63 = .ok (.ifCond .eq 20, 3) := by decide +kernel
theorem dX4_passTree_66 : decode cX4_passTree 66 = .ok (.goto 19, 3) := by decide +kernel
theorem dX4_passTree_69 : decode cX4_passTree 69 = .ok (.aload_n 0, 1) := by decide +kernel
theorem dX4_passTree_70 : decode cX4_passTree 70 = .ok (.invokevirtual 125, 3) := by decide +kernel
theorem dX4_passTree_73 : decode cX4_passTree 73 = .ok (.ifCond .eq 10, 3) := by decide +kernel
theorem dX4_passTree_76 : decode cX4_passTree 76 = .ok (.aload_n 0, 1) := by decide +kernel
theorem dX4_passTree_77 : decode cX4_passTree 77 = .ok (.invokevirtual 135, 3) := by decide +kernel
theorem dX4_passTree_80 : decode cX4_passTree 80 = .ok (.ifCond .ne 5, 3) := by decide +kernel
theorem dX4_passTree_83 : decode cX4_passTree 83 = .ok (.iconst 0, 1) := by decide +kernel
theorem dX4_passTree_84 : decode cX4_passTree 84 = .ok (.ireturn, 1) := by decide +kernel
theorem dX4_passTree_85 : decode cX4_passTree 85 = .ok (.iload_n 1, 1) := by decide +kernel
theorem dX4_passTree_86 : decode cX4_passTree 86 = .ok (.iload_n 3, 1) := by decide +kernel
theorem dX4_passTree_87 : decode cX4_passTree 87 = .ok (.bipush 12, 2) := by decide +kernel
theorem dX4_passTree_89 : decode cX4_passTree 89 = .ok (.if_icmp .ne 7, 3) := by decide +kernel
theorem dX4_passTree_92 : decode cX4_passTree 92 = .ok (.iconst 1, 1) := by decide +kernel
theorem dX4_passTree_93 : decode cX4_passTree 93 = .ok (.goto 14, 3) := by decide +kernel
theorem dX4_passTree_96 : decode cX4_passTree 96 = .ok (.iload_n 3, 1) := by decide +kernel
theorem dX4_passTree_97 : decode cX4_passTree 97 = .ok (.bipush 13, 2) := by decide +kernel
theorem dX4_passTree_99 : decode cX4_passTree 99 = .ok (.if_icmp .ne 7, 3) := by decide +kernel
theorem dX4_passTree_102 : decode cX4_passTree 102 = .ok (.iconst 0, 1) := by decide +kernel
theorem dX4_passTree_103 : decode cX4_passTree 103 = .ok (.goto 4, 3) := by decide +kernel
theorem dX4_passTree_106 : decode cX4_passTree 106 = .ok (.iconst (-1), 1) := by decide +kernel
theorem dX4_passTree_107 : decode cX4_passTree 107 = .ok (.iadd, 1) := by decide +kernel
theorem dX4_passTree_108 : decode cX4_passTree 108 = .ok (.istore_n 1, 1) := by decide +kernel
theorem dX4_passTree_109 : decode cX4_passTree 109 = .ok (.iinc 2 1, 3) := by decide +kernel
theorem dX4_passTree_112 : decode cX4_passTree 112 = .ok (.goto (-108), 3) := by decide +kernel
theorem dX4_passTree_115 : decode cX4_passTree 115 = .ok (.iload_n 1, 1) := by decide +kernel
theorem dX4_passTree_116 : decode cX4_passTree 116 = .ok (.ifCond .ne 7, 3) := by decide +kernel
theorem dX4_passTree_119 : decode cX4_passTree 119 = .ok (.iconst 1, 1) := by decide +kernel
theorem dX4_passTree_120 : decode cX4_passTree 120 = .ok (.goto 4, 3) := by decide +kernel
theorem dX4_passTree_123 : decode cX4_passTree 123 = .ok (.iconst 0, 1) := by decide +kernel
theorem dX4_passTree_124 : decode cX4_passTree 124 = .ok (.ireturn, 1) := by decide +kernel
theorem dX4_rewind_0 : decode cX4_rewind 0 = .ok (.aload_n 0, 1) := by decide +kernel
theorem dX4_rewind_1 : decode cX4_rewind 1 = .ok (.iconst 0, 1) := by decide +kernel
theorem dX4_rewind_2 : decode cX4_rewind 2 = .ok (.putfield 40, 3) := by decide +kernel
theorem dX4_rewind_5 : decode cX4_rewind 5 = .ok (.return_, 1) := by decide +kernel
theorem dX4_scanNumber_0 : decode cX4_scanNumber 0 = .ok (.aload_n 0, 1) := by decide +kernel
theorem dX4_scanNumber_1 : decode cX4_scanNumber 1 = .ok (.getfield 14, 3) := by decide +kernel
theorem dX4_scanNumber_4 : decode cX4_scanNumber 4 = .ok (.iload_n 1, 1) := by decide +kernel
theorem dX4_scanNumber_5 : decode cX4_scanNumber 5 = .ok (.invokevirtual 43, 3) := by decide +kernel
theorem dX4_scanNumber_8 : decode cX4_scanNumber 8 = .ok (.bipush 45, 2) := by decide +kernel
theorem dX4_scanNumber_10 : decode cX4_scanNumber 10 = .ok (.if_icmp .ne 7, 3) := by decide +kernel
theorem dX4_scanNumber_13 : decode cX4_scanNumber 13 = .ok (.iconst 1, 1) := by decide +kernel
theorem dX4_scanNumber_14 : decode cX4_scanNumber 14 = .ok (.goto 4, 3) := by decide +kernel
theorem dX4_scanNumber_17 : decode cX4_scanNumber 17 = .ok (.iconst 0, 1) := by decide +kernel
theorem dX4_scanNumber_18 : decode cX4_scanNumber 18 = .ok (.istore_n 3, 1) := by decide +kernel
theorem dX4_scanNumber_19 : decode cX4_scanNumber 19 = .ok (.iload_n 3, 1) := by decide +kernel
theorem dX4_scanNumber_20 : decode cX4_scanNumber 20 = .ok (.ifCond .eq 9, 3) := by decide +kernel
theorem dX4_scanNumber_23 : decode cX4_scanNumber 23 = .ok (.iload_n 1, 1) := by decide +kernel
theorem dX4_scanNumber_24 : decode cX4_scanNumber 24 = .ok (.iconst 1, 1) := by decide +kernel
theorem dX4_scanNumber_25 : decode cX4_scanNumber 25 = .ok (.iadd, 1) := by decide +kernel
theorem dX4_scanNumber_26 : decode cX4_scanNumber 26 = .ok (.goto 4, 3) := by decide +kernel
theorem dX4_scanNumber_29 : decode cX4_scanNumber 29 = .ok (.iload_n 1, 1) := by decide +kernel
theorem dX4_scanNumber_30 : decode cX4_scanNumber 30 = .ok (.istore 4, 2) := by decide +kernel
theorem dX4_scanNumber_32 : decode cX4_scanNumber 32 = .ok (.aload_n 0, 1) := by decide +kernel
theorem dX4_scanNumber_33 : decode cX4_scanNumber 33 = .ok (.iload 4, 2) := by decide +kernel
theorem dX4_scanNumber_35 : decode cX4_scanNumber 35 = .ok (.iload_n 2, 1) := by decide +kernel
theorem dX4_scanNumber_36 : decode cX4_scanNumber 36 = .ok (.invokevirtual 94, 3) := by decide +kernel
theorem dX4_scanNumber_39 : decode cX4_scanNumber 39 = .ok (.istore 5, 2) := by decide +kernel
theorem dX4_scanNumber_41 : decode cX4_scanNumber 41 = .ok (.iload 5, 2) := by decide +kernel
theorem dX4_scanNumber_43 : decode cX4_scanNumber 43 = .ok (.iload 4, 2) := by decide +kernel
theorem dX4_scanNumber_45 : decode cX4_scanNumber 45 = .ok (.if_icmp .eq 28, 3) := by decide +kernel
theorem dX4_scanNumber_48 : decode cX4_scanNumber 48 = .ok (.iload 5, 2) := by decide +kernel
theorem dX4_scanNumber_50 : decode cX4_scanNumber 50 = .ok (.iload 4, 2) := by decide +kernel
theorem dX4_scanNumber_52 : decode cX4_scanNumber 52 = .ok (.isub, 1) := by decide +kernel
theorem dX4_scanNumber_53 : decode cX4_scanNumber 53 = .ok (.bipush 60, 2) := by decide +kernel
theorem dX4_scanNumber_55 : decode cX4_scanNumber 55 = .ok (.if_icmp .gt 18, 3) := by decide +kernel
theorem dX4_scanNumber_58 : decode cX4_scanNumber 58 = .ok (.iload_n 3, 1) := by decide +kernel
theorem dX4_scanNumber_59 : decode cX4_scanNumber 59 = .ok (.ifCond .eq 18, 3) := by decide +kernel
theorem dX4_scanNumber_62 : decode cX4_scanNumber 62 = .ok (.aload_n 0, 1) := by decide +kernel
theorem dX4_scanNumber_63 : decode cX4_scanNumber 63 = .ok (.iload 4, 2) := by decide +kernel
theorem dX4_scanNumber_65 : decode cX4_scanNumber 65 = .ok (.iload 5, 2) := by decide +kernel
theorem dX4_scanNumber_67 : decode cX4_scanNumber 67 = .ok (.invokevirtual 97, 3) := by decide +kernel
theorem dX4_scanNumber_70 : decode cX4_scanNumber 70 = .ok (.ifCond .ne 7, 3) := by decide +kernel
theorem dX4_scanNumber_73 : decode cX4_scanNumber 73 = .ok (.iconst 1, 1) := by decide +kernel
theorem dX4_scanNumber_74 : decode cX4_scanNumber 74 = .ok (.goto 4, 3) := by decide +kernel
theorem dX4_scanNumber_77 : decode cX4_scanNumber 77 = .ok (.iconst 0, 1) := by decide +kernel
theorem dX4_scanNumber_78 : decode cX4_scanNumber 78 = .ok (.istore 6, 2) := by decide +kernel
theorem dX4_scanNumber_80 : decode cX4_scanNumber 80 = .ok (.aload_n 0, 1) := by decide +kernel
theorem dX4_scanNumber_81 : decode cX4_scanNumber 81 = .ok (.iload 6, 2) := by decide +kernel
theorem dX4_scanNumber_83 : decode cX4_scanNumber 83 = .ok (.ifCond .eq 7, 3) := by decide +kernel
theorem dX4_scanNumber_86 : decode cX4_scanNumber 86 = .ok (.iconst 1, 1) := by decide +kernel
theorem dX4_scanNumber_87 : decode cX4_scanNumber 87 = .ok (.goto 4, 3) := by decide +kernel
theorem dX4_scanNumber_90 : decode cX4_scanNumber 90 = .ok (.iconst 2, 1) := by decide +kernel
theorem dX4_scanNumber_91 : decode cX4_scanNumber 91 = .ok (.iload_n 1, 1) := by decide +kernel
theorem dX4_scanNumber_92 : decode cX4_scanNumber 92 = .ok (.invokevirtual 36, 3) := by decide +kernel
theorem dX4_scanNumber_95 : decode cX4_scanNumber 95 = .ok (.iload 5, 2) := by decide +kernel
theorem dX4_scanNumber_97 : decode cX4_scanNumber 97 = .ok (.iload_n 1, 1) := by decide +kernel
theorem dX4_scanNumber_98 : decode cX4_scanNumber 98 = .ok (.iconst 1, 1) := by decide +kernel
theorem dX4_scanNumber_99 : decode cX4_scanNumber 99 = .ok (.iadd, 1) := by decide +kernel
theorem dX4_scanNumber_100 : decode cX4_scanNumber 100 = .ok (.invokestatic 101, 3) := by decide +kernel
theorem dX4_scanNumber_103 : decode cX4_scanNumber 103 = .ok (.ireturn, 1) := by decide +kernel
theorem dX4_scanOne_0 : decode cX4_scanOne 0 = .ok (.aload_n 0, 1) := by decide +kernel
theorem dX4_scanOne_1 : decode cX4_scanOne 1 = .ok (.getfield 14, 3) := by decide +kernel
theorem dX4_scanOne_4 : decode cX4_scanOne 4 = .ok (.iload_n 1, 1) := by decide +kernel
theorem dX4_scanOne_5 : decode cX4_scanOne 5 = .ok (.invokevirtual 43, 3) := by decide +kernel
theorem dX4_scanOne_8 : decode cX4_scanOne 8 = .ok (.istore_n 3, 1) := by decide +kernel
theorem dX4_scanOne_9 : decode cX4_scanOne 9 = .ok (.iload_n 3, 1) := by decide +kernel
theorem dX4_scanOne_10 : decode cX4_scanOne 10 = .ok (.bipush 32, 2) := by decide +kernel
theorem dX4_scanOne_12 : decode cX4_scanOne 12 = .ok (.if_icmp .eq 9, 3) := by decide +kernel
theorem dX4_scanOne_15 : decode cX4_scanOne 15 = .ok (.iload_n 3, 1) := by decide +kernel
theorem dX4_scanOne_16 : decode cX4_scanOne 16 = .ok (.bipush 10, 2) := by decide +kernel
theorem dX4_scanOne_18 : decode cX4_scanOne 18 = .ok (.if_icmp .ne 7, 3) := by decide +kernel
theorem dX4_scanOne_21 : decode cX4_scanOne 21 = .ok (.iload_n 1, 1) := by decide +kernel
theorem dX4_scanOne_22 : decode cX4_scanOne 22 = .ok (.iconst 1, 1) := by decide +kernel
theorem dX4_scanOne_23 : decode cX4_scanOne 23 = .ok (.iadd, 1) := by decide +kernel
theorem dX4_scanOne_24 : decode cX4_scanOne 24 = .ok (.ireturn, 1) := by decide +kernel
theorem dX4_scanOne_25 : decode cX4_scanOne 25 = .ok (.iload_n 3, 1) := by decide +kernel
theorem dX4_scanOne_26 : decode cX4_scanOne 26 = .ok (.invokestatic 47, 3) := by decide +kernel
theorem dX4_scanOne_29 : decode cX4_scanOne 29 = .ok (.ifCond .eq 10, 3) := by decide +kernel
theorem dX4_scanOne_32 : decode cX4_scanOne 32 = .ok (.aload_n 0, 1) := by decide +kernel
theorem dX4_scanOne_33 : decode cX4_scanOne 33 = .ok (.iload_n 1, 1) := by decide +kernel
theorem dX4_scanOne_34 : decode cX4_scanOne 34 = .ok (.iload_n 2, 1) := by decide +kernel
theorem dX4_scanOne_35 : decode cX4_scanOne 35 = .ok (.invokevirtual 53, 3) := by decide +kernel
theorem dX4_scanOne_38 : decode cX4_scanOne 38 = .ok (.ireturn, 1) := by decide +kernel
theorem dX4_scanOne_39 : decode cX4_scanOne 39 = .ok (.iload_n 3, 1) := by decide +kernel
theorem dX4_scanOne_40 : decode cX4_scanOne 40 = .ok (.bipush 45, 2) := by decide +kernel
theorem dX4_scanOne_42 : decode cX4_scanOne 42 = .ok (.if_icmp .eq 10, 3) := by decide +kernel
theorem dX4_scanOne_45 : decode cX4_scanOne 45 = .ok (.iload_n 3, 1) := by decide +kernel
theorem dX4_scanOne_46 : decode cX4_scanOne 46 = .ok (.invokestatic 56, 3) := by decide +kernel
theorem dX4_scanOne_49 : decode cX4_scanOne 49 = .ok (.ifCond .eq 10, 3) := by decide +kernel
theorem dX4_scanOne_52 : decode cX4_scanOne 52 = .ok (.aload_n 0, 1) := by decide +kernel
theorem dX4_scanOne_53 : decode cX4_scanOne 53 = .ok (.iload_n 1, 1) := by decide +kernel
theorem dX4_scanOne_54 : decode cX4_scanOne 54 = .ok (.iload_n 2, 1) := by decide +kernel
theorem dX4_scanOne_55 : decode cX4_scanOne 55 = .ok (.invokevirtual 59, 3) := by decide +kernel
theorem dX4_scanOne_58 : decode cX4_scanOne 58 = .ok (.ireturn, 1) := by decide +kernel
theorem dX4_scanOne_59 : decode cX4_scanOne 59 = .ok (.aload_n 0, 1) := by decide +kernel
theorem dX4_scanOne_60 : decode cX4_scanOne 60 = .ok (.iload_n 3, 1) := by decide +kernel
theorem dX4_scanOne_61 : decode cX4_scanOne 61 = .ok (.bipush 47, 2) := by decide +kernel
theorem dX4_scanOne_63 : decode cX4_scanOne 63 = .ok (.if_icmp .ne 7, 3) := by decide +kernel
theorem dX4_scanOne_66 : decode cX4_scanOne 66 = .ok (.iconst 3, 1) := by decide +kernel
theorem dX4_scanOne_67 : decode cX4_scanOne 67 = .ok (.goto 24, 3) := by decide +kernel
theorem dX4_scanOne_70 : decode cX4_scanOne 70 = .ok (.iload_n 3, 1) := by decide +kernel
theorem dX4_scanOne_71 : decode cX4_scanOne 71 = .ok (.bipush 58, 2) := by decide +kernel
theorem dX4_scanOne_73 : decode cX4_scanOne 73 = .ok (.if_icmp .ne 7, 3) := by decide +kernel
theorem dX4_scanOne_76 : decode cX4_scanOne 76 = .ok (.iconst 4, 1) := by decide +kernel
theorem dX4_scanOne_77 : decode cX4_scanOne 77 = .ok (.goto 14, 3) := by decide +kernel
theorem dX4_scanOne_80 : decode cX4_scanOne 80 = .ok (.iload_n 3, 1) := by decide +kernel
theorem dX4_scanOne_81 : decode cX4_scanOne 81 = .ok (.bipush 59, 2) := by decide +kernel
theorem dX4_scanOne_83 : decode cX4_scanOne 83 = .ok (.if_icmp .ne 7, 3) := by decide +kernel
theorem dX4_scanOne_86 : decode cX4_scanOne 86 = .ok (.iconst 5, 1) := by decide +kernel
theorem dX4_scanOne_87 : decode cX4_scanOne 87 = .ok (.goto 4, 3) := by decide +kernel
theorem dX4_scanOne_90 : decode cX4_scanOne 90 = .ok (.iconst 1, 1) := by decide +kernel
theorem dX4_scanOne_91 : decode cX4_scanOne 91 = .ok (.iload_n 1, 1) := by decide +kernel
theorem dX4_scanOne_92 : decode cX4_scanOne 92 = .ok (.invokevirtual 36, 3) := by decide +kernel
theorem dX4_scanOne_95 : decode cX4_scanOne 95 = .ok (.iload_n 1, 1) := by decide +kernel
theorem dX4_scanOne_96 : decode cX4_scanOne 96 = .ok (.iconst 1, 1) := by decide +kernel
theorem dX4_scanOne_97 : decode cX4_scanOne 97 = .ok (.iadd, 1) := by decide +kernel
theorem dX4_scanOne_98 : decode cX4_scanOne 98 = .ok (.ireturn, 1) := by decide +kernel
theorem dX4_scanWord_0 : decode cX4_scanWord 0 = .ok (.iload_n 1, 1) := by decide +kernel
theorem dX4_scanWord_1 : decode cX4_scanWord 1 = .ok (.istore_n 3, 1) := by decide +kernel
theorem dX4_scanWord_2 : decode cX4_scanWord 2 = .ok (.iload_n 3, 1) := by decide +kernel
theorem dX4_scanWord_3 : decode cX4_scanWord 3 = .ok (.iload_n 2, 1) := by decide +kernel
theorem dX4_scanWord_4 : decode cX4_scanWord 4 = .ok (.if_icmp .ge 23, 3) := by decide +kernel
theorem dX4_scanWord_7 : decode cX4_scanWord 7 = .ok (.aload_n 0, 1) := by decide +kernel
theorem dX4_scanWord_8 : decode cX4_scanWord 8 = .ok (.getfield 14, 3) := by decide +kernel
theorem dX4_scanWord_11 : decode cX4_scanWord 11 = .ok (.iload_n 3, 1) := by decide +kernel
theorem dX4_scanWord_12 : decode cX4_scanWord 12 = .ok (.invokevirtual 43, 3) := by decide +kernel
theorem dX4_scanWord_15 : decode cX4_scanWord 15 = .ok (.invokestatic 47, 3) := by decide +kernel
theorem dX4_scanWord_18 : decode cX4_scanWord 18 = .ok (.ifCond .eq 9, 3) := by decide +kernel
theorem dX4_scanWord_21 : decode cX4_scanWord 21 = .ok (.iinc 3 1, 3) := by decide +kernel
theorem dX4_scanWord_24 : decode cX4_scanWord 24 = .ok (.goto (-22), 3) := by decide +kernel
theorem dX4_scanWord_27 : decode cX4_scanWord 27 = .ok (.bipush 6, 2) := by decide +kernel
theorem dX4_scanWord_29 : decode cX4_scanWord 29 = .ok (.istore 4, 2) := by decide +kernel
theorem dX4_scanWord_31 : decode cX4_scanWord 31 = .ok (.bipush 7, 2) := by decide +kernel
theorem dX4_scanWord_33 : decode cX4_scanWord 33 = .ok (.istore 5, 2) := by decide +kernel
theorem dX4_scanWord_35 : decode cX4_scanWord 35 = .ok (.iload 5, 2) := by decide +kernel
theorem dX4_scanWord_37 : decode cX4_scanWord 37 = .ok (.bipush 15, 2) := by decide +kernel
theorem dX4_scanWord_39 : decode cX4_scanWord 39 = .ok (.if_icmp .gt 27, 3) := by decide +kernel
theorem dX4_scanWord_42 : decode cX4_scanWord 42 = .ok (.aload_n 0, 1) := by decide +kernel
theorem dX4_scanWord_43 : decode cX4_scanWord 43 = .ok (.iload_n 1, 1) := by decide +kernel
theorem dX4_scanWord_44 : decode cX4_scanWord 44 = .ok (.iload_n 3, 1) := by decide +kernel
theorem dX4_scanWord_45 : decode cX4_scanWord 45 = .ok (.iload 5, 2) := by decide +kernel
theorem dX4_scanWord_47 : decode cX4_scanWord 47 = .ok (.invokestatic 62, 3) := by decide +kernel
theorem dX4_scanWord_50 : decode cX4_scanWord 50 = .ok (.invokevirtual 66, 3) := by decide +kernel
theorem dX4_scanWord_53 : decode cX4_scanWord 53 = .ok (.ifCond .eq 7, 3) := by decide +kernel
theorem dX4_scanWord_56 : decode cX4_scanWord 56 = .ok (.iload 5, 2) := by decide +kernel
theorem dX4_scanWord_58 : decode cX4_scanWord 58 = .ok (.istore 4, 2) := by decide +kernel
theorem dX4_scanWord_60 : decode cX4_scanWord 60 = .ok (.iinc 5 1, 3) := by decide +kernel
theorem dX4_scanWord_63 : decode cX4_scanWord 63 = .ok (.goto (-28), 3) := by decide +kernel
theorem dX4_scanWord_66 : decode cX4_scanWord 66 = .ok (.aload_n 0, 1) := by decide +kernel
theorem dX4_scanWord_67 : decode cX4_scanWord 67 = .ok (.iload 4, 2) := by decide +kernel
theorem dX4_scanWord_69 : decode cX4_scanWord 69 = .ok (.iload_n 1, 1) := by decide +kernel
theorem dX4_scanWord_70 : decode cX4_scanWord 70 = .ok (.invokevirtual 36, 3) := by decide +kernel
theorem dX4_scanWord_73 : decode cX4_scanWord 73 = .ok (.iload_n 3, 1) := by decide +kernel
theorem dX4_scanWord_74 : decode cX4_scanWord 74 = .ok (.ireturn, 1) := by decide +kernel
theorem dX4_start_0 : decode cX4_start 0 = .ok (.aload_n 0, 1) := by decide +kernel
theorem dX4_start_1 : decode cX4_start 1 = .ok (.getfield 40, 3) := by decide +kernel
theorem dX4_start_4 : decode cX4_start 4 = .ok (.aload_n 0, 1) := by decide +kernel
theorem dX4_start_5 : decode cX4_start 5 = .ok (.getfield 24, 3) := by decide +kernel
theorem dX4_start_8 : decode cX4_start 8 = .ok (.if_icmp .ge 18, 3) := by decide +kernel
theorem dX4_start_11 : decode cX4_start 11 = .ok (.aload_n 0, 1) := by decide +kernel
theorem dX4_start_12 : decode cX4_start 12 = .ok (.getfield 20, 3) := by decide +kernel
theorem dX4_start_15 : decode cX4_start 15 = .ok (.aload_n 0, 1) := by decide +kernel
theorem dX4_start_16 : decode cX4_start 16 = .ok (.getfield 40, 3) := by decide +kernel
theorem dX4_start_19 : decode cX4_start 19 = .ok (.iaload, 1) := by decide +kernel
theorem dX4_start_20 : decode cX4_start 20 = .ok (.bipush 16, 2) := by decide +kernel
theorem dX4_start_22 : decode cX4_start 22 = .ok (.idiv, 1) := by decide +kernel
theorem dX4_start_23 : decode cX4_start 23 = .ok (.goto 4, 3) := by decide +kernel
theorem dX4_start_26 : decode cX4_start 26 = .ok (.iconst (-1), 1) := by decide +kernel
theorem dX4_start_27 : decode cX4_start 27 = .ok (.ireturn, 1) := by decide +kernel
theorem dX4_takeCount_0 : decode cX4_takeCount 0 = .ok (.aload_n 0, 1) := by decide +kernel
theorem dX4_takeCount_1 : decode cX4_takeCount 1 = .ok (.invokevirtual 106, 3) := by decide +kernel
theorem dX4_takeCount_4 : decode cX4_takeCount 4 = .ok (.istore_n 1, 1) := by decide +kernel
theorem dX4_takeCount_5 : decode cX4_takeCount 5 = .ok (.aload_n 0, 1) := by decide +kernel
theorem dX4_takeCount_6 : decode cX4_takeCount 6 = .ok (.iload_n 1, 1) := by decide +kernel
theorem dX4_takeCount_7 : decode cX4_takeCount 7 = .ok (.aload_n 0, 1) := by decide +kernel
theorem dX4_takeCount_8 : decode cX4_takeCount 8 = .ok (.getfield 14, 3) := by decide +kernel
theorem dX4_takeCount_11 : decode cX4_takeCount 11 = .ok (.invokevirtual 28, 3) := by decide +kernel
theorem dX4_takeCount_14 : decode cX4_takeCount 14 = .ok (.invokevirtual 94, 3) := by decide +kernel
theorem dX4_takeCount_17 : decode cX4_takeCount 17 = .ok (.istore_n 2, 1) := by decide +kernel
theorem dX4_takeCount_18 : decode cX4_takeCount 18 = .ok (.iload_n 2, 1) := by decide +kernel
theorem dX4_takeCount_19 : decode cX4_takeCount 19 = .ok (.iload_n 1, 1) := by decide +kernel
theorem dX4_takeCount_20 : decode cX4_takeCount 20 = .ok (.if_icmp .le 7, 3) := by decide +kernel
theorem dX4_takeCount_23 : decode cX4_takeCount 23 = .ok (.iconst 0, 1) := by decide +kernel
theorem dX4_takeCount_24 : decode cX4_takeCount 24 = .ok (.goto 4, 3) := by decide +kernel
theorem dX4_takeCount_27 : decode cX4_takeCount 27 = .ok (.iconst (-1), 1) := by decide +kernel
theorem dX4_takeCount_28 : decode cX4_takeCount 28 = .ok (.istore_n 3, 1) := by decide +kernel
theorem dX4_takeCount_29 : decode cX4_takeCount 29 = .ok (.iload_n 1, 1) := by decide +kernel
theorem dX4_takeCount_30 : decode cX4_takeCount 30 = .ok (.istore 4, 2) := by decide +kernel
theorem dX4_takeCount_32 : decode cX4_takeCount 32 = .ok (.iload 4, 2) := by decide +kernel
theorem dX4_takeCount_34 : decode cX4_takeCount 34 = .ok (.iload_n 2, 1) := by decide +kernel
theorem dX4_takeCount_35 : decode cX4_takeCount 35 = .ok (.if_icmp .ge 43, 3) := by decide +kernel
theorem dX4_takeCount_38 : decode cX4_takeCount 38 = .ok (.iload_n 3, 1) := by decide +kernel
theorem dX4_takeCount_39 : decode cX4_takeCount 39 = .ok (.ifCond .lt 39, 3) := by decide +kernel
theorem dX4_takeCount_42 : decode cX4_takeCount 42 = .ok (.bipush 10, 2) := by decide +kernel
theorem dX4_takeCount_44 : decode cX4_takeCount 44 = .ok (.iload_n 3, 1) := by decide +kernel
theorem dX4_takeCount_45 : decode cX4_takeCount 45 = .ok (.imul, 1) := by decide +kernel
theorem dX4_takeCount_46 : decode cX4_takeCount 46 = .ok (.aload_n 0, 1) := by decide +kernel
theorem dX4_takeCount_47 : decode cX4_takeCount 47 = .ok (.getfield 14, 3) := by decide +kernel
theorem dX4_takeCount_50 : decode cX4_takeCount 50 = .ok (.iload 4, 2) := by decide +kernel
theorem dX4_takeCount_52 : decode cX4_takeCount 52 = .ok (.invokevirtual 43, 3) := by decide +kernel
theorem dX4_takeCount_55 : decode cX4_takeCount 55 = .ok (.iadd, 1) := by decide +kernel
theorem dX4_takeCount_56 : decode cX4_takeCount 56 = .ok (.bipush 48, 2) := by decide +kernel
theorem dX4_takeCount_58 : decode cX4_takeCount 58 = .ok (.isub, 1) := by decide +kernel
theorem dX4_takeCount_59 : decode cX4_takeCount 59 = .ok (.istore_n 3, 1) := by decide +kernel
theorem dX4_takeCount_60 : decode cX4_takeCount 60 = .ok (.iload_n 3, 1) := by decide +kernel
theorem dX4_takeCount_61 : decode cX4_takeCount 61 = .ok (.ldc 118, 2) := by decide +kernel
theorem dX4_takeCount_63 : decode cX4_takeCount 63 = .ok (.if_icmp .le 7, 3) := by decide +kernel
theorem dX4_takeCount_66 : decode cX4_takeCount 66 = .ok (.iconst (-1), 1) := by decide +kernel
theorem dX4_takeCount_67 : decode cX4_takeCount 67 = .ok (.goto 4, 3) := by decide +kernel
theorem dX4_takeCount_70 : decode cX4_takeCount 70 = .ok (.iload_n 3, 1) := by decide +kernel
theorem dX4_takeCount_71 : decode cX4_takeCount 71 = .ok (.istore_n 3, 1) := by decide +kernel
theorem dX4_takeCount_72 : decode cX4_takeCount 72 = .ok (.iinc 4 1, 3) := by decide +kernel
theorem dX4_takeCount_75 : decode cX4_takeCount 75 = .ok (.goto (-43), 3) := by decide +kernel
theorem dX4_takeCount_78 : decode cX4_takeCount 78 = .ok (.aload_n 0, 1) := by decide +kernel
theorem dX4_takeCount_79 : decode cX4_takeCount 79 = .ok (.dup, 1) := by decide +kernel
theorem dX4_takeCount_80 : decode cX4_takeCount 80 = .ok (.getfield 40, 3) := by decide +kernel
theorem dX4_takeCount_83 : decode cX4_takeCount 83 = .ok (.iconst 1, 1) := by decide +kernel
theorem dX4_takeCount_84 : decode cX4_takeCount 84 = .ok (.iadd, 1) := by decide +kernel
theorem dX4_takeCount_85 : decode cX4_takeCount 85 = .ok (.putfield 40, 3) := by decide +kernel
theorem dX4_takeCount_88 : decode cX4_takeCount 88 = .ok (.iload_n 3, 1) := by decide +kernel
theorem dX4_takeCount_89 : decode cX4_takeCount 89 = .ok (.ireturn, 1) := by decide +kernel
theorem dX4_takeNumber_0 : decode cX4_takeNumber 0 = .ok (.aload_n 0, 1) := by decide +kernel
theorem dX4_takeNumber_1 : decode cX4_takeNumber 1 = .ok (.invokevirtual 106, 3) := by decide +kernel
theorem dX4_takeNumber_4 : decode cX4_takeNumber 4 = .ok (.istore_n 2, 1) := by decide +kernel
theorem dX4_takeNumber_5 : decode cX4_takeNumber 5 = .ok (.aload_n 0, 1) := by decide +kernel
theorem dX4_takeNumber_6 : decode cX4_takeNumber 6 = .ok (.getfield 14, 3) := by decide +kernel
theorem dX4_takeNumber_9 : decode cX4_takeNumber 9 = .ok (.iload_n 2, 1) := by decide +kernel
theorem dX4_takeNumber_10 : decode cX4_takeNumber 10 = .ok (.invokevirtual 43, 3) := by decide +kernel
theorem dX4_takeNumber_13 : decode cX4_takeNumber 13 = .ok (.bipush 45, 2) := by decide +kernel
theorem dX4_takeNumber_15 : decode cX4_takeNumber 15 = .ok (.if_icmp .ne 7, 3) := by decide +kernel
theorem dX4_takeNumber_18 : decode cX4_takeNumber 18 = .ok (.iconst 1, 1) := by decide +kernel
theorem dX4_takeNumber_19 : decode cX4_takeNumber 19 = .ok (.goto 4, 3) := by decide +kernel
theorem dX4_takeNumber_22 : decode cX4_takeNumber 22 = .ok (.iconst 0, 1) := by decide +kernel
theorem dX4_takeNumber_23 : decode cX4_takeNumber 23 = .ok (.istore_n 3, 1) := by decide +kernel
theorem dX4_takeNumber_24 : decode cX4_takeNumber 24 = .ok (.iload_n 3, 1) := by decide +kernel
theorem dX4_takeNumber_25 : decode cX4_takeNumber 25 = .ok (.ifCond .eq 9, 3) := by decide +kernel
theorem dX4_takeNumber_28 : decode cX4_takeNumber 28 = .ok (.iload_n 2, 1) := by decide +kernel
theorem dX4_takeNumber_29 : decode cX4_takeNumber 29 = .ok (.iconst 1, 1) := by decide +kernel
theorem dX4_takeNumber_30 : decode cX4_takeNumber 30 = .ok (.iadd, 1) := by decide +kernel
theorem dX4_takeNumber_31 : decode cX4_takeNumber 31 = .ok (.goto 4, 3) := by decide +kernel
theorem dX4_takeNumber_34 : decode cX4_takeNumber 34 = .ok (.iload_n 2, 1) := by decide +kernel
theorem dX4_takeNumber_35 : decode cX4_takeNumber 35 = .ok (.istore 4, 2) := by decide +kernel
theorem dX4_takeNumber_37 : decode cX4_takeNumber 37 = .ok (.aload_n 1, 1) := by decide +kernel
theorem dX4_takeNumber_38 : decode cX4_takeNumber 38 = .ok (.aload_n 0, 1) := by decide +kernel
theorem dX4_takeNumber_39 : decode cX4_takeNumber 39 = .ok (.getfield 14, 3) := by decide +kernel
theorem dX4_takeNumber_42 : decode cX4_takeNumber 42 = .ok (.iload 4, 2) := by decide +kernel
theorem dX4_takeNumber_44 : decode cX4_takeNumber 44 = .ok (.aload_n 0, 1) := by decide +kernel
theorem dX4_takeNumber_45 : decode cX4_takeNumber 45 = .ok (.iload 4, 2) := by decide +kernel
theorem dX4_takeNumber_47 : decode cX4_takeNumber 47 = .ok (.aload_n 0, 1) := by decide +kernel
theorem dX4_takeNumber_48 : decode cX4_takeNumber 48 = .ok (.getfield 14, 3) := by decide +kernel
theorem dX4_takeNumber_51 : decode cX4_takeNumber 51 = .ok (.invokevirtual 28, 3) := by decide +kernel
theorem dX4_takeNumber_54 : decode cX4_takeNumber 54 = .ok (.invokevirtual 94, 3) := by decide +kernel
theorem dX4_takeNumber_57 : decode cX4_takeNumber 57 = .ok (.invokevirtual 109, 3) := by decide +kernel
theorem dX4_takeNumber_60 : decode cX4_takeNumber 60 = .ok (.iload_n 3, 1) := by decide +kernel
theorem dX4_takeNumber_61 : decode cX4_takeNumber 61 = .ok (.ifCond .eq 7, 3) := by decide +kernel
theorem dX4_takeNumber_64 : decode cX4_takeNumber 64 = .ok (.aload_n 1, 1) := by decide +kernel
theorem dX4_takeNumber_65 : decode cX4_takeNumber 65 = .ok (.invokevirtual 115, 3) := by decide +kernel
theorem dX4_takeNumber_68 : decode cX4_takeNumber 68 = .ok (.aload_n 0, 1) := by decide +kernel
theorem dX4_takeNumber_69 : decode cX4_takeNumber 69 = .ok (.dup, 1) := by decide +kernel
theorem dX4_takeNumber_70 : decode cX4_takeNumber 70 = .ok (.getfield 40, 3) := by decide +kernel
theorem dX4_takeNumber_73 : decode cX4_takeNumber 73 = .ok (.iconst 1, 1) := by decide +kernel
theorem dX4_takeNumber_74 : decode cX4_takeNumber 74 = .ok (.iadd, 1) := by decide +kernel
theorem dX4_takeNumber_75 : decode cX4_takeNumber 75 = .ok (.putfield 40, 3) := by decide +kernel
theorem dX4_takeNumber_78 : decode cX4_takeNumber 78 = .ok (.return_, 1) := by decide +kernel
theorem dX4_word_0 : decode cX4_word 0 = .ok (.iload_n 0, 1) := by decide +kernel
theorem dX4_word_1 : decode cX4_word 1 = .ok (.tableswitch 71 7 14 #[47, 50, 53, 56, 59, 62, 65, 68], 47) := by decide +kernel
theorem dX4_word_48 : decode cX4_word 48 = .ok (.ldc 70, 2) := by decide +kernel
theorem dX4_word_50 : decode cX4_word 50 = .ok (.areturn, 1) := by decide +kernel
theorem dX4_word_51 : decode cX4_word 51 = .ok (.ldc 72, 2) := by decide +kernel
theorem dX4_word_53 : decode cX4_word 53 = .ok (.areturn, 1) := by decide +kernel
theorem dX4_word_54 : decode cX4_word 54 = .ok (.ldc 74, 2) := by decide +kernel
theorem dX4_word_56 : decode cX4_word 56 = .ok (.areturn, 1) := by decide +kernel
theorem dX4_word_57 : decode cX4_word 57 = .ok (.ldc 76, 2) := by decide +kernel
theorem dX4_word_59 : decode cX4_word 59 = .ok (.areturn, 1) := by decide +kernel
theorem dX4_word_60 : decode cX4_word 60 = .ok (.ldc 77, 2) := by decide +kernel
theorem dX4_word_62 : decode cX4_word 62 = .ok (.areturn, 1) := by decide +kernel
theorem dX4_word_63 : decode cX4_word 63 = .ok (.ldc 79, 2) := by decide +kernel
theorem dX4_word_65 : decode cX4_word 65 = .ok (.areturn, 1) := by decide +kernel
theorem dX4_word_66 : decode cX4_word 66 = .ok (.ldc 81, 2) := by decide +kernel
theorem dX4_word_68 : decode cX4_word 68 = .ok (.areturn, 1) := by decide +kernel
theorem dX4_word_69 : decode cX4_word 69 = .ok (.ldc 83, 2) := by decide +kernel
theorem dX4_word_71 : decode cX4_word 71 = .ok (.areturn, 1) := by decide +kernel
theorem dX4_word_72 : decode cX4_word 72 = .ok (.ldc 85, 2) := by decide +kernel
theorem dX4_word_74 : decode cX4_word 74 = .ok (.areturn, 1) := by decide +kernel
theorem w_75 : Cond.selects RX4 yX4_scanOne yX4_scanOne ∈ tb := sel_5 (q := (yX4_scanOne, 4)) 11 (by decide +kernel)
theorem w_76 : Cond.selects RX4 yX4_scanWord yX4_scanWord ∈ tb := sel_5 (q := (yX4_scanWord, 4)) 12 (by decide +kernel)
theorem w_77 : Cond.selects RX4 yX4_isWord yX4_isWord ∈ tb := sel_5 (q := (yX4_isWord, 4)) 13 (by decide +kernel)
theorem w_78 : Cond.selects RX4 yX4_mark yX4_mark ∈ tb := sel_5 (q := (yX4_mark, 4)) 14 (by decide +kernel)
theorem w_79 : Cond.selects RX4 yX4_scanNumber yX4_scanNumber ∈ tb := sel_5 (q := (yX4_scanNumber, 4)) 15 (by decide +kernel)
theorem w_80 : Cond.selects RX4 yX4_behindDigits yX4_behindDigits ∈ tb := sel_6 (q := (yX4_behindDigits, 4)) 0 (by decide +kernel)
theorem w_81 : Cond.selects RX4 yX4_hasMoreThanNoughts yX4_hasMoreThanNoughts ∈ tb := sel_6 (q := (yX4_hasMoreThanNoughts, 4)) 1 (by decide +kernel)
theorem w_82 : Cond.selects RX4 yX4_pass yX4_pass ∈ tb := sel_6 (q := (yX4_pass, 4)) 2 (by decide +kernel)
theorem w_83 : Cond.selects RX4 yX4_passAbove yX4_passAbove ∈ tb := sel_6 (q := (yX4_passAbove, 4)) 3 (by decide +kernel)
theorem w_84 : Cond.selects RX4 yX4_passPoint yX4_passPoint ∈ tb := sel_6 (q := (yX4_passPoint, 4)) 4 (by decide +kernel)
theorem w_85 : Cond.selects RX4 yX4_passTree yX4_passTree ∈ tb := sel_6 (q := (yX4_passTree, 4)) 5 (by decide +kernel)
theorem w_86 : Cond.selects RX4 yX4_passPairs yX4_passPairs ∈ tb := sel_6 (q := (yX4_passPairs, 4)) 6 (by decide +kernel)
theorem w_216 : Cond.initialized RX4 ∈ tb := tbc_1 13 (by decide +kernel) rfl
theorem w_630 : Cond.fieldLink RX4 14 (TX4 0).1 (TX4 0).2.1 (TX4 0).2.2.1 ∈ tb := tbc_2 187 (by decide +kernel) rfl
theorem w_631 : Cond.fieldLink RX4 20 (TX4 1).1 (TX4 1).2.1 (TX4 1).2.2.1 ∈ tb := tbc_2 188 (by decide +kernel) rfl
theorem w_632 : Cond.fieldLink RX4 24 (TX4 2).1 (TX4 2).2.1 (TX4 2).2.2.1 ∈ tb := tbc_2 189 (by decide +kernel) rfl
theorem w_633 : Cond.fieldLink RX4 40 (TX4 3).1 (TX4 3).2.1 (TX4 3).2.2.1 ∈ tb := tbc_2 190 (by decide +kernel) rfl
theorem w_634 : u_lay RX4 TX4 0 ∈ tb := tbc_2 191 (by decide +kernel) rfl
theorem w_636 : u_lay RX4 TX4 1 ∈ tb := tbc_2 193 (by decide +kernel) rfl
theorem w_638 : u_lay RX4 TX4 2 ∈ tb := tbc_2 195 (by decide +kernel) rfl
theorem w_640 : u_lay RX4 TX4 3 ∈ tb := tbc_2 197 (by decide +kernel) rfl
theorem w_1756 : Cond.methodLink RX4 28 yX10_length ∈ tb := tbc_7 113 (by decide +kernel) rfl
theorem w_1757 : Cond.methodLink RX4 32 yX4_scanOne ∈ tb := tbc_7 114 (by decide +kernel) rfl
theorem w_1759 : Cond.instanceMethod yX4_scanOne ∈ tb := tbc_7 116 (by decide +kernel) rfl
theorem w_1760 : Cond.code yX4_scanOne cX4_scanOne 4 (some .int) ∈ tb := tbc_7 117 (by decide +kernel) rfl
theorem w_1761 : Cond.methodLink RX4 43 yX10_byteAt ∈ tb := tbc_7 118 (by decide +kernel) rfl
theorem w_1762 : Cond.methodLink RX4 47 yX8_isLetter ∈ tb := tbc_7 119 (by decide +kernel) rfl
theorem w_1763 : Cond.methodLink RX4 53 yX4_scanWord ∈ tb := tbc_7 120 (by decide +kernel) rfl
theorem w_1765 : Cond.instanceMethod yX4_scanWord ∈ tb := tbc_7 122 (by decide +kernel) rfl
theorem w_1766 : Cond.code yX4_scanWord cX4_scanWord 6 (some .int) ∈ tb := tbc_7 123 (by decide +kernel) rfl
theorem w_1767 : Cond.methodLink RX4 62 yX4_word ∈ tb := tbc_7 124 (by decide +kernel) rfl
theorem w_1768 : Cond.static yX4_word ∈ tb := tbc_7 125 (by decide +kernel) rfl
theorem w_1769 : Cond.code yX4_word cX4_word 1 (some (.object "java/lang/String")) ∈ tb := tbc_7 126 (by decide +kernel) rfl
theorem w_1779 : Cond.methodLink RX4 66 yX4_isWord ∈ tb := tbc_7 136 (by decide +kernel) rfl
theorem w_1781 : Cond.instanceMethod yX4_isWord ∈ tb := tbc_7 138 (by decide +kernel) rfl
theorem w_1782 : Cond.code yX4_isWord cX4_isWord 5 (some .boolean) ∈ tb := tbc_7 139 (by decide +kernel) rfl
theorem w_1783 : Cond.methodLink RX4 87 yJ0_length_8abf5 ∈ tb := tbc_7 140 (by decide +kernel) rfl
theorem w_1784 : Cond.methodLink RX4 90 yJ0_charAt_5068e ∈ tb := tbc_7 141 (by decide +kernel) rfl
theorem w_1785 : Cond.methodLink RX4 36 yX4_mark ∈ tb := tbc_7 142 (by decide +kernel) rfl
theorem w_1787 : Cond.instanceMethod yX4_mark ∈ tb := tbc_7 144 (by decide +kernel) rfl
theorem w_1788 : Cond.code yX4_mark cX4_mark 3 none ∈ tb := tbc_7 145 (by decide +kernel) rfl
theorem w_1789 : Cond.methodLink RX4 56 yX8_isDigit ∈ tb := tbc_7 146 (by decide +kernel) rfl
theorem w_1790 : Cond.methodLink RX4 59 yX4_scanNumber ∈ tb := tbc_7 147 (by decide +kernel) rfl
theorem w_1792 : Cond.instanceMethod yX4_scanNumber ∈ tb := tbc_7 149 (by decide +kernel) rfl
theorem w_1793 : Cond.code yX4_scanNumber cX4_scanNumber 7 (some .int) ∈ tb := tbc_7 150 (by decide +kernel) rfl
theorem w_1794 : Cond.methodLink RX4 94 yX4_behindDigits ∈ tb := tbc_7 151 (by decide +kernel) rfl
theorem w_1796 : Cond.instanceMethod yX4_behindDigits ∈ tb := tbc_7 153 (by decide +kernel) rfl
theorem w_1797 : Cond.code yX4_behindDigits cX4_behindDigits 4 (some .int) ∈ tb := tbc_7 154 (by decide +kernel) rfl
theorem w_1798 : Cond.methodLink RX4 97 yX4_hasMoreThanNoughts ∈ tb := tbc_7 155 (by decide +kernel) rfl
theorem w_1800 : Cond.instanceMethod yX4_hasMoreThanNoughts ∈ tb := tbc_7 157 (by decide +kernel) rfl
theorem w_1801 : Cond.code yX4_hasMoreThanNoughts cX4_hasMoreThanNoughts 4 (some .boolean) ∈ tb := tbc_7 158 (by decide +kernel) rfl
theorem w_1802 : Cond.methodLink RX4 101 Lib.Math.max.name ∈ tb := tbc_7 159 (by decide +kernel) rfl
theorem w_1807 : Cond.methodLink RX4 119 yX4_kind ∈ tb := tbc_7 164 (by decide +kernel) rfl
theorem w_1808 : Cond.instanceMethod yX4_kind ∈ tb := tbc_7 165 (by decide +kernel) rfl
theorem w_1809 : Cond.selects RX4 yX4_kind yX4_kind ∈ tb := tbc_7 166 (by decide +kernel) rfl
theorem w_1810 : Cond.code yX4_kind cX4_kind 1 (some .int) ∈ tb := tbc_7 167 (by decide +kernel) rfl
theorem w_1811 : Cond.methodLink RX4 122 yX4_pass ∈ tb := tbc_7 168 (by decide +kernel) rfl
theorem w_1813 : Cond.instanceMethod yX4_pass ∈ tb := tbc_7 170 (by decide +kernel) rfl
theorem w_1814 : Cond.code yX4_pass cX4_pass 2 (some .boolean) ∈ tb := tbc_7 171 (by decide +kernel) rfl
theorem w_1815 : Cond.methodLink RX4 125 yX4_passAbove ∈ tb := tbc_7 172 (by decide +kernel) rfl
theorem w_1817 : Cond.instanceMethod yX4_passAbove ∈ tb := tbc_7 174 (by decide +kernel) rfl
theorem w_1818 : Cond.code yX4_passAbove cX4_passAbove 3 (some .boolean) ∈ tb := tbc_7 175 (by decide +kernel) rfl
theorem w_1819 : Cond.methodLink RX4 106 yX4_start ∈ tb := tbc_7 176 (by decide +kernel) rfl
theorem w_1820 : Cond.instanceMethod yX4_start ∈ tb := tbc_7 177 (by decide +kernel) rfl
theorem w_1821 : Cond.selects RX4 yX4_start yX4_start ∈ tb := tbc_7 178 (by decide +kernel) rfl
theorem w_1822 : Cond.code yX4_start cX4_start 1 (some .int) ∈ tb := tbc_7 179 (by decide +kernel) rfl
theorem w_1823 : Cond.methodLink RX4 129 yX4_passPoint ∈ tb := tbc_7 180 (by decide +kernel) rfl
theorem w_1825 : Cond.instanceMethod yX4_passPoint ∈ tb := tbc_7 182 (by decide +kernel) rfl
theorem w_1826 : Cond.code yX4_passPoint cX4_passPoint 3 (some .boolean) ∈ tb := tbc_7 183 (by decide +kernel) rfl
theorem w_1827 : Cond.methodLink RX4 132 yX4_passTree ∈ tb := tbc_7 184 (by decide +kernel) rfl
theorem w_1829 : Cond.instanceMethod yX4_passTree ∈ tb := tbc_7 186 (by decide +kernel) rfl
theorem w_1830 : Cond.code yX4_passTree cX4_passTree 4 (some .boolean) ∈ tb := tbc_7 187 (by decide +kernel) rfl
theorem w_1831 : Cond.methodLink RX4 135 yX4_passPairs ∈ tb := tbc_7 188 (by decide +kernel) rfl
theorem w_1833 : Cond.instanceMethod yX4_passPairs ∈ tb := tbc_7 190 (by decide +kernel) rfl
theorem w_1834 : Cond.code yX4_passPairs cX4_passPairs 2 (some .boolean) ∈ tb := tbc_7 191 (by decide +kernel) rfl
theorem w_1862 : Cond.methodLink RX4 109 yX0_read ∈ tb := tbc_7 219 (by decide +kernel) rfl
theorem w_1863 : Cond.instanceMethod yX0_read ∈ tb := tbc_7 220 (by decide +kernel) rfl
theorem w_1864 : Cond.selects RX0 yX0_read yX0_read ∈ tb := tbc_7 221 (by decide +kernel) rfl
theorem w_1865 : Cond.code yX0_read cX0_read 8 none ∈ tb := tbc_7 222 (by decide +kernel) rfl
theorem w_1867 : Cond.methodLink RX4 115 yX0_turn ∈ tb := tbc_7 224 (by decide +kernel) rfl
theorem w_1917 : Cond.constant RX4 118 (iv 1000000) ∈ tb := tbc_8 34 (by decide +kernel) rfl
theorem inX4 : ∀ w ∈ u_ws RX4 TX4 4, w ∈ tb := by
  show ∀ w ∈ [u_lay RX4 TX4 0, u_lay RX4 TX4 1, u_lay RX4 TX4 2, u_lay RX4 TX4 3], w ∈ tb
  exact List.forall_mem_cons.mpr ⟨w_634, List.forall_mem_cons.mpr ⟨w_636, List.forall_mem_cons.mpr ⟨w_638, List.forall_mem_cons.mpr ⟨w_640, fun _ h => absurd h List.not_mem_nil⟩⟩⟩⟩
section RW44
variable {p : Program} {l : Launch} {e : Env} {R : Room} {s : State} {m : MethodId} {args : Array Value} {below : List Frame} {meth : Method} {c : Code} {H : Heap} {locs : List Loc} {cells slots : Nat} {Q : State → Prop}
variable {cc : ByteArray} {pc nL : Nat} {ls : Array Slot} {rest st0 : List Value} {G : sG} {n : Nat} {S : sS}
theorem g_X4_40 (Cx : sC G p m c cc nL s args RX4) (hW : sW G n S H) {k : Nat} (hk : k < n) (ht : tau k = .inl 4) {v : Int} (hv : S.1 k 3 = v) (hdg : decode cc pc = .ok (.getfield 40, 3)) (kk : W p l e R s m args below meth c H locs cells slots Q (F0 m (pc + 3) ls (.int (iv v) :: rest))) : W p l e R s m args below meth c H locs cells slots Q (F0 m pc ls (.ref (G.2.2.1 + k) :: rest)) :=
  sGet Cx inX4 rfl 3 (by decide) w_633 hW hk ht (congrArg (fun z => Value.int (iv z)) hv) hdg kk
theorem g_X4_24 (Cx : sC G p m c cc nL s args RX4) (hW : sW G n S H) {k : Nat} (hk : k < n) (ht : tau k = .inl 4) {v : Int} (hv : S.1 k 2 = v) (hdg : decode cc pc = .ok (.getfield 24, 3)) (kk : W p l e R s m args below meth c H locs cells slots Q (F0 m (pc + 3) ls (.int (iv v) :: rest))) : W p l e R s m args below meth c H locs cells slots Q (F0 m pc ls (.ref (G.2.2.1 + k) :: rest)) :=
  sGet Cx inX4 rfl 2 (by decide) w_632 hW hk ht (congrArg (fun z => Value.int (iv z)) hv) hdg kk
theorem g_X4_20 (Cx : sC G p m c cc nL s args RX4) (hW : sW G n S H) {k : Nat} (hk : k < n) (ht : tau k = .inl 4) {v : Value} (hv : S.2.2.2 k 1 = v) (hdg : decode cc pc = .ok (.getfield 20, 3)) (kk : W p l e R s m args below meth c H locs cells slots Q (F0 m (pc + 3) ls (v :: rest))) : W p l e R s m args below meth c H locs cells slots Q (F0 m pc ls (.ref (G.2.2.1 + k) :: rest)) :=
  sGet Cx inX4 rfl 1 (by decide) w_631 hW hk ht hv hdg kk
theorem p_X4_40 (Cx : sC G p m c cc nL s args RX4) (hW : sW G n S H) (hL : sL G locs) {k : Nat} (hk : k < n) (ht : tau k = .inl 4) {v : Int} (hdg : decode cc pc = .ok (.putfield 40, 3)) (kk : ∀ (H1 : Heap) (locs1 : List Loc), sW G n (uF S k 3 v) H1 → sL G locs1 → W p l e R s m args below meth c H1 locs1 cells slots Q (F0 m (pc + 3) ls rest)) : W p l e R s m args below meth c H locs cells slots Q (F0 m pc ls (.int (iv v) :: .ref (G.2.2.1 + k) :: rest)) :=
  sPut Cx inX4 tyX4 tyX4_ok nmX4 rfl 3 (by decide) w_633 rfl hW hL hk ht rfl rfl (fun _ h => uF_same h) (fun _ h => uF_off h) (congrArg (fun z => Value.int (iv z)) uF_on) hdg kk
theorem p_X4_24 (Cx : sC G p m c cc nL s args RX4) (hW : sW G n S H) (hL : sL G locs) {k : Nat} (hk : k < n) (ht : tau k = .inl 4) {v : Int} (hdg : decode cc pc = .ok (.putfield 24, 3)) (kk : ∀ (H1 : Heap) (locs1 : List Loc), sW G n (uF S k 2 v) H1 → sL G locs1 → W p l e R s m args below meth c H1 locs1 cells slots Q (F0 m (pc + 3) ls rest)) : W p l e R s m args below meth c H locs cells slots Q (F0 m pc ls (.int (iv v) :: .ref (G.2.2.1 + k) :: rest)) :=
  sPut Cx inX4 tyX4 tyX4_ok nmX4 rfl 2 (by decide) w_632 rfl hW hL hk ht rfl rfl (fun _ h => uF_same h) (fun _ h => uF_off h) (congrArg (fun z => Value.int (iv z)) uF_on) hdg kk
theorem g_X4_14 (Cx : sC G p m c cc nL s args RX4) (hW : sW G n S H) {k : Nat} (hk : k < n) (ht : tau k = .inl 4) {v : Value} (hv : S.2.2.2 k 0 = v) (hdg : decode cc pc = .ok (.getfield 14, 3)) (kk : W p l e R s m args below meth c H locs cells slots Q (F0 m (pc + 3) ls (v :: rest))) : W p l e R s m args below meth c H locs cells slots Q (F0 m pc ls (.ref (G.2.2.1 + k) :: rest)) :=
  sGet Cx inX4 rfl 0 (by decide) w_630 hW hk ht hv hdg kk
theorem c_X4_43 (Cx : sC G p m c cc nL s args RX4) {rm : Room} {mc ms : Nat} (h1 : rm.cells = mc) (h2 : rm.slots = ms) (h3 : rm.frames + 1 ≤ R.frames ∧ 8 + (2 + 11) + rm.locals ≤ R.locals) : CallW R s args RX4 RX10 43 yX10_byteAt cX10_byteAt 2 (some .int) (.code yX10_byteAt cX10_byteAt 2 (some .int) :: tb) rm mc ms 1 :=
  sCw Cx 1 w_1761 w_784 w_785 w_205 w_786 (by decide +kernel) h1 h2 h3
theorem c_X4_56 (Cx : sC G p m c cc nL s args RX4) {rm : Room} {mc ms : Nat} (h1 : rm.cells = mc) (h2 : rm.slots = ms) (h3 : rm.frames + 1 ≤ R.frames ∧ 8 + (1 + 11) + rm.locals ≤ R.locals) : CallB R s args RX4 56 yX8_isDigit cX8_isDigit 1 (some .boolean) (.code yX8_isDigit cX8_isDigit 1 (some .boolean) :: tb) rm mc ms 1 ∧ (Cond.static yX8_isDigit).before args s = true :=
  sCS Cx 1 w_1789 w_798 w_209 w_799 (by decide +kernel) h1 h2 h3
theorem c_X4_87 (Cx : sC G p m c cc nL s args RX4) {rm : Room} {mc ms : Nat} (h1 : rm.cells = mc) (h2 : rm.slots = ms) (h3 : rm.frames + 1 ≤ R.frames ∧ 8 + (1 + 11) + rm.locals ≤ R.locals) : CallW R s args RX4 RJ0 87 yJ0_length_8abf5 cJ0_length_8abf5 1 (some .int) (.code yJ0_length_8abf5 cJ0_length_8abf5 1 (some .int) :: tb) rm mc ms 0 :=
  sCw Cx 0 w_1783 w_826 w_827 w_218 w_828 (by decide +kernel) h1 h2 h3
theorem c_X4_90 (Cx : sC G p m c cc nL s args RX4) {rm : Room} {mc ms : Nat} (h1 : rm.cells = mc) (h2 : rm.slots = ms) (h3 : rm.frames + 1 ≤ R.frames ∧ 8 + (2 + 11) + rm.locals ≤ R.locals) : CallW R s args RX4 RJ0 90 yJ0_charAt_5068e cJ0_charAt_5068e 2 (some .char) (.code yJ0_charAt_5068e cJ0_charAt_5068e 2 (some .char) :: tb) rm mc ms 1 :=
  sCw Cx 1 w_1784 w_1416 w_1417 w_218 w_1418 (by decide +kernel) h1 h2 h3
theorem c_X4_94 (Cx : sC G p m c cc nL s args RX4) {rm : Room} {mc ms : Nat} (h1 : rm.cells = mc) (h2 : rm.slots = ms) (h3 : rm.frames + 1 ≤ R.frames ∧ 8 + (4 + 11) + rm.locals ≤ R.locals) : CallW R s args RX4 RX4 94 yX4_behindDigits cX4_behindDigits 4 (some .int) (.code yX4_behindDigits cX4_behindDigits 4 (some .int) :: tb) rm mc ms 2 :=
  sCw Cx 2 w_1794 w_1796 w_80 w_216 w_1797 (by decide +kernel) h1 h2 h3
theorem c_X4_36 (Cx : sC G p m c cc nL s args RX4) {rm : Room} {mc ms : Nat} (h1 : rm.cells = mc) (h2 : rm.slots = ms) (h3 : rm.frames + 1 ≤ R.frames ∧ 8 + (3 + 11) + rm.locals ≤ R.locals) : CallW R s args RX4 RX4 36 yX4_mark cX4_mark 3 none (.code yX4_mark cX4_mark 3 none :: tb) rm mc ms 2 :=
  sCw Cx 2 w_1785 w_1787 w_78 w_216 w_1788 (by decide +kernel) h1 h2 h3
theorem c_X4_97 (Cx : sC G p m c cc nL s args RX4) {rm : Room} {mc ms : Nat} (h1 : rm.cells = mc) (h2 : rm.slots = ms) (h3 : rm.frames + 1 ≤ R.frames ∧ 8 + (4 + 11) + rm.locals ≤ R.locals) : CallW R s args RX4 RX4 97 yX4_hasMoreThanNoughts cX4_hasMoreThanNoughts 4 (some .boolean) (.code yX4_hasMoreThanNoughts cX4_hasMoreThanNoughts 4 (some .boolean) :: tb) rm mc ms 2 :=
  sCw Cx 2 w_1798 w_1800 w_81 w_216 w_1801 (by decide +kernel) h1 h2 h3
theorem c_X4_62 (Cx : sC G p m c cc nL s args RX4) {rm : Room} {mc ms : Nat} (h1 : rm.cells = mc) (h2 : rm.slots = ms) (h3 : rm.frames + 1 ≤ R.frames ∧ 8 + (1 + 11) + rm.locals ≤ R.locals) : CallB R s args RX4 62 yX4_word cX4_word 1 (some (.object "java/lang/String")) (.code yX4_word cX4_word 1 (some (.object "java/lang/String")) :: tb) rm mc ms 1 ∧ (Cond.static yX4_word).before args s = true :=
  sCS Cx 1 w_1767 w_1768 w_216 w_1769 (by decide +kernel) h1 h2 h3
theorem c_X4_66 (Cx : sC G p m c cc nL s args RX4) {rm : Room} {mc ms : Nat} (h1 : rm.cells = mc) (h2 : rm.slots = ms) (h3 : rm.frames + 1 ≤ R.frames ∧ 8 + (5 + 11) + rm.locals ≤ R.locals) : CallW R s args RX4 RX4 66 yX4_isWord cX4_isWord 5 (some .boolean) (.code yX4_isWord cX4_isWord 5 (some .boolean) :: tb) rm mc ms 3 :=
  sCw Cx 3 w_1779 w_1781 w_77 w_216 w_1782 (by decide +kernel) h1 h2 h3
theorem c_X4_47 (Cx : sC G p m c cc nL s args RX4) {rm : Room} {mc ms : Nat} (h1 : rm.cells = mc) (h2 : rm.slots = ms) (h3 : rm.frames + 1 ≤ R.frames ∧ 8 + (1 + 11) + rm.locals ≤ R.locals) : CallB R s args RX4 47 yX8_isLetter cX8_isLetter 1 (some .boolean) (.code yX8_isLetter cX8_isLetter 1 (some .boolean) :: tb) rm mc ms 1 ∧ (Cond.static yX8_isLetter).before args s = true :=
  sCS Cx 1 w_1762 w_788 w_209 w_789 (by decide +kernel) h1 h2 h3
theorem c_X4_59 (Cx : sC G p m c cc nL s args RX4) {rm : Room} {mc ms : Nat} (h1 : rm.cells = mc) (h2 : rm.slots = ms) (h3 : rm.frames + 1 ≤ R.frames ∧ 8 + (7 + 11) + rm.locals ≤ R.locals) : CallW R s args RX4 RX4 59 yX4_scanNumber cX4_scanNumber 7 (some .int) (.code yX4_scanNumber cX4_scanNumber 7 (some .int) :: tb) rm mc ms 2 :=
  sCw Cx 2 w_1790 w_1792 w_79 w_216 w_1793 (by decide +kernel) h1 h2 h3
theorem c_X4_53 (Cx : sC G p m c cc nL s args RX4) {rm : Room} {mc ms : Nat} (h1 : rm.cells = mc) (h2 : rm.slots = ms) (h3 : rm.frames + 1 ≤ R.frames ∧ 8 + (6 + 11) + rm.locals ≤ R.locals) : CallW R s args RX4 RX4 53 yX4_scanWord cX4_scanWord 6 (some .int) (.code yX4_scanWord cX4_scanWord 6 (some .int) :: tb) rm mc ms 2 :=
  sCw Cx 2 w_1763 w_1765 w_76 w_216 w_1766 (by decide +kernel) h1 h2 h3
theorem p_X4_14 (Cx : sC G p m c cc nL s args RX4) (hW : sW G n S H) (hL : sL G locs) {k : Nat} (hk : k < n) (ht : tau k = .inl 4) {v : Nat} (hdg : decode cc pc = .ok (.putfield 14, 3)) (kk : ∀ (H1 : Heap) (locs1 : List Loc), sW G n (uR S k 0 (.ref v)) H1 → sL G locs1 → W p l e R s m args below meth c H1 locs1 cells slots Q (F0 m (pc + 3) ls rest)) : W p l e R s m args below meth c H locs cells slots Q (F0 m pc ls (.ref v :: .ref (G.2.2.1 + k) :: rest)) :=
  sPut Cx inX4 tyX4 tyX4_ok nmX4 rfl 0 (by decide) w_630 rfl hW hL hk ht rfl rfl (fun _ h => uR_same h) (fun _ h => uR_off h) uR_on hdg kk
theorem c_X4_28 (Cx : sC G p m c cc nL s args RX4) {rm : Room} {mc ms : Nat} (h1 : rm.cells = mc) (h2 : rm.slots = ms) (h3 : rm.frames + 1 ≤ R.frames ∧ 8 + (1 + 11) + rm.locals ≤ R.locals) : CallW R s args RX4 RX10 28 yX10_length cX10_length 1 (some .int) (.code yX10_length cX10_length 1 (some .int) :: tb) rm mc ms 0 :=
  sCw Cx 0 w_1756 w_743 w_744 w_205 w_745 (by decide +kernel) h1 h2 h3
theorem c_X4_32 (Cx : sC G p m c cc nL s args RX4) {rm : Room} {mc ms : Nat} (h1 : rm.cells = mc) (h2 : rm.slots = ms) (h3 : rm.frames + 1 ≤ R.frames ∧ 8 + (4 + 11) + rm.locals ≤ R.locals) : CallW R s args RX4 RX4 32 yX4_scanOne cX4_scanOne 4 (some .int) (.code yX4_scanOne cX4_scanOne 4 (some .int) :: tb) rm mc ms 2 :=
  sCw Cx 2 w_1757 w_1759 w_75 w_216 w_1760 (by decide +kernel) h1 h2 h3
theorem c_X4_119 (Cx : sC G p m c cc nL s args RX4) {rm : Room} {mc ms : Nat} (h1 : rm.cells = mc) (h2 : rm.slots = ms) (h3 : rm.frames + 1 ≤ R.frames ∧ 8 + (1 + 11) + rm.locals ≤ R.locals) : CallW R s args RX4 RX4 119 yX4_kind cX4_kind 1 (some .int) (.code yX4_kind cX4_kind 1 (some .int) :: tb) rm mc ms 0 :=
  sCw Cx 0 w_1807 w_1808 w_1809 w_216 w_1810 (by decide +kernel) h1 h2 h3
theorem c_X4_106 (Cx : sC G p m c cc nL s args RX4) {rm : Room} {mc ms : Nat} (h1 : rm.cells = mc) (h2 : rm.slots = ms) (h3 : rm.frames + 1 ≤ R.frames ∧ 8 + (1 + 11) + rm.locals ≤ R.locals) : CallW R s args RX4 RX4 106 yX4_start cX4_start 1 (some .int) (.code yX4_start cX4_start 1 (some .int) :: tb) rm mc ms 0 :=
  sCw Cx 0 w_1819 w_1820 w_1821 w_216 w_1822 (by decide +kernel) h1 h2 h3
theorem c_X4_122 (Cx : sC G p m c cc nL s args RX4) {rm : Room} {mc ms : Nat} (h1 : rm.cells = mc) (h2 : rm.slots = ms) (h3 : rm.frames + 1 ≤ R.frames ∧ 8 + (2 + 11) + rm.locals ≤ R.locals) : CallW R s args RX4 RX4 122 yX4_pass cX4_pass 2 (some .boolean) (.code yX4_pass cX4_pass 2 (some .boolean) :: tb) rm mc ms 1 :=
  sCw Cx 1 w_1811 w_1813 w_82 w_216 w_1814 (by decide +kernel) h1 h2 h3
theorem c_X4_125 (Cx : sC G p m c cc nL s args RX4) {rm : Room} {mc ms : Nat} (h1 : rm.cells = mc) (h2 : rm.slots = ms) (h3 : rm.frames + 1 ≤ R.frames ∧ 8 + (3 + 11) + rm.locals ≤ R.locals) : CallW R s args RX4 RX4 125 yX4_passAbove cX4_passAbove 3 (some .boolean) (.code yX4_passAbove cX4_passAbove 3 (some .boolean) :: tb) rm mc ms 0 :=
  sCw Cx 0 w_1815 w_1817 w_83 w_216 w_1818 (by decide +kernel) h1 h2 h3
theorem c_X4_135 (Cx : sC G p m c cc nL s args RX4) {rm : Room} {mc ms : Nat} (h1 : rm.cells = mc) (h2 : rm.slots = ms) (h3 : rm.frames + 1 ≤ R.frames ∧ 8 + (2 + 11) + rm.locals ≤ R.locals) : CallW R s args RX4 RX4 135 yX4_passPairs cX4_passPairs 2 (some .boolean) (.code yX4_passPairs cX4_passPairs 2 (some .boolean) :: tb) rm mc ms 0 :=
  sCw Cx 0 w_1831 w_1833 w_86 w_216 w_1834 (by decide +kernel) h1 h2 h3
theorem c_X4_132 (Cx : sC G p m c cc nL s args RX4) {rm : Room} {mc ms : Nat} (h1 : rm.cells = mc) (h2 : rm.slots = ms) (h3 : rm.frames + 1 ≤ R.frames ∧ 8 + (4 + 11) + rm.locals ≤ R.locals) : CallW R s args RX4 RX4 132 yX4_passTree cX4_passTree 4 (some .boolean) (.code yX4_passTree cX4_passTree 4 (some .boolean) :: tb) rm mc ms 0 :=
  sCw Cx 0 w_1827 w_1829 w_85 w_216 w_1830 (by decide +kernel) h1 h2 h3
theorem c_X4_129 (Cx : sC G p m c cc nL s args RX4) {rm : Room} {mc ms : Nat} (h1 : rm.cells = mc) (h2 : rm.slots = ms) (h3 : rm.frames + 1 ≤ R.frames ∧ 8 + (3 + 11) + rm.locals ≤ R.locals) : CallW R s args RX4 RX4 129 yX4_passPoint cX4_passPoint 3 (some .boolean) (.code yX4_passPoint cX4_passPoint 3 (some .boolean) :: tb) rm mc ms 1 :=
  sCw Cx 1 w_1823 w_1825 w_84 w_216 w_1826 (by decide +kernel) h1 h2 h3
theorem c_X4_109 (Cx : sC G p m c cc nL s args RX4) {rm : Room} {mc ms : Nat} (h1 : rm.cells = mc) (h2 : rm.slots = ms) (h3 : rm.frames + 1 ≤ R.frames ∧ 8 + (8 + 11) + rm.locals ≤ R.locals) : CallW R s args RX4 RX0 109 yX0_read cX0_read 8 none (.code yX0_read cX0_read 8 none :: tb) rm mc ms 3 :=
  sCw Cx 3 w_1862 w_1863 w_1864 w_212 w_1865 (by decide +kernel) h1 h2 h3
theorem c_X4_115 (Cx : sC G p m c cc nL s args RX4) {rm : Room} {mc ms : Nat} (h1 : rm.cells = mc) (h2 : rm.slots = ms) (h3 : rm.frames + 1 ≤ R.frames ∧ 8 + (1 + 11) + rm.locals ≤ R.locals) : CallW R s args RX4 RX0 115 yX0_turn cX0_turn 1 none (.code yX0_turn cX0_turn 1 none :: tb) rm mc ms 0 :=
  sCw Cx 0 w_1867 w_1326 w_1327 w_212 w_1328 (by decide +kernel) h1 h2 h3
end RW44
