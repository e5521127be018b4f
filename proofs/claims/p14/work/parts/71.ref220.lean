theorem dX12_indexRead_0 : decode cX12_indexRead 0 = .ok (.aload_n 0, 1) := by decide +kernel
theorem dX12_indexRead_1 : decode cX12_indexRead 1 = .ok (.getfield 270, 3) := by decide +kernel
theorem dX12_indexRead_4 : decode cX12_indexRead 4 = .ok (.ifCond .eq 4, 3) := by decide +kernel
theorem dX12_indexRead_7 : decode cX12_indexRead 7 = .ok (.return_, 1) := by decide +kernel
theorem dX12_indexRead_8 : decode cX12_indexRead 8 = .ok (.aload_n 0, 1) := by decide +kernel
theorem dX12_indexRead_9 : decode cX12_indexRead 9 = .ok (.getfield 47, 3) := by decide +kernel
theorem dX12_indexRead_12 : decode cX12_indexRead 12 = .ok (.aload_n 0, 1) := by decide +kernel
theorem dX12_indexRead_13 : decode cX12_indexRead 13 = .ok (.getfield 315, 3) := by decide +kernel
theorem dX12_indexRead_16 : decode cX12_indexRead 16 = .ok (.iaload, 1) := by decide +kernel
theorem dX12_indexRead_17 : decode cX12_indexRead 17 = .ok (.iconst 2, 1) := by decide +kernel
theorem dX12_indexRead_18 : decode cX12_indexRead 18 = .ok (.if_icmp .ne 14, 3) := by decide +kernel
theorem dX12_indexRead_21 : decode cX12_indexRead 21 = .ok (.aload_n 0, 1) := by decide +kernel
theorem dX12_indexRead_22 : decode cX12_indexRead 22 = .ok (.dup, 1) := by decide +kernel
theorem dX12_indexRead_23 : decode cX12_indexRead 23 = .ok (.getfield 315, 3) := by decide +kernel
theorem dX12_indexRead_26 : decode cX12_indexRead 26 = .ok (.iconst 1, 1) := by decide +kernel
theorem dX12_indexRead_27 : decode cX12_indexRead 27 = .ok (.iadd, 1) := by decide +kernel
theorem dX12_indexRead_28 : decode cX12_indexRead 28 = .ok (.putfield 315, 3) := by decide +kernel
theorem dX12_indexRead_31 : decode cX12_indexRead 31 = .ok (.return_, 1) := by decide +kernel
theorem dX12_indexRead_32 : decode cX12_indexRead 32 = .ok (.aload_n 0, 1) := by decide +kernel
theorem dX12_indexRead_33 : decode cX12_indexRead 33 = .ok (.iconst 1, 1) := by decide +kernel
theorem dX12_indexRead_34 : decode cX12_indexRead 34 = .ok (.invokevirtual 328, 3) := by decide +kernel
theorem dX12_indexRead_37 : decode cX12_indexRead 37 = .ok (.aload_n 0, 1) := by decide +kernel
theorem dX12_indexRead_38 : decode cX12_indexRead 38 = .ok (.getfield 270, 3) := by decide +kernel
theorem dX12_indexRead_41 : decode cX12_indexRead 41 = .ok (.ifCond .ne 36, 3) := by decide +kernel
theorem dX12_indexRead_44 : decode cX12_indexRead 44 = .ok (.aload_n 0, 1) := by decide +kernel
theorem dX12_indexRead_45 : decode cX12_indexRead 45 = .ok (.bipush 43, 2) := by decide +kernel
theorem dX12_indexRead_47 : decode cX12_indexRead 47 = .ok (.invokevirtual 318, 3) := by decide +kernel
theorem dX12_indexRead_50 : decode cX12_indexRead 50 = .ok (.ifCond .ne 12, 3) := by decide +kernel
theorem dX12_indexRead_53 : decode cX12_indexRead 53 = .ok (.aload_n 0, 1) := by decide +kernel
theorem dX12_indexRead_54 : decode cX12_indexRead 54 = .ok (.bipush 45, 2) := by decide +kernel
theorem dX12_indexRead_56 : decode cX12_indexRead 56 = .ok (.invokevirtual 318, 3) := by decide +kernel
theorem dX12_indexRead_59 : decode cX12_indexRead 59 = .ok (.ifCond .eq 18, 3) := by decide +kernel
theorem dX12_indexRead_62 : decode cX12_indexRead 62 = .ok (.aload_n 0, 1) := by decide +kernel
theorem dX12_indexRead_63 : decode cX12_indexRead 63 = .ok (.dup, 1) := by decide +kernel
theorem dX12_indexRead_64 : decode cX12_indexRead 64 = .ok (.getfield 315, 3) := by decide +kernel
theorem dX12_indexRead_67 : decode cX12_indexRead 67 = .ok (.iconst 1, 1) := by decide +kernel
theorem dX12_indexRead_68 : decode cX12_indexRead 68 = .ok (.iadd, 1) := by decide +kernel
theorem dX12_indexRead_69 : decode cX12_indexRead 69 = .ok (.putfield 315, 3) := by decide +kernel
theorem dX12_indexRead_72 : decode cX12_indexRead 72 = .ok (.aload_n 0, 1) := by decide +kernel
theorem dX12_indexRead_73 : decode cX12_indexRead 73 = .ok (.iconst 2, 1) := by decide +kernel
theorem dX12_indexRead_74 : decode cX12_indexRead 74 = .ok (.invokevirtual 328, 3) := by decide +kernel
theorem dX12_indexRead_77 : decode cX12_indexRead 77 = .ok (.return_, 1) := by decide +kernel
theorem dX12_indexes_0 : decode cX12_indexes 0 = .ok (.aload_n 0, 1) := by decide +kernel
theorem dX12_indexes_1 : decode cX12_indexes 1 = .ok (.getfield 270, 3) := by decide +kernel
theorem dX12_indexes_4 : decode cX12_indexes 4 = .ok (.ifCond .ne 12, 3) := by decide +kernel
theorem dX12_indexes_7 : decode cX12_indexes 7 = .ok (.aload_n 0, 1) := by decide +kernel
theorem dX12_indexes_8 : decode cX12_indexes 8 = .ok (.bipush 91, 2) := by decide +kernel
theorem dX12_indexes_10 : decode cX12_indexes 10 = .ok (.invokevirtual 318, 3) := by decide +kernel
theorem dX12_indexes_13 : decode cX12_indexes 13 = .ok (.ifCond .ne 4, 3) := by decide +kernel
theorem dX12_indexes_16 : decode cX12_indexes 16 = .ok (.return_, 1) := by decide +kernel
theorem dX12_indexes_17 : decode cX12_indexes 17 = .ok (.aload_n 0, 1) := by decide +kernel
theorem dX12_indexes_18 : decode cX12_indexes 18 = .ok (.dup, 1) := by decide +kernel
theorem dX12_indexes_19 : decode cX12_indexes 19 = .ok (.getfield 315, 3) := by decide +kernel
theorem dX12_indexes_22 : decode cX12_indexes 22 = .ok (.iconst 1, 1) := by decide +kernel
theorem dX12_indexes_23 : decode cX12_indexes 23 = .ok (.iadd, 1) := by decide +kernel
theorem dX12_indexes_24 : decode cX12_indexes 24 = .ok (.putfield 315, 3) := by decide +kernel
theorem dX12_indexes_27 : decode cX12_indexes 27 = .ok (.aload_n 0, 1) := by decide +kernel
theorem dX12_indexes_28 : decode cX12_indexes 28 = .ok (.iconst 1, 1) := by decide +kernel
theorem dX12_indexes_29 : decode cX12_indexes 29 = .ok (.invokevirtual 328, 3) := by decide +kernel
theorem dX12_indexes_32 : decode cX12_indexes 32 = .ok (.aload_n 0, 1) := by decide +kernel
theorem dX12_indexes_33 : decode cX12_indexes 33 = .ok (.getfield 270, 3) := by decide +kernel
theorem dX12_indexes_36 : decode cX12_indexes 36 = .ok (.ifCond .ne 27, 3) := by decide +kernel
theorem dX12_indexes_39 : decode cX12_indexes 39 = .ok (.aload_n 0, 1) := by decide +kernel
theorem dX12_indexes_40 : decode cX12_indexes 40 = .ok (.bipush 44, 2) := by decide +kernel
theorem dX12_indexes_42 : decode cX12_indexes 42 = .ok (.invokevirtual 318, 3) := by decide +kernel
theorem dX12_indexes_45 : decode cX12_indexes 45 = .ok (.ifCond .eq 18, 3) := by decide +kernel
theorem dX12_indexes_48 : decode cX12_indexes 48 = .ok (.aload_n 0, 1) := by decide +kernel
theorem dX12_indexes_49 : decode cX12_indexes 49 = .ok (.dup, 1) := by decide +kernel
theorem dX12_indexes_50 : decode cX12_indexes 50 = .ok (.getfield 315, 3) := by decide +kernel
theorem dX12_indexes_53 : decode cX12_indexes 53 = .ok (.iconst 1, 1) := by decide +kernel
theorem dX12_indexes_54 : decode cX12_indexes 54 = .ok (.iadd, 1) := by decide +kernel
theorem dX12_indexes_55 : decode cX12_indexes 55 = .ok (.putfield 315, 3) := by decide +kernel
theorem dX12_indexes_58 : decode cX12_indexes 58 = .ok (.aload_n 0, 1) := by decide +kernel
theorem dX12_indexes_59 : decode cX12_indexes 59 = .ok (.iconst 1, 1) := by decide +kernel
theorem dX12_indexes_60 : decode cX12_indexes 60 = .ok (.invokevirtual 328, 3) := by decide +kernel
theorem dX12_indexes_63 : decode cX12_indexes 63 = .ok (.aload_n 0, 1) := by decide +kernel
theorem dX12_indexes_64 : decode cX12_indexes 64 = .ok (.bipush 93, 2) := by decide +kernel
theorem dX12_indexes_66 : decode cX12_indexes 66 = .ok (.invokevirtual 331, 3) := by decide +kernel
theorem dX12_indexes_69 : decode cX12_indexes 69 = .ok (.return_, 1) := by decide +kernel
theorem dX12_isSign_0 : decode cX12_isSign 0 = .ok (.aload_n 0, 1) := by decide +kernel
theorem dX12_isSign_1 : decode cX12_isSign 1 = .ok (.getfield 47, 3) := by decide +kernel
theorem dX12_isSign_4 : decode cX12_isSign 4 = .ok (.aload_n 0, 1) := by decide +kernel
theorem dX12_isSign_5 : decode cX12_isSign 5 = .ok (.getfield 315, 3) := by decide +kernel
theorem dX12_isSign_8 : decode cX12_isSign 8 = .ok (.iaload, 1) := by decide +kernel
theorem dX12_isSign_9 : decode cX12_isSign 9 = .ok (.iconst 4, 1) := by decide +kernel
theorem dX12_isSign_10 : decode cX12_isSign 10 = .ok (.if_icmp .ne 20, 3) := by decide +kernel
theorem dX12_isSign_13 : decode cX12_isSign 13 = .ok (.aload_n 0, 1) := by decide +kernel
theorem dX12_isSign_14 : decode cX12_isSign 14 = .ok (.getfield 56, 3) := by decide +kernel
theorem dX12_isSign_17 : decode cX12_isSign 17 = .ok (.aload_n 0, 1) := by decide +kernel
theorem dX12_isSign_18 : decode cX12_isSign 18 = .ok (.getfield 315, 3) := by decide +kernel
theorem dX12_isSign_21 : decode cX12_isSign 21 = .ok (.iaload, 1) := by decide +kernel
theorem dX12_isSign_22 : decode cX12_isSign 22 = .ok (.iload_n 1, 1) := by decide +kernel
theorem dX12_isSign_23 : decode cX12_isSign 23 = .ok (.if_icmp .ne 7, 3) := by decide +kernel
theorem dX12_isSign_26 : decode cX12_isSign 26 = .ok (.iconst 1, 1) := by decide +kernel
theorem dX12_isSign_27 : decode cX12_isSign 27 = .ok (.goto 4, 3) := by decide +kernel
theorem dX12_isSign_30 : decode cX12_isSign 30 = .ok (.iconst 0, 1) := by decide +kernel
theorem dX12_isSign_31 : decode cX12_isSign 31 = .ok (.ireturn, 1) := by decide +kernel
theorem dX12_isWord_0 : decode cX12_isWord 0 = .ok (.aload_n 0, 1) := by decide +kernel
theorem dX12_isWord_1 : decode cX12_isWord 1 = .ok (.getfield 47, 3) := by decide +kernel
theorem dX12_isWord_4 : decode cX12_isWord 4 = .ok (.aload_n 0, 1) := by decide +kernel
theorem dX12_isWord_5 : decode cX12_isWord 5 = .ok (.getfield 315, 3) := by decide +kernel
theorem dX12_isWord_8 : decode cX12_isWord 8 = .ok (.iaload, 1) := by decide +kernel
theorem dX12_isWord_9 : decode cX12_isWord 9 = .ok (.iconst 3, 1) := by decide +kernel
theorem dX12_isWord_10 : decode cX12_isWord 10 = .ok (.if_icmp .ne 20, 3) := by decide +kernel
theorem dX12_isWord_13 : decode cX12_isWord 13 = .ok (.aload_n 0, 1) := by decide +kernel
theorem dX12_isWord_14 : decode cX12_isWord 14 = .ok (.getfield 56, 3) := by decide +kernel
theorem dX12_isWord_17 : decode cX12_isWord 17 = .ok (.aload_n 0, 1) := by decide +kernel
theorem dX12_isWord_18 : decode cX12_isWord 18 = .ok (.getfield 315, 3) := by decide +kernel
theorem dX12_isWord_21 : decode cX12_isWord 21 = .ok (.iaload, 1) := by decide +kernel
theorem dX12_isWord_22 : decode cX12_isWord 22 = .ok (.iload_n 1, 1) := by decide +kernel
theorem dX12_isWord_23 : decode cX12_isWord 23 = .ok (.if_icmp .ne 7, 3) := by decide +kernel
theorem dX12_isWord_26 : decode cX12_isWord 26 = .ok (.iconst 1, 1) := by decide +kernel
theorem dX12_isWord_27 : decode cX12_isWord 27 = .ok (.goto 4, 3) := by decide +kernel
theorem dX12_isWord_30 : decode cX12_isWord 30 = .ok (.iconst 0, 1) := by decide +kernel
theorem dX12_isWord_31 : decode cX12_isWord 31 = .ok (.ireturn, 1) := by decide +kernel
theorem dX12_told_0 : decode cX12_told 0 = .ok (.aload_n 0, 1) := by decide +kernel
theorem dX12_told_1 : decode cX12_told 1 = .ok (.getfield 56, 3) := by decide +kernel
theorem dX12_told_4 : decode cX12_told 4 = .ok (.aload_n 0, 1) := by decide +kernel
theorem dX12_told_5 : decode cX12_told 5 = .ok (.getfield 315, 3) := by decide +kernel
theorem dX12_told_8 : decode cX12_told 8 = .ok (.iaload, 1) := by decide +kernel
theorem dX12_told_9 : decode cX12_told 9 = .ok (.istore_n 1, 1) := by decide +kernel
theorem dX12_told_10 : decode cX12_told 10 = .ok (.aload_n 0, 1) := by decide +kernel
theorem dX12_told_11 : decode cX12_told 11 = .ok (.dup, 1) := by decide +kernel
theorem dX12_told_12 : decode cX12_told 12 = .ok (.getfield 315, 3) := by decide +kernel
theorem dX12_told_15 : decode cX12_told 15 = .ok (.iconst 1, 1) := by decide +kernel
theorem dX12_told_16 : decode cX12_told 16 = .ok (.iadd, 1) := by decide +kernel
theorem dX12_told_17 : decode cX12_told 17 = .ok (.putfield 315, 3) := by decide +kernel
theorem dX12_told_20 : decode cX12_told 20 = .ok (.aload_n 0, 1) := by decide +kernel
theorem dX12_told_21 : decode cX12_told 21 = .ok (.iconst 1, 1) := by decide +kernel
theorem dX12_told_22 : decode cX12_told 22 = .ok (.invokevirtual 328, 3) := by decide +kernel
theorem dX12_told_25 : decode cX12_told 25 = .ok (.iload_n 1, 1) := by decide +kernel
theorem dX12_told_26 : decode cX12_told 26 = .ok (.iconst 2, 1) := by decide +kernel
theorem dX12_told_27 : decode cX12_told 27 = .ok (.if_icmp .eq 7, 3) := by decide +kernel
theorem dX12_told_30 : decode cX12_told 30 = .ok (.aload_n 0, 1) := by decide +kernel
theorem dX12_told_31 : decode cX12_told 31 = .ok (.invokevirtual 343, 3) := by decide +kernel
theorem dX12_told_34 : decode cX12_told 34 = .ok (.iload_n 1, 1) := by decide +kernel
theorem dX12_told_35 : decode cX12_told 35 = .ok (.iconst 2, 1) := by decide +kernel
theorem dX12_told_36 : decode cX12_told 36 = .ok (.if_icmp .ne 27, 3) := by decide +kernel
theorem dX12_told_39 : decode cX12_told 39 = .ok (.aload_n 0, 1) := by decide +kernel
theorem dX12_told_40 : decode cX12_told 40 = .ok (.bipush 61, 2) := by decide +kernel
theorem dX12_told_42 : decode cX12_told 42 = .ok (.invokevirtual 331, 3) := by decide +kernel
theorem dX12_told_45 : decode cX12_told 45 = .ok (.aload_n 0, 1) := by decide +kernel
theorem dX12_told_46 : decode cX12_told 46 = .ok (.iconst 2, 1) := by decide +kernel
theorem dX12_told_47 : decode cX12_told 47 = .ok (.invokevirtual 328, 3) := by decide +kernel
theorem dX12_told_50 : decode cX12_told 50 = .ok (.aload_n 0, 1) := by decide +kernel
theorem dX12_told_51 : decode cX12_told 51 = .ok (.iconst 1, 1) := by decide +kernel
theorem dX12_told_52 : decode cX12_told 52 = .ok (.invokevirtual 331, 3) := by decide +kernel
theorem dX12_told_55 : decode cX12_told 55 = .ok (.aload_n 0, 1) := by decide +kernel
theorem dX12_told_56 : decode cX12_told 56 = .ok (.iconst 2, 1) := by decide +kernel
theorem dX12_told_57 : decode cX12_told 57 = .ok (.invokevirtual 328, 3) := by decide +kernel
theorem dX12_told_60 : decode cX12_told 60 = .ok (.goto 76, 3) := by decide +kernel
theorem dX12_told_63 : decode cX12_told 63 = .ok (.iload_n 1, 1) := by decide +kernel
theorem dX12_told_64 : decode cX12_told 64 = .ok (.iconst 3, 1) := by decide +kernel
theorem dX12_told_65 : decode cX12_told 65 = .ok (.if_icmp .ne 46, 3) := by decide +kernel
theorem dX12_told_68 : decode cX12_told 68 = .ok (.aload_n 0, 1) := by decide +kernel
theorem dX12_told_69 : decode cX12_told 69 = .ok (.bipush 61, 2) := by decide +kernel
theorem dX12_told_71 : decode cX12_told 71 = .ok (.invokevirtual 331, 3) := by decide +kernel
theorem dX12_told_74 : decode cX12_told 74 = .ok (.aload_n 0, 1) := by decide +kernel
theorem dX12_told_75 : decode cX12_told 75 = .ok (.invokevirtual 346, 3) := by decide +kernel
theorem dX12_told_78 : decode cX12_told 78 = .ok (.aload_n 0, 1) := by decide +kernel
theorem dX12_told_79 : decode cX12_told 79 = .ok (.getfield 270, 3) := by decide +kernel
theorem dX12_told_82 : decode cX12_told 82 = .ok (.ifCond .ne 54, 3) := by decide +kernel
theorem dX12_told_85 : decode cX12_told 85 = .ok (.aload_n 0, 1) := by decide +kernel
theorem dX12_told_86 : decode cX12_told 86 = .ok (.bipush 44, 2) := by decide +kernel
theorem dX12_told_88 : decode cX12_told 88 = .ok (.invokevirtual 318, 3) := by decide +kernel
theorem dX12_told_91 : decode cX12_told 91 = .ok (.ifCond .eq 45, 3) := by decide +kernel
theorem dX12_told_94 : decode cX12_told 94 = .ok (.aload_n 0, 1) := by decide +kernel
theorem dX12_told_95 : decode cX12_told 95 = .ok (.dup, 1) := by decide +kernel
theorem dX12_told_96 : decode cX12_told 96 = .ok (.getfield 315, 3) := by decide +kernel
theorem dX12_told_99 : decode cX12_told 99 = .ok (.iconst 1, 1) := by decide +kernel
theorem dX12_told_100 : decode cX12_told 100 = .ok (.iadd, 1) := by decide +kernel
theorem dX12_told_101 : decode cX12_told 101 = .ok (.putfield 315, 3) := by decide +kernel
theorem dX12_told_104 : decode cX12_told 104 = .ok (.aload_n 0, 1) := by decide +kernel
theorem dX12_told_105 : decode cX12_told 105 = .ok (.invokevirtual 346, 3) := by decide +kernel
theorem dX12_told_108 : decode cX12_told 108 = .ok (.goto (-30), 3) := by decide +kernel
theorem dX12_told_111 : decode cX12_told 111 = .ok (.aload_n 0, 1) := by decide +kernel
theorem dX12_told_112 : decode cX12_told 112 = .ok (.getfield 270, 3) := by decide +kernel
theorem dX12_told_115 : decode cX12_told 115 = .ok (.ifCond .ne 21, 3) := by decide +kernel
theorem dX12_told_118 : decode cX12_told 118 = .ok (.aload_n 0, 1) := by decide +kernel
theorem dX12_told_119 : decode cX12_told 119 = .ok (.iconst 5, 1) := by decide +kernel
theorem dX12_told_120 : decode cX12_told 120 = .ok (.invokevirtual 325, 3) := by decide +kernel
theorem dX12_told_123 : decode cX12_told 123 = .ok (.ifCond .eq 13, 3) := by decide +kernel
theorem dX12_told_126 : decode cX12_told 126 = .ok (.aload_n 0, 1) := by decide +kernel
theorem dX12_told_127 : decode cX12_told 127 = .ok (.dup, 1) := by decide +kernel
theorem dX12_told_128 : decode cX12_told 128 = .ok (.getfield 315, 3) := by decide +kernel
theorem dX12_told_131 : decode cX12_told 131 = .ok (.iconst 1, 1) := by decide +kernel
theorem dX12_told_132 : decode cX12_told 132 = .ok (.iadd, 1) := by decide +kernel
theorem dX12_told_133 : decode cX12_told 133 = .ok (.putfield 315, 3) := by decide +kernel
theorem dX12_told_136 : decode cX12_told 136 = .ok (.aload_n 0, 1) := by decide +kernel
theorem dX12_told_137 : decode cX12_told 137 = .ok (.bipush 59, 2) := by decide +kernel
theorem dX12_told_139 : decode cX12_told 139 = .ok (.invokevirtual 331, 3) := by decide +kernel
theorem dX12_told_142 : decode cX12_told 142 = .ok (.return_, 1) := by decide +kernel
theorem dX12_valueRead_0 : decode cX12_valueRead 0 = .ok (.aload_n 0, 1) := by decide +kernel
theorem dX12_valueRead_1 : decode cX12_valueRead 1 = .ok (.getfield 270, 3) := by decide +kernel
theorem dX12_valueRead_4 : decode cX12_valueRead 4 = .ok (.ifCond .ne 22, 3) := by decide +kernel
theorem dX12_valueRead_7 : decode cX12_valueRead 7 = .ok (.aload_n 0, 1) := by decide +kernel
theorem dX12_valueRead_8 : decode cX12_valueRead 8 = .ok (.bipush 45, 2) := by decide +kernel
theorem dX12_valueRead_10 : decode cX12_valueRead 10 = .ok (.invokevirtual 318, 3) := by decide +kernel
theorem dX12_valueRead_13 : decode cX12_valueRead 13 = .ok (.ifCond .eq 13, 3) := by decide +kernel
theorem dX12_valueRead_16 : decode cX12_valueRead 16 = .ok (.aload_n 0, 1) := by decide +kernel
theorem dX12_valueRead_17 : decode cX12_valueRead 17 = .ok (.dup, 1) := by decide +kernel
theorem dX12_valueRead_18 : decode cX12_valueRead 18 = .ok (.getfield 315, 3) := by decide +kernel
theorem dX12_valueRead_21 : decode cX12_valueRead 21 = .ok (.iconst 1, 1) := by decide +kernel
theorem dX12_valueRead_22 : decode cX12_valueRead 22 = .ok (.iadd, 1) := by decide +kernel
theorem dX12_valueRead_23 : decode cX12_valueRead 23 = .ok (.putfield 315, 3) := by decide +kernel
theorem dX12_valueRead_26 : decode cX12_valueRead 26 = .ok (.aload_n 0, 1) := by decide +kernel
theorem dX12_valueRead_27 : decode cX12_valueRead 27 = .ok (.iconst 2, 1) := by decide +kernel
theorem dX12_valueRead_28 : decode cX12_valueRead 28 = .ok (.invokevirtual 328, 3) := by decide +kernel
theorem dX12_valueRead_31 : decode cX12_valueRead 31 = .ok (.return_, 1) := by decide +kernel
theorem dX12_want_0 : decode cX12_want 0 = .ok (.aload_n 0, 1) := by decide +kernel
theorem dX12_want_1 : decode cX12_want 1 = .ok (.getfield 270, 3) := by decide +kernel
theorem dX12_want_4 : decode cX12_want 4 = .ok (.ifCond .ne 20, 3) := by decide +kernel
theorem dX12_want_7 : decode cX12_want 7 = .ok (.aload_n 0, 1) := by decide +kernel
theorem dX12_want_8 : decode cX12_want 8 = .ok (.iload_n 1, 1) := by decide +kernel
theorem dX12_want_9 : decode cX12_want 9 = .ok (.invokevirtual 318, 3) := by decide +kernel
theorem dX12_want_12 : decode cX12_want 12 = .ok (.ifCond .ne 12, 3) := by decide +kernel
theorem dX12_want_15 : decode cX12_want 15 = .ok (.aload_n 0, 1) := by decide +kernel
theorem dX12_want_16 : decode cX12_want 16 = .ok (.iconst 1, 1) := by decide +kernel
theorem dX12_want_17 : decode cX12_want 17 = .ok (.aload_n 0, 1) := by decide +kernel
theorem dX12_want_18 : decode cX12_want 18 = .ok (.getfield 315, 3) := by decide +kernel
theorem dX12_want_21 : decode cX12_want 21 = .ok (.invokevirtual 321, 3) := by decide +kernel
theorem dX12_want_24 : decode cX12_want 24 = .ok (.aload_n 0, 1) := by decide +kernel
theorem dX12_want_25 : decode cX12_want 25 = .ok (.dup, 1) := by decide +kernel
theorem dX12_want_26 : decode cX12_want 26 = .ok (.getfield 315, 3) := by decide +kernel
theorem dX12_want_29 : decode cX12_want 29 = .ok (.iconst 1, 1) := by decide +kernel
theorem dX12_want_30 : decode cX12_want 30 = .ok (.iadd, 1) := by decide +kernel
theorem dX12_want_31 : decode cX12_want 31 = .ok (.putfield 315, 3) := by decide +kernel
theorem dX12_want_34 : decode cX12_want 34 = .ok (.return_, 1) := by decide +kernel
theorem dX12_wantKind_0 : decode cX12_wantKind 0 = .ok (.aload_n 0, 1) := by decide +kernel
theorem dX12_wantKind_1 : decode cX12_wantKind 1 = .ok (.getfield 270, 3) := by decide +kernel
theorem dX12_wantKind_4 : decode cX12_wantKind 4 = .ok (.ifCond .ne 25, 3) := by decide +kernel
theorem dX12_wantKind_7 : decode cX12_wantKind 7 = .ok (.aload_n 0, 1) := by decide +kernel
theorem dX12_wantKind_8 : decode cX12_wantKind 8 = .ok (.getfield 47, 3) := by decide +kernel
theorem dX12_wantKind_11 : decode cX12_wantKind 11 = .ok (.aload_n 0, 1) := by decide +kernel
theorem dX12_wantKind_12 : decode cX12_wantKind 12 = .ok (.getfield 315, 3) := by decide +kernel
theorem dX12_wantKind_15 : decode cX12_wantKind 15 = .ok (.iaload, 1) := by decide +kernel
theorem dX12_wantKind_16 : decode cX12_wantKind 16 = .ok (.iload_n 1, 1) := by decide +kernel
theorem dX12_wantKind_17 : decode cX12_wantKind 17 = .ok (.if_icmp .eq 12, 3) := by decide +kernel
theorem dX12_wantKind_20 : decode cX12_wantKind 20 = .ok (.aload_n 0, 1) := by decide +kernel
theorem dX12_wantKind_21 : decode cX12_wantKind 21 = .ok (.iconst 1, 1) := by decide +kernel
theorem dX12_wantKind_22 : decode cX12_wantKind 22 = .ok (.aload_n 0, 1) := by decide +kernel
theorem dX12_wantKind_23 : decode cX12_wantKind 23 = .ok (.getfield 315, 3) := by decide +kernel
theorem dX12_wantKind_26 : decode cX12_wantKind 26 = .ok (.invokevirtual 321, 3) := by decide +kernel
theorem dX12_wantKind_29 : decode cX12_wantKind 29 = .ok (.aload_n 0, 1) := by decide +kernel
theorem dX12_wantKind_30 : decode cX12_wantKind 30 = .ok (.dup, 1) := by decide +kernel
theorem dX12_wantKind_31 : decode cX12_wantKind 31 = .ok (.getfield 315, 3) := by decide +kernel
theorem dX12_wantKind_34 : decode cX12_wantKind 34 = .ok (.iconst 1, 1) := by decide +kernel
theorem dX12_wantKind_35 : decode cX12_wantKind 35 = .ok (.iadd, 1) := by decide +kernel
theorem dX12_wantKind_36 : decode cX12_wantKind 36 = .ok (.putfield 315, 3) := by decide +kernel
theorem dX12_wantKind_39 : decode cX12_wantKind 39 = .ok (.return_, 1) := by decide +kernel
theorem dX12_wantWord_0 : decode cX12_wantWord 0 = .ok (.aload_n 0, 1) := by decide +kernel
theorem dX12_wantWord_1 : decode cX12_wantWord 1 = .ok (.getfield 270, 3) := by decide +kernel
theorem dX12_wantWord_4 : decode cX12_wantWord 4 = .ok (.ifCond .ne 20, 3) := by decide +kernel
theorem dX12_wantWord_7 : decode cX12_wantWord 7 = .ok (.aload_n 0, 1) := by decide +kernel
theorem dX12_wantWord_8 : decode cX12_wantWord 8 = .ok (.iload_n 1, 1) := by decide +kernel
theorem dX12_wantWord_9 : decode cX12_wantWord 9 = .ok (.invokevirtual 325, 3) := by decide +kernel
theorem dX12_wantWord_12 : decode cX12_wantWord 12 = .ok (.ifCond .ne 12, 3) := by decide +kernel
theorem dX12_wantWord_15 : decode cX12_wantWord 15 = .ok (.aload_n 0, 1) := by decide +kernel
theorem dX12_wantWord_16 : decode cX12_wantWord 16 = .ok (.iconst 1, 1) := by decide +kernel
theorem dX12_wantWord_17 : decode cX12_wantWord 17 = .ok (.aload_n 0, 1) := by decide +kernel
theorem dX12_wantWord_18 : decode cX12_wantWord 18 = .ok (.getfield 315, 3) := by decide +kernel
theorem dX12_wantWord_21 : decode cX12_wantWord 21 = .ok (.invokevirtual 321, 3) := by decide +kernel
theorem dX12_wantWord_24 : decode cX12_wantWord 24 = .ok (.aload_n 0, 1) := by decide +kernel
theorem dX12_wantWord_25 : decode cX12_wantWord 25 = .ok (.dup, 1) := by decide +kernel
theorem dX12_wantWord_26 : decode cX12_wantWord 26 = .ok (.getfield 315, 3) := by decide +kernel
theorem dX12_wantWord_29 : decode cX12_wantWord 29 = .ok (.iconst 1, 1) := by decide +kernel
theorem dX12_wantWord_30 : decode cX12_wantWord 30 = .ok (.iadd, 1) := by decide +kernel
theorem dX12_wantWord_31 : decode cX12_wantWord 31 = .ok (.putfield 315, 3) := by decide +kernel
theorem dX12_wantWord_34 : decode cX12_wantWord 34 = .ok (.return_, 1) := by decide +kernel
theorem dX12_wrong_0 : decode cX12_wrong 0 = .ok (.aload_n 0, 1) := by decide +kernel
theorem dX12_wrong_1 : decode cX12_wrong 1 = .ok (.getfield 270, 3) := by decide +kernel
theorem dX12_wrong_4 : decode cX12_wrong 4 = .ok (.ifCond .eq 4, 3) := by decide +kernel
theorem dX12_wrong_7 : decode cX12_wrong 7 = .ok (.return_, 1) := by decide +kernel
theorem dX12_wrong_8 : decode cX12_wrong 8 = .ok (.aload_n 0, 1) := by decide +kernel
theorem dX12_wrong_9 : decode cX12_wrong 9 = .ok (.iload_n 1, 1) := by decide +kernel
theorem dX12_wrong_10 : decode cX12_wrong 10 = .ok (.putfield 270, 3) := by decide +kernel
theorem dX12_wrong_13 : decode cX12_wrong 13 = .ok (.aload_n 0, 1) := by decide +kernel
theorem dX12_wrong_14 : decode cX12_wrong 14 = .ok (.aload_n 0, 1) := by decide +kernel
theorem dX12_wrong_15 : decode cX12_wrong 15 = .ok (.getfield 50, 3) := by decide +kernel
theorem dX12_wrong_18 : decode cX12_wrong 18 = .ok (.iload_n 2, 1) := by decide +kernel
theorem dX12_wrong_19 : decode cX12_wrong 19 = .ok (.iaload, 1) := by decide +kernel
theorem dX12_wrong_20 : decode cX12_wrong 20 = .ok (.putfield 273, 3) := by decide +kernel
theorem dX12_wrong_23 : decode cX12_wrong 23 = .ok (.return_, 1) := by decide +kernel
theorem w_110 : Cond.selects RX12 yX12_isWord yX12_isWord ∈ tb := sel_7 (q := (yX12_isWord, 105)) 14 (by decide +kernel)
theorem w_112 : Cond.selects RX12 yX12_wantKind yX12_wantKind ∈ tb := sel_8 (q := (yX12_wantKind, 105)) 0 (by decide +kernel)
theorem w_113 : Cond.selects RX12 yX12_wrong yX12_wrong ∈ tb := sel_8 (q := (yX12_wrong, 105)) 1 (by decide +kernel)
theorem w_114 : Cond.selects RX12 yX12_indexes yX12_indexes ∈ tb := sel_8 (q := (yX12_indexes, 105)) 2 (by decide +kernel)
theorem w_115 : Cond.selects RX12 yX12_isSign yX12_isSign ∈ tb := sel_8 (q := (yX12_isSign, 105)) 3 (by decide +kernel)
theorem w_116 : Cond.selects RX12 yX12_want yX12_want ∈ tb := sel_8 (q := (yX12_want, 105)) 4 (by decide +kernel)
theorem w_117 : Cond.selects RX12 yX12_valueRead yX12_valueRead ∈ tb := sel_8 (q := (yX12_valueRead, 105)) 5 (by decide +kernel)
theorem w_1981 : Cond.fieldLink RX12 270 (TX12 20).1 (TX12 20).2.1 (TX12 20).2.2.1 ∈ tb := tbc_8 98 (by decide +kernel) rfl
theorem w_1982 : Cond.fieldLink RX12 273 (TX12 21).1 (TX12 21).2.1 (TX12 21).2.2.1 ∈ tb := tbc_8 99 (by decide +kernel) rfl
theorem w_1985 : Cond.fieldLink RX12 315 (TX12 24).1 (TX12 24).2.1 (TX12 24).2.2.1 ∈ tb := tbc_8 102 (by decide +kernel) rfl
theorem w_2326 : Cond.methodLink RX12 325 yX12_isWord ∈ tb := tbc_9 203 (by decide +kernel) rfl
theorem w_2328 : Cond.instanceMethod yX12_isWord ∈ tb := tbc_9 205 (by decide +kernel) rfl
theorem w_2329 : Cond.code yX12_isWord cX12_isWord 2 (some .boolean) ∈ tb := tbc_9 206 (by decide +kernel) rfl
theorem w_2334 : Cond.methodLink RX12 328 yX12_wantKind ∈ tb := tbc_9 211 (by decide +kernel) rfl
theorem w_2336 : Cond.instanceMethod yX12_wantKind ∈ tb := tbc_9 213 (by decide +kernel) rfl
theorem w_2337 : Cond.code yX12_wantKind cX12_wantKind 2 none ∈ tb := tbc_9 214 (by decide +kernel) rfl
theorem w_2338 : Cond.methodLink RX12 321 yX12_wrong ∈ tb := tbc_9 215 (by decide +kernel) rfl
theorem w_2340 : Cond.instanceMethod yX12_wrong ∈ tb := tbc_9 217 (by decide +kernel) rfl
theorem w_2341 : Cond.code yX12_wrong cX12_wrong 3 none ∈ tb := tbc_9 218 (by decide +kernel) rfl
theorem w_2342 : Cond.methodLink RX12 343 yX12_indexes ∈ tb := tbc_9 219 (by decide +kernel) rfl
theorem w_2344 : Cond.instanceMethod yX12_indexes ∈ tb := tbc_9 221 (by decide +kernel) rfl
theorem w_2345 : Cond.code yX12_indexes cX12_indexes 1 none ∈ tb := tbc_9 222 (by decide +kernel) rfl
theorem w_2346 : Cond.methodLink RX12 318 yX12_isSign ∈ tb := tbc_9 223 (by decide +kernel) rfl
theorem w_2348 : Cond.instanceMethod yX12_isSign ∈ tb := tbc_9 225 (by decide +kernel) rfl
theorem w_2349 : Cond.code yX12_isSign cX12_isSign 2 (some .boolean) ∈ tb := tbc_9 226 (by decide +kernel) rfl
theorem w_2350 : Cond.methodLink RX12 331 yX12_want ∈ tb := tbc_9 227 (by decide +kernel) rfl
theorem w_2352 : Cond.instanceMethod yX12_want ∈ tb := tbc_9 229 (by decide +kernel) rfl
theorem w_2353 : Cond.code yX12_want cX12_want 2 none ∈ tb := tbc_9 230 (by decide +kernel) rfl
theorem w_2354 : Cond.methodLink RX12 346 yX12_valueRead ∈ tb := tbc_9 231 (by decide +kernel) rfl
theorem w_2356 : Cond.instanceMethod yX12_valueRead ∈ tb := tbc_9 233 (by decide +kernel) rfl
theorem w_2357 : Cond.code yX12_valueRead cX12_valueRead 1 none ∈ tb := tbc_9 234 (by decide +kernel) rfl
section RW71
variable {p : Program} {l : Launch} {e : Env} {R : Room} {s : State} {m : MethodId} {args : Array Value} {below : List Frame} {meth : Method} {c : Code} {H : Heap} {locs : List Loc} {cells slots : Nat} {Q : State → Prop}
variable {cc : ByteArray} {pc nL : Nat} {ls : Array Slot} {rest st0 : List Value} {G : sG} {n : Nat} {S : sS}
theorem g_X12_270 (Cx : sC G p m c cc nL s args RX12) (hW : sW G n S H) {k : Nat} (hk : k < n) (ht : tau k = .inl 12) {v : Int} (hv : S.1 k 20 = v) (hdg : decode cc pc = .ok (.getfield 270, 3)) (kk : W p l e R s m args below meth c H locs cells slots Q (F0 m (pc + 3) ls (.int (iv v) :: rest))) : W p l e R s m args below meth c H locs cells slots Q (F0 m pc ls (.ref (G.2.2.1 + k) :: rest)) :=
  sGet Cx inX12 rfl 20 (by decide) w_1981 hW hk ht (congrArg (fun z => Value.int (iv z)) hv) hdg kk
theorem p_X12_270 (Cx : sC G p m c cc nL s args RX12) (hW : sW G n S H) (hL : sL G locs) {k : Nat} (hk : k < n) (ht : tau k = .inl 12) {v : Int} (hdg : decode cc pc = .ok (.putfield 270, 3)) (kk : ∀ (H1 : Heap) (locs1 : List Loc), sW G n (uF S k 20 v) H1 → sL G locs1 → W p l e R s m args below meth c H1 locs1 cells slots Q (F0 m (pc + 3) ls rest)) : W p l e R s m args below meth c H locs cells slots Q (F0 m pc ls (.int (iv v) :: .ref (G.2.2.1 + k) :: rest)) :=
  sPut Cx inX12 tyX12 tyX12_ok nmX12 rfl 20 (by decide) w_1981 rfl hW hL hk ht rfl rfl (fun _ h => uF_same h) (fun _ h => uF_off h) (congrArg (fun z => Value.int (iv z)) uF_on) hdg kk
theorem p_X12_273 (Cx : sC G p m c cc nL s args RX12) (hW : sW G n S H) (hL : sL G locs) {k : Nat} (hk : k < n) (ht : tau k = .inl 12) {v : Int} (hdg : decode cc pc = .ok (.putfield 273, 3)) (kk : ∀ (H1 : Heap) (locs1 : List Loc), sW G n (uF S k 21 v) H1 → sL G locs1 → W p l e R s m args below meth c H1 locs1 cells slots Q (F0 m (pc + 3) ls rest)) : W p l e R s m args below meth c H locs cells slots Q (F0 m pc ls (.int (iv v) :: .ref (G.2.2.1 + k) :: rest)) :=
  sPut Cx inX12 tyX12 tyX12_ok nmX12 rfl 21 (by decide) w_1982 rfl hW hL hk ht rfl rfl (fun _ h => uF_same h) (fun _ h => uF_off h) (congrArg (fun z => Value.int (iv z)) uF_on) hdg kk
theorem g_X12_315 (Cx : sC G p m c cc nL s args RX12) (hW : sW G n S H) {k : Nat} (hk : k < n) (ht : tau k = .inl 12) {v : Int} (hv : S.1 k 24 = v) (hdg : decode cc pc = .ok (.getfield 315, 3)) (kk : W p l e R s m args below meth c H locs cells slots Q (F0 m (pc + 3) ls (.int (iv v) :: rest))) : W p l e R s m args below meth c H locs cells slots Q (F0 m pc ls (.ref (G.2.2.1 + k) :: rest)) :=
  sGet Cx inX12 rfl 24 (by decide) w_1985 hW hk ht (congrArg (fun z => Value.int (iv z)) hv) hdg kk
theorem p_X12_315 (Cx : sC G p m c cc nL s args RX12) (hW : sW G n S H) (hL : sL G locs) {k : Nat} (hk : k < n) (ht : tau k = .inl 12) {v : Int} (hdg : decode cc pc = .ok (.putfield 315, 3)) (kk : ∀ (H1 : Heap) (locs1 : List Loc), sW G n (uF S k 24 v) H1 → sL G locs1 → W p l e R s m args below meth c H1 locs1 cells slots Q (F0 m (pc + 3) ls rest)) : W p l e R s m args below meth c H locs cells slots Q (F0 m pc ls (.int (iv v) :: .ref (G.2.2.1 + k) :: rest)) :=
  sPut Cx inX12 tyX12 tyX12_ok nmX12 rfl 24 (by decide) w_1985 rfl hW hL hk ht rfl rfl (fun _ h => uF_same h) (fun _ h => uF_off h) (congrArg (fun z => Value.int (iv z)) uF_on) hdg kk
theorem c_X12_318 (Cx : sC G p m c cc nL s args RX12) {rm : Room} {mc ms : Nat} (h1 : rm.cells = mc) (h2 : rm.slots = ms) (h3 : rm.frames + 1 ≤ R.frames ∧ 8 + (2 + 11) + rm.locals ≤ R.locals) : CallW R s args RX12 RX12 318 yX12_isSign cX12_isSign 2 (some .boolean) (.code yX12_isSign cX12_isSign 2 (some .boolean) :: tb) rm mc ms 1 :=
  sCw Cx 1 w_2346 w_2348 w_115 w_217 w_2349 (by decide +kernel) h1 h2 h3
theorem c_X12_321 (Cx : sC G p m c cc nL s args RX12) {rm : Room} {mc ms : Nat} (h1 : rm.cells = mc) (h2 : rm.slots = ms) (h3 : rm.frames + 1 ≤ R.frames ∧ 8 + (3 + 11) + rm.locals ≤ R.locals) : CallW R s args RX12 RX12 321 yX12_wrong cX12_wrong 3 none (.code yX12_wrong cX12_wrong 3 none :: tb) rm mc ms 2 :=
  sCw Cx 2 w_2338 w_2340 w_113 w_217 w_2341 (by decide +kernel) h1 h2 h3
theorem c_X12_325 (Cx : sC G p m c cc nL s args RX12) {rm : Room} {mc ms : Nat} (h1 : rm.cells = mc) (h2 : rm.slots = ms) (h3 : rm.frames + 1 ≤ R.frames ∧ 8 + (2 + 11) + rm.locals ≤ R.locals) : CallW R s args RX12 RX12 325 yX12_isWord cX12_isWord 2 (some .boolean) (.code yX12_isWord cX12_isWord 2 (some .boolean) :: tb) rm mc ms 1 :=
  sCw Cx 1 w_2326 w_2328 w_110 w_217 w_2329 (by decide +kernel) h1 h2 h3
theorem c_X12_328 (Cx : sC G p m c cc nL s args RX12) {rm : Room} {mc ms : Nat} (h1 : rm.cells = mc) (h2 : rm.slots = ms) (h3 : rm.frames + 1 ≤ R.frames ∧ 8 + (2 + 11) + rm.locals ≤ R.locals) : CallW R s args RX12 RX12 328 yX12_wantKind cX12_wantKind 2 none (.code yX12_wantKind cX12_wantKind 2 none :: tb) rm mc ms 1 :=
  sCw Cx 1 w_2334 w_2336 w_112 w_217 w_2337 (by decide +kernel) h1 h2 h3
theorem c_X12_331 (Cx : sC G p m c cc nL s args RX12) {rm : Room} {mc ms : Nat} (h1 : rm.cells = mc) (h2 : rm.slots = ms) (h3 : rm.frames + 1 ≤ R.frames ∧ 8 + (2 + 11) + rm.locals ≤ R.locals) : CallW R s args RX12 RX12 331 yX12_want cX12_want 2 none (.code yX12_want cX12_want 2 none :: tb) rm mc ms 1 :=
  sCw Cx 1 w_2350 w_2352 w_116 w_217 w_2353 (by decide +kernel) h1 h2 h3
theorem c_X12_343 (Cx : sC G p m c cc nL s args RX12) {rm : Room} {mc ms : Nat} (h1 : rm.cells = mc) (h2 : rm.slots = ms) (h3 : rm.frames + 1 ≤ R.frames ∧ 8 + (1 + 11) + rm.locals ≤ R.locals) : CallW R s args RX12 RX12 343 yX12_indexes cX12_indexes 1 none (.code yX12_indexes cX12_indexes 1 none :: tb) rm mc ms 0 :=
  sCw Cx 0 w_2342 w_2344 w_114 w_217 w_2345 (by decide +kernel) h1 h2 h3
theorem c_X12_346 (Cx : sC G p m c cc nL s args RX12) {rm : Room} {mc ms : Nat} (h1 : rm.cells = mc) (h2 : rm.slots = ms) (h3 : rm.frames + 1 ≤ R.frames ∧ 8 + (1 + 11) + rm.locals ≤ R.locals) : CallW R s args RX12 RX12 346 yX12_valueRead cX12_valueRead 1 none (.code yX12_valueRead cX12_valueRead 1 none :: tb) rm mc ms 0 :=
  sCw Cx 0 w_2354 w_2356 w_117 w_217 w_2357 (by decide +kernel) h1 h2 h3
end RW71
