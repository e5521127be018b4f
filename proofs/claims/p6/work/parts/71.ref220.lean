theorem dX12_indexRead_0 : decode cX12_indexRead 0 = .ok (.aload_n 0, 1) := by decide +kernel
theorem dX12_indexRead_1 : decode cX12_indexRead 1 = .ok (.getfield 270, 3) := by decide +kernel
theorem dX12_indexRead_4 : decode cX12_indexRead 4 = .ok (.ifCond .eq 4, 3) := by decide +kernel
theorem dX12_indexRead_7 : decode cX12_indexRead 7 = .ok (.return_, 1) := by decide +kernel
theorem dX12_indexRead_8 : decode cX12_indexRead 8 = .ok (.aload_n 0, 1) := by decide +kernel
theorem dX12_indexRead_9 : decode cX12_indexRead 9 = .ok (.getfield 47, 3) := by decide +kernel
theorem dX12_indexRead_12 : decode cX12_indexRead 12 = .ok (.aload_n 0, 1) := by decide +kernel
theorem dX12_indexRead_13 : decode cX12_indexRead 13 = .ok (.getfield 315, 3) := by decide +kernel
theorem dX12_indexRead_16 : decode cX12_indexRead 16 = .ok (.iaload, 1) := by decide +kernel
theorem dX12_indexRead_17 : decode cX12_indexRead 17 = .ok (.iconst 2, 1) := by decide +kernel
theorem dX12_indexRead_18 : decode cX12_indexRead 18 = .ok (.if_icmp .ne 14, 3) := by decide +kernel
theorem dX12_indexRead_21 : decode cX12_indexRead 21 = .ok (.aload_n 0, 1) := by decide +kernel
theorem dX12_indexRead_22 : decode cX12_indexRead 22 = .ok (.dup, 1) := by decide +kernel
theorem dX12_indexRead_23 : decode cX12_indexRead 23 = .ok (.getfield 315, 3) := by decide +kernel
theorem dX12_indexRead_26 : decode cX12_indexRead 26 = .ok (.iconst 1, 1) := by decide +kernel
theorem dX12_indexRead_27 : decode cX12_indexRead 27 = .ok (.iadd, 1) := by decide +kernel
theorem dX12_indexRead_28 : decode cX12_indexRead 28 = .ok (.putfield 315, 3) := by decide +kernel
theorem dX12_indexRead_31 : decode cX12_indexRead 31 = .ok (.return_, 1) := by decide +kernel
theorem dX12_indexRead_32 : decode cX12_indexRead 32 = .ok (.aload_n 0, 1) := by decide +kernel
theorem dX12_indexRead_33 : decode cX12_indexRead 33 = .ok (.iconst 1, 1) := by decide +kernel
theorem dX12_indexRead_34 : decode cX12_indexRead 34 = .ok (.invokevirtual 328, 3) := by decide +kernel
theorem dX12_indexRead_37 : decode cX12_indexRead 37 = .ok (.aload_n 0, 1) := by decide +kernel
theorem dX12_indexRead_38 : decode cX12_indexRead 38 = .ok (.getfield 270, 3) := by decide +kernel
theorem dX12_indexRead_41 : decode cX12_indexRead 41 = .ok (.ifCond .ne 36, 3) := by decide +kernel
theorem dX12_indexRead_44 : decode cX12_indexRead 44 = .ok (.aload_n 0, 1) := by decide +kernel
theorem dX12_indexRead_45 : decode cX12_indexRead 45 = .ok (.bipush 43, 2) := by decide +kernel
theorem dX12_indexRead_47 : decode cX12_indexRead 47 = .ok (.invokevirtual 318, 3) := by decide +kernel
theorem dX12_indexRead_50 : decode cX12_indexRead 50 = .ok (.ifCond .ne 12, 3) := by decide +kernel
theorem dX12_indexRead_53 : decode cX12_indexRead 53 = .ok (.aload_n 0, 1) := by decide +kernel
theorem dX12_indexRead_54 : decode cX12_indexRead 54 = .ok (.bipush 45, 2) := by decide +kernel
theorem dX12_indexRead_56 : decode cX12_indexRead 56 = .ok (.invokevirtual 318, 3) := by decide +kernel
theorem dX12_indexRead_59 : decode cX12_indexRead 59 = .ok (.ifCond .eq 18, 3) := by decide +kernel
theorem dX12_indexRead_62 : decode cX12_indexRead 62 = .ok (.aload_n 0, 1) := by decide +kernel
theorem dX12_indexRead_63 : decode cX12_indexRead 63 = .ok (.dup, 1) := by decide +kernel
theorem dX12_indexRead_64 : decode cX12_indexRead 64 = .ok (.getfield 315, 3) := by decide +kernel
theorem dX12_indexRead_67 : decode cX12_indexRead 67 = .ok (.iconst 1, 1) := by decide +kernel
theorem dX12_indexRead_68 : decode cX12_indexRead 68 = .ok (.iadd, 1) := by decide +kernel
theorem dX12_indexRead_69 : decode cX12_indexRead 69 = .ok (.putfield 315, 3) := by decide +kernel
theorem dX12_indexRead_72 : decode cX12_indexRead 72 = .ok (.aload_n 0, 1) := by decide +kernel
theorem dX12_indexRead_73 : decode cX12_indexRead 73 = .ok (.iconst 2, 1) := by decide +kernel
theorem dX12_indexRead_74 : decode cX12_indexRead 74 = .ok (.invokevirtual 328, 3) := by decide +kernel
theorem dX12_indexRead_77 : decode cX12_indexRead 77 = .ok (.return_, 1) := by decide +kernel
theorem dX12_indexes_0 : decode cX12_indexes 0 = .ok (.aload_n 0, 1) := by decide +kernel
theorem dX12_indexes_1 : decode cX12_indexes 1 = .ok (.getfield 270, 3) := by decide +kernel
theorem dX12_indexes_4 : decode cX12_indexes 4 = .ok (.ifCond .ne 12, 3) := by decide +kernel
theorem dX12_indexes_7 : decode cX12_indexes 7 = .ok (.aload_n 0, 1) := by decide +kernel
theorem dX12_indexes_8 : decode cX12_indexes 8 = .ok (.bipush 91, 2) := by decide +kernel
theorem dX12_indexes_10 : decode cX12_indexes 10 = .ok (.invokevirtual 318, 3) := by decide +kernel
theorem dX12_indexes_13 : decode cX12_indexes 13 = .ok (.ifCond .ne 4, 3) := by decide +kernel
theorem dX12_indexes_16 : decode cX12_indexes 16 = .ok (.return_, 1) := by decide +kernel
theorem dX12_indexes_17 : decode cX12_indexes 17 = .ok (.aload_n 0, 1) := by decide +kernel
theorem dX12_indexes_18 : decode cX12_indexes 18 = .ok (.dup, 1) := by decide +kernel
theorem dX12_indexes_19 : decode cX12_indexes 19 = .ok (.getfield 315, 3) := by decide +kernel
theorem dX12_indexes_22 : decode cX12_indexes 22 = .ok (.iconst 1, 1) := by decide +kernel
theorem dX12_indexes_23 : decode cX12_indexes 23 = .ok (.iadd, 1) := by decide +kernel
theorem dX12_indexes_24 : decode cX12_indexes 24 = .ok (.putfield 315, 3) := by decide +kernel
theorem dX12_indexes_27 : decode cX12_indexes 27 = .ok (.aload_n 0, 1) := by decide +kernel
theorem dX12_indexes_28 : decode cX12_indexes 28 = .ok (.iconst 1, 1) := by decide +kernel
theorem dX12_indexes_29 : decode cX12_indexes 29 = .ok (.invokevirtual 328, 3) := by decide +kernel
theorem dX12_indexes_32 : decode cX12_indexes 32 = .ok (.aload_n 0, 1) := by decide +kernel
theorem dX12_indexes_33 : decode cX12_indexes 33 = .ok (.getfield 270, 3) := by decide +kernel
theorem dX12_indexes_36 : decode cX12_indexes 36 = .ok (.ifCond .ne 27, 3) := by decide +kernel
theorem dX12_indexes_39 : decode cX12_indexes 39 = .ok (.aload_n 0, 1) := by decide +kernel
theorem dX12_indexes_40 : decode cX12_indexes 40 = .ok (.bipush 44, 2) := by decide +kernel
theorem dX12_indexes_42 : decode cX12_indexes 42 = .ok (.invokevirtual 318, 3) := by decide +kernel
theorem dX12_indexes_45 : decode cX12_indexes 45 = .ok (.ifCond .eq 18, 3) := by decide +kernel
theorem dX12_indexes_48 : decode cX12_indexes 48 = .ok (.aload_n 0, 1) := by decide +kernel
theorem dX12_indexes_49 : decode cX12_indexes 49 = .ok (.dup, 1) := by decide +kernel
theorem dX12_indexes_50 : decode cX12_indexes 50 = .ok (.getfield 315, 3) := by decide +kernel
theorem dX12_indexes_53 : decode cX12_indexes 53 = .ok (.iconst 1, 1) := by decide +kernel
theorem dX12_indexes_54 : decode cX12_indexes 54 = .ok (.iadd, 1) := by decide +kernel
theorem dX12_indexes_55 : decode cX12_indexes 55 = .ok (.putfield 315, 3) := by decide +kernel
theorem dX12_indexes_58 : decode cX12_indexes 58 = .ok (.aload_n 0, 1) := by decide +kernel
theorem dX12_indexes_59 : decode cX12_indexes 59 = .ok (.iconst 1, 1) := by decide +kernel
theorem dX12_indexes_60 : decode cX12_indexes 60 = .ok (.invokevirtual 328, 3) := by decide +kernel
theorem dX12_indexes_63 : decode cX12_indexes 63 = .ok (.aload_n 0, 1) := by decide +kernel
theorem dX12_indexes_64 : decode cX12_indexes 64 = .ok (.bipush 93, 2) := by decide +kernel
theorem dX12_indexes_66 : decode cX12_indexes 66 = .ok (.invokevirtual 331, 3) := by decide +kernel
theorem dX12_indexes_69 : decode cX12_indexes 69 = .ok (.return_, 1) := by decide +kernel
theorem dX12_isSign_0 : decode cX12_isSign 0 = .ok (.aload_n 0, 1) := by decide +kernel
theorem dX12_isSign_1 : decode cX12_isSign 1 = .ok (.getfield 47, 3) := by decide +kernel
theorem dX12_isSign_4 : decode cX12_isSign 4 = .ok (.aload_n 0, 1) := by decide +kernel
theorem dX12_isSign_5 : decode cX12_isSign 5 = .ok (.getfield 315, 3) := by decide +kernel
theorem dX12_isSign_8 : decode cX12_isSign 8 = .ok (.iaload, 1) := by decide +kernel
theorem dX12_isSign_9 : decode cX12_isSign 9 = .ok (.iconst 4, 1) := by decide +kernel
theorem dX12_isSign_10 : decode cX12_isSign 10 = .ok (.if_icmp .ne 20, 3) := by decide +kernel
theorem dX12_isSign_13 : decode cX12_isSign 13 = .ok (.aload_n 0, 1) := by decide +kernel
theorem dX12_isSign_14 : decode cX12_isSign 14 = .ok (.getfield 56, 3) := by decide +kernel
theorem dX12_isSign_17 : decode cX12_isSign 17 = .ok (.aload_n 0, 1) := by decide +kernel
theorem dX12_isSign_18 : decode cX12_isSign 18 = .ok (.getfield 315, 3) := by decide +kernel
theorem dX12_isSign_21 : decode cX12_isSign 21 = .ok (.iaload, 1) := by decide +kernel
theorem dX12_isSign_22 : decode cX12_isSign 22 = .ok (.iload_n 1, 1) := by decide +kernel
theorem dX12_isSign_23 : decode cX12_isSign 23 = .ok (.if_icmp .ne 7, 3) := by decide +kernel
theorem dX12_isSign_26 : decode cX12_isSign 26 = .ok (.iconst 1, 1) := by decide +kernel
theorem dX12_isSign_27 : decode cX12_isSign 27 = .ok (.goto 4, 3) := by decide +kernel
theorem dX12_isSign_30 : decode cX12_isSign 30 = .ok (.iconst 0, 1) := by decide +kernel
theorem dX12_isSign_31 : decode cX12_isSign 31 = .ok (.ireturn, 1) := by decide +kernel
theorem dX12_isWord_0 : decode cX12_isWord 0 = .ok (.aload_n 0, 1) := by decide +kernel
theorem dX12_isWord_1 : decode cX12_isWord 1 = .ok (.getfield 47, 3) := by decide +kernel
theorem dX12_isWord_4 : decode cX12_isWord 4 = .ok (.aload_n 0, 1) := by decide +kernel
theorem dX12_isWord_5 : decode cX12_isWord 5 = .ok (.getfield 315, 3) := by decide +kernel
theorem dX12_isWord_8 : decode cX12_isWord 8 = .ok (.iaload, 1) := by decide +kernel
theorem dX12_isWord_9 : decode cX12_isWord 9 = .ok (.iconst 3, 1) := by decide +kernel
theorem dX12_isWord_10 : decode cX12_isWord 10 = .ok (.if_icmp .ne 20, 3) := by decide +kernel
theorem dX12_isWord_13 : decode cX12_isWord 13 = .ok (.aload_n 0, 1) := by decide +kernel
theorem dX12_isWord_14 : decode cX12_isWord 14 = .ok (.getfield 56, 3) := by decide +kernel
theorem dX12_isWord_17 : decode cX12_isWord 17 = .ok (.aload_n 0, 1) := by decide +kernel
theorem dX12_isWord_18 : decode cX12_isWord 18 = .ok (.getfield 315, 3) := by decide +kernel
theorem dX12_isWord_21 : decode cX12_isWord 21 = .ok (.iaload, 1) := by decide +kernel
theorem dX12_isWord_22 : decode cX12_isWord 22 = .ok (.iload_n 1, 1) := by decide +kernel
theorem dX12_isWord_23 : decode cX12_isWord 23 = .ok (.if_icmp .ne 7, 3) := by decide +kernel
theorem dX12_isWord_26 : decode cX12_isWord 26 = .ok (.iconst 1, 1) := by decide +kernel
theorem dX12_isWord_27 : decode cX12_isWord 27 = .ok (.goto 4, 3) := by decide +kernel
theorem dX12_isWord_30 : decode cX12_isWord 30 = .ok (.iconst 0, 1) := by decide +kernel
theorem dX12_isWord_31 : decode cX12_isWord 31 = .ok (.ireturn, 1) := by decide +kernel
theorem dX12_told_0 : decode cX12_told 0 = .ok (.aload_n 0, 1) := by decide +kernel
theorem dX12_told_1 : decode cX12_told 1 = .ok (.getfield 56, 3) := by decide +kernel
theorem dX12_told_4 : decode cX12_told 4 = .ok (.aload_n 0, 1) := by decide +kernel
theorem dX12_told_5 : decode cX12_told 5 = .ok (.getfield 315, 3) := by decide +kernel
theorem dX12_told_8 : decode cX12_told 8 = .ok (.iaload, 1) := by decide +kernel
theorem dX12_told_9 : decode cX12_told 9 = .ok (.istore_n 1, 1) := by decide +kernel
theorem dX12_told_10 : decode cX12_told 10 = .ok (.aload_n 0, 1) := by decide +kernel
theorem dX12_told_11 : decode cX12_told 11 = .ok (.dup, 1) := by decide +kernel
theorem dX12_told_12 : decode cX12_told 12 = .ok (.getfield 315, 3) := by decide +kernel
theorem dX12_told_15 : decode cX12_told 15 = .ok (.iconst 1, 1) := by decide +kernel
theorem dX12_told_16 : decode cX12_told 16 = .ok (.iadd, 1) := by decide +kernel
theorem dX12_told_17 : decode cX12_told 17 = .ok (.putfield 315, 3) := by decide +kernel
theorem dX12_told_20 : decode cX12_told 20 = .ok (.aload_n 0, 1) := by decide +kernel
theorem dX12_told_21 : decode cX12_told 21 = .ok (.iconst 1, 1) := by decide +kernel
theorem dX12_told_22 : decode cX12_told 22 = .ok (.invokevirtual 328, 3) := by decide +kernel
theorem dX12_told_25 : decode cX12_told 25 = .ok (.iload_n 1, 1) := by decide +kernel
theorem dX12_told_26 : decode cX12_told 26 = .ok (.iconst 2, 1) := by decide +kernel
theorem dX12_told_27 : decode cX12_told 27 = .ok (.if_icmp .eq 7, 3) := by decide +kernel
theorem dX12_told_30 : decode cX12_told 30 = .ok (.aload_n 0, 1) := by decide +kernel
theorem dX12_told_31 : decode cX12_told 31 = .ok (.invokevirtual 343, 3) := by decide +kernel
theorem dX12_told_34 : decode cX12_told 34 = .ok (.iload_n 1, 1) := by decide +kernel
theorem dX12_told_35 : decode cX12_told 35 = .ok (.iconst 2, 1) := by decide +kernel
theorem dX12_told_36 : decode cX12_told 36 = .ok (.if_icmp .ne 27, 3) := by decide +kernel
theorem dX12_told_39 : decode cX12_told 39 = .ok (.aload_n 0, 1) := by decide +kernel
theorem dX12_told_40 : decode cX12_told 40 = .ok (.bipush 61, 2) := by decide +kernel
theorem dX12_told_42 : decode cX12_told 42 = .ok (.invokevirtual 331, 3) := by decide +kernel
theorem dX12_told_45 : decode cX12_told 45 = .ok (.aload_n 0, 1) := by decide +kernel
theorem dX12_told_46 : decode cX12_told 46 = .ok (.iconst 2, 1) := by decide +kernel
theorem dX12_told_47 : decode cX12_told 47 = .ok (.invokevirtual 328, 3) := by decide +kernel
theorem dX12_told_50 : decode cX12_told 50 = .ok (.aload_n 0, 1) := by decide +kernel
theorem dX12_told_51 : decode cX12_told 51 = .ok (.iconst 1, 1) := by decide +kernel
theorem dX12_told_52 : decode cX12_told 52 = .ok (.invokevirtual 331, 3) := by decide +kernel
theorem dX12_told_55 : decode cX12_told 55 = .ok (.aload_n 0, 1) := by decide +kernel
theorem dX12_told_56 : decode cX12_told 56 = .ok (.iconst 2, 1) := by decide +kernel
theorem dX12_told_57 : decode cX12_told 57 = .ok (.invokevirtual 328, 3) := by decide +kernel
theorem dX12_told_60 : decode cX12_told 60 = .ok (.goto 76, 3) := by decide +kernel
theorem dX12_told_63 : decode cX12_told 63 = .ok (.iload_n 1, 1) := by decide +kernel
theorem dX12_told_64 : decode cX12_told 64 = .ok (.iconst 3, 1) := by decide +kernel
theorem dX12_told_65 : decode cX12_told 65 = .ok (.if_icmp .ne 46, 3) := by decide +kernel
theorem dX12_told_68 : decode cX12_told 68 = .ok (.aload_n 0, 1) := by decide +kernel
theorem dX12_told_69 : decode cX12_told 69 = .ok (.bipush 61, 2) := by decide +kernel
theorem dX12_told_71 : decode cX12_told 71 = .ok (.invokevirtual 331, 3) := by decide +kernel
theorem dX12_told_74 : decode cX12_told 74 = .ok (.aload_n 0, 1) := by decide +kernel
theorem dX12_told_75 : decode cX12_told 75 = .ok (.invokevirtual 346, 3) := by decide +kernel
theorem dX12_told_78 : decode cX12_told 78 = .ok (.aload_n 0, 1) := by decide +kernel
theorem dX12_told_79 : decode cX12_told 79 = .ok (.getfield 270, 3) := by decide +kernel
theorem dX12_told_82 : decode cX12_told 82 = .ok (.ifCond .ne 54, 3) := by decide +kernel
theorem dX12_told_85 : decode cX12_told 85 = .ok (.aload_n 0, 1) := by decide +kernel
theorem dX12_told_86 : decode cX12_told 86 = .ok (.bipush 44, 2) := by decide +kernel
theorem dX12_told_88 : decode cX12_told 88 = .ok (.invokevirtual 318, 3) := by decide +kernel
theorem dX12_told_91 : decode cX12_told 91 = .ok (.ifCond .eq 45, 3) := by decide +kernel
theorem dX12_told_94 : decode cX12_told 94 = .ok (.aload_n 0, 1) := by decide +kernel
theorem dX12_told_95 : decode cX12_told 95 = .ok (.dup, 1) := by decide +kernel
theorem dX12_told_96 : decode cX12_told 96 = .ok (.getfield 315, 3) := by decide +kernel
theorem dX12_told_99 : decode cX12_told 99 = .ok (.iconst 1, 1) := by decide +kernel
theorem dX12_told_100 : decode cX12_told 100 = .ok (.iadd, 1) := by decide +kernel
theorem dX12_told_101 : decode cX12_told 101 = .ok (.putfield 315, 3) := by decide +kernel
theorem dX12_told_104 : decode cX12_told 104 = .ok (.aload_n 0, 1) := by decide +kernel
theorem dX12_told_105 : decode cX12_told 105 = .ok (.invokevirtual 346, 3) := by decide +kernel
theorem dX12_told_108 : decode cX12_told 108 = .ok (.goto (-30), 3) := by decide +kernel
theorem dX12_told_111 : decode cX12_told 111 = .ok (.aload_n 0, 1) := by decide +kernel
theorem dX12_told_112 : decode cX12_told 112 = .ok (.getfield 270, 3) := by decide +kernel
theorem dX12_told_115 : decode cX12_told 115 = .ok (.ifCond .ne 21, 3) := by decide +kernel
theorem dX12_told_118 : decode cX12_told 118 = .ok (.aload_n 0, 1) := by decide +kernel
theorem dX12_told_119 : decode cX12_told 119 = .ok (.iconst 5, 1) := by decide +kernel
theorem dX12_told_120 : decode cX12_told 120 = .ok (.invokevirtual 325, 3) := by decide +kernel
theorem dX12_told_123 : decode cX12_told 123 = .ok (.ifCond .eq 13, 3) := by decide +kernel
theorem dX12_told_126 : decode cX12_told 126 = .ok (.aload_n 0, 1) := by decide +kernel
theorem dX12_told_127 : decode cX12_told 127 = .ok (.dup, 1) := by decide +kernel
theorem dX12_told_128 : decode cX12_told 128 = .ok (.getfield 315, 3) := by decide +kernel
theorem dX12_told_131 : decode cX12_told 131 = .ok (.iconst 1, 1) := by decide +kernel
theorem dX12_told_132 : decode cX12_told 132 = .ok (.iadd, 1) := by decide +kernel
theorem dX12_told_133 : decode cX12_told 133 = .ok (.putfield 315, 3) := by decide +kernel
theorem dX12_told_136 : decode cX12_told 136 = .ok (.aload_n 0, 1) := by decide +kernel
theorem dX12_told_137 : decode cX12_told 137 = .ok (.bipush 59, 2) := by decide +kernel
theorem dX12_told_139 : decode cX12_told 139 = .ok (.invokevirtual 331, 3) := by decide +kernel
theorem dX12_told_142 : decode cX12_told 142 = .ok (.return_, 1) := by decide +kernel
theorem dX12_valueRead_0 : decode cX12_valueRead 0 = .ok (.aload_n 0, 1) := by decide +kernel
theorem dX12_valueRead_1 : decode cX12_valueRead 1 = .ok (.getfield 270, 3) := by decide +kernel
theorem dX12_valueRead_4 : decode cX12_valueRead 4 = .ok (.ifCond .ne 22, 3) := by decide +kernel
theorem dX12_valueRead_7 : decode cX12_valueRead 7 = .ok (.aload_n 0, 1) := by decide +kernel
theorem dX12_valueRead_8 : decode cX12_valueRead 8 = .ok (.bipush 45, 2) := by decide +kernel
theorem dX12_valueRead_10 : decode cX12_valueRead 10 = .ok (.invokevirtual 318, 3) := by decide +kernel
theorem dX12_valueRead_13 : decode cX12_valueRead 13 = .ok (.ifCond .eq 13, 3) := by decide +kernel
theorem dX12_valueRead_16 : decode cX12_valueRead 16 = .ok (.aload_n 0, 1) := by decide +kernel
theorem dX12_valueRead_17 : decode cX12_valueRead 17 = .ok (.dup, 1) := by decide +kernel
theorem dX12_valueRead_18 : decode cX12_valueRead 18 = .ok (.getfield 315, 3) := by decide +kernel
theorem dX12_valueRead_21 : decode cX12_valueRead 21 = .ok (.iconst 1, 1) := by decide +kernel
theorem dX12_valueRead_22 : decode cX12_valueRead 22 = .ok (.iadd, 1) := by decide +kernel
theorem dX12_valueRead_23 : decode cX12_valueRead 23 = .ok (.putfield 315, 3) := by decide +kernel
theorem dX12_valueRead_26 : decode cX12_valueRead 26 = .ok (.aload_n 0, 1) := by decide +kernel
theorem dX12_valueRead_27 : decode cX12_valueRead 27 = .ok (.iconst 2, 1) := by decide +kernel
theorem dX12_valueRead_28 : decode cX12_valueRead 28 = .ok (.invokevirtual 328, 3) := by decide +kernel
theorem dX12_valueRead_31 : decode cX12_valueRead 31 = .ok (.return_, 1) := by decide +kernel
theorem dX12_want_0 : decode cX12_want 0 = .ok (.aload_n 0, 1) := by decide +kernel
theorem dX12_want_1 : decode cX12_want 1 = .ok (.getfield 270, 3) := by decide +kernel
theorem dX12_want_4 : decode cX12_want 4 = .ok (.ifCond .ne 20, 3) := by decide +kernel
theorem dX12_want_7 : decode cX12_want 7 = .ok (.aload_n 0, 1) := by decide +kernel
theorem dX12_want_8 : decode cX12_want 8 = .ok (.iload_n 1, 1) := by decide +kernel
theorem dX12_want_9 : decode cX12_want 9 = .ok (.invokevirtual 318, 3) := by decide +kernel
theorem dX12_want_12 : decode cX12_want 12 = .ok (.ifCond .ne 12, 3) := by decide +kernel
theorem dX12_want_15 : decode cX12_want 15 = .ok (.aload_n 0, 1) := by decide +kernel
theorem dX12_want_16 : decode cX12_want 16 = .ok (.iconst 1, 1) := by decide +kernel
theorem dX12_want_17 : decode cX12_want 17 = .ok (.aload_n 0, 1) := by decide +kernel
theorem dX12_want_18 : decode cX12_want 18 = .ok (.getfield 315, 3) := by decide +kernel
theorem dX12_want_21 : decode cX12_want 21 = .ok (.invokevirtual 321, 3) := by decide +kernel
theorem dX12_want_24 : decode cX12_want 24 = .ok (.aload_n 0, 1) := by decide +kernel
theorem dX12_want_25 : decode cX12_want 25 = .ok (.dup, 1) := by decide +kernel
theorem dX12_want_26 : decode cX12_want 26 = .ok (.getfield 315, 3) := by decide +kernel
theorem dX12_want_29 : decode cX12_want 29 = .ok (.iconst 1, 1) := by decide +kernel
theorem dX12_want_30 : decode cX12_want 30 = .ok (.iadd, 1) := by decide +kernel
theorem dX12_want_31 : decode cX12_want 31 = .ok (.putfield 315, 3) := by decide +kernel
theorem dX12_want_34 : decode cX12_want 34 = .ok (.return_, 1) := by decide +kernel
theorem dX12_wantKind_0 : decode cX12_wantKind 0 = .ok (.aload_n 0, 1) := by decide +kernel
theorem dX12_wantKind_1 : decode cX12_wantKind 1 = .ok (.getfield 270, 3) := by decide +kernel
theorem dX12_wantKind_4 : decode cX12_wantKind 4 = .ok (.ifCond .ne 25, 3) := by decide +kernel
theorem dX12_wantKind_7 : decode cX12_wantKind 7 = .ok (.aload_n 0, 1) := by decide +kernel
theorem dX12_wantKind_8 : decode cX12_wantKind 8 = .ok (.getfield 47, 3) := by decide +kernel
theorem dX12_wantKind_11 : decode cX12_wantKind 11 = .ok (.aload_n 0, 1) := by decide +kernel
theorem dX12_wantKind_12 : decode cX12_wantKind 12 = .ok (.getfield 315, 3) := by decide +kernel
theorem dX12_wantKind_15 : decode cX12_wantKind 15 = .ok (.iaload, 1) := by decide +kernel
theorem dX12_wantKind_16 : decode cX12_wantKind 16 = .ok (.iload_n 1, 1) := by decide +kernel
theorem dX12_wantKind_17 : decode cX12_wantKind 17 = .ok (.if_icmp .eq 12, 3) := by decide +kernel
theorem dX12_wantKind_20 : decode cX12_wantKind 20 = .ok (.aload_n 0, 1) := by decide +kernel
theorem dX12_wantKind_21 : decode cX12_wantKind 21 = .ok (.iconst 1, 1) := by decide +kernel
theorem dX12_wantKind_22 : decode cX12_wantKind 22 = .ok (.aload_n 0, 1) := by decide +kernel
theorem dX12_wantKind_23 : decode cX12_wantKind 23 = .ok (.getfield 315, 3) := by decide +kernel
theorem dX12_wantKind_26 : decode cX12_wantKind 26 = .ok (.invokevirtual 321, 3) := by decide +kernel
theorem dX12_wantKind_29 : decode cX12_wantKind 29 = .ok (.aload_n 0, 1) := by decide +kernel
theorem dX12_wantKind_30 : decode cX12_wantKind 30 = .ok (.dup, 1) := by decide +kernel
theorem dX12_wantKind_31 : decode cX12_wantKind 31 = .ok (.getfield 315, 3) := by decide +kernel
theorem dX12_wantKind_34 : decode cX12_wantKind 34 = .ok (.iconst 1, 1) := by decide +kernel
theorem dX12_wantKind_35 : decode cX12_wantKind 35 = .ok (.iadd, 1) := by decide +kernel
theorem dX12_wantKind_36 : decode cX12_wantKind 36 = .ok (.putfield 315, 3) := by decide +kernel
theorem dX12_wantKind_39 : decode cX12_wantKind 39 = .ok (.return_, 1) := by decide +kernel
theorem dX12_wantWord_0 : decode cX12_wantWord 0 = .ok (.aload_n 0, 1) := by decide +kernel
theorem dX12_wantWord_1 : decode cX12_wantWord 1 = .ok (.getfield 270, 3) := by decide +kernel
theorem dX12_wantWord_4 : decode cX12_wantWord 4 = .ok (.ifCond .ne 20, 3) := by decide +kernel
theorem dX12_wantWord_7 : decode cX12_wantWord 7 = .ok (.aload_n 0, 1) := by decide +kernel
theorem dX12_wantWord_8 : decode cX12_wantWord 8 = .ok (.iload_n 1, 1) := by decide +kernel
theorem dX12_wantWord_9 : decode cX12_wantWord 9 = .ok (.invokevirtual 325, 3) := by decide +kernel
theorem dX12_wantWord_12 : decode cX12_wantWord 12 = .ok (.ifCond .ne 12, 3) := by decide +kernel
theorem dX12_wantWord_15 : decode cX12_wantWord 15 = .ok (.aload_n 0, 1) := by decide +kernel
theorem dX12_wantWord_16 : decode cX12_wantWord 16 = .ok (.iconst 1, 1) := by decide +kernel
theorem dX12_wantWord_17 : decode cX12_wantWord 17 = .ok (.aload_n 0, 1) := by decide +kernel
theorem dX12_wantWord_18 : decode cX12_wantWord 18 = .ok (.getfield 315, 3) := by decide +kernel
theorem dX12_wantWord_21 : decode cX12_wantWord 21 = .ok (.invokevirtual 321, 3) := by decide +kernel
theorem dX12_wantWord_24 : decode cX12_wantWord 24 = .ok (.aload_n 0, 1) := by decide +kernel
theorem dX12_wantWord_25 : decode cX12_wantWord 25 = .ok (.dup, 1) := by decide +kernel
theorem dX12_wantWord_26 : decode cX12_wantWord 26 = .ok (.getfield 315, 3) := by decide +kernel
theorem dX12_wantWord_29 : decode cX12_wantWord 29 = .ok (.iconst 1, 1) := by decide +kernel
theorem dX12_wantWord_30 : decode cX12_wantWord 30 = .ok (.iadd, 1) := by decide +kernel
theorem dX12_wantWord_31 : decode cX12_wantWord 31 = .ok (.putfield 315, 3) := by decide +kernel
theorem dX12_wantWord_34 : decode cX12_wantWord 34 = .ok (.return_, 1) := by decide +kernel
theorem dX12_wrong_0 : decode cX12_wrong 0 = .ok (.aload_n 0, 1) := by decide +kernel
theorem dX12_wrong_1 : decode cX12_wrong 1 = .ok (.getfield 270, 3) := by decide +kernel
theorem dX12_wrong_4 : decode cX12_wrong 4 = .ok (.ifCond .eq 4, 3) := by decide +kernel
theorem dX12_wrong_7 : decode cX12_wrong 7 = .ok (.return_, 1) := by decide +kernel
theorem dX12_wrong_8 : decode cX12_wrong 8 = .ok (.aload_n 0, 1) := by decide +kernel
theorem dX12_wrong_9 : decode cX12_wrong 9 = .ok (.iload_n 1, 1) := by decide +kernel
theorem dX12_wrong_10 : decode cX12_wrong 10 = .ok (.putfield 270, 3) := by decide +kernel
theorem dX12_wrong_13 : decode cX12_wrong 13 = .ok (.aload_n 0, 1) := by decide +kernel
theorem dX12_wrong_14 : decode cX12_wrong 14 = .ok (.aload_n 0, 1) := by decide +kernel
theorem dX12_wrong_15 : decode cX12_wrong 15 = .ok (.getfield 50, 3) := by decide +kernel
theorem dX12_wrong_18 : decode cX12_wrong 18 = .ok (.iload_n 2, 1) := by decide +kernel
theorem dX12_wrong_19 : decode cX12_wrong 19 = .ok (.iaload, 1) := by decide +kernel
theorem dX12_wrong_20 : decode cX12_wrong 20 = .ok (.putfield 273, 3) := by decide +kernel
theorem dX12_wrong_23 : decode cX12_wrong 23 = .ok (.return_, 1) := by decide +kernel
theorem w_110 : Cond.selects RX12 yX12_isWord yX12_isWord ∈ tb := sel_7 (q := (yX12_isWord, 105)) 14 (by decide +kernel)
theorem w_112 : Cond.selects RX12 yX12_wantKind yX12_wantKind ∈ tb := sel_8 (q := (yX12_wantKind, 105)) 0 (by decide +kernel)
theorem w_113 : Cond.selects RX12 yX12_wrong yX12_wrong ∈ tb := sel_8 (q := (yX12_wrong, 105)) 1 (by decide +kernel)
theorem w_114 : Cond.selects RX12 yX12_indexes yX12_indexes ∈ tb := sel_8 (q := (yX12_indexes, 105)) 2 (by decide +kernel)
theorem w_115 : Cond.selects RX12 yX12_isSign yX12_isSign ∈ tb := sel_8 (q := (yX12_isSign, 105)) 3 (by decide +kernel)
theorem w_116 : Cond.selects RX12 yX12_want yX12_want ∈ tb := sel_8 (q := (yX12_want, 105)) 4 (by decide +kernel)
theorem w_117 : Cond.selects RX12 yX12_valueRead yX12_valueRead ∈ tb := sel_8 (q := (yX12_valueRead, 105)) 5 (by decide +kernel)
theorem w_217 : Cond.initialized RX12 ∈ tb := tbc_1 14 (by decide +kernel) rfl
theorem w_1976 : Cond.fieldLink RX12 47 (TX12 15).1 (TX12 15).2.1 (TX12 15).2.2.1 ∈ tb := tbc_8 93 (by decide +kernel) rfl
theorem w_1977 : Cond.fieldLink RX12 50 (TX12 16).1 (TX12 16).2.1 (TX12 16).2.2.1 ∈ tb := tbc_8 94 (by decide +kernel) rfl
theorem w_1979 : Cond.fieldLink RX12 56 (TX12 18).1 (TX12 18).2.1 (TX12 18).2.2.1 ∈ tb := tbc_8 96 (by decide +kernel) rfl
theorem w_1981 : Cond.fieldLink RX12 270 (TX12 20).1 (TX12 20).2.1 (TX12 20).2.2.1 ∈ tb := tbc_8 98 (by decide +kernel) rfl
theorem w_1982 : Cond.fieldLink RX12 273 (TX12 21).1 (TX12 21).2.1 (TX12 21).2.2.1 ∈ tb := tbc_8 99 (by decide +kernel) rfl
theorem w_1985 : Cond.fieldLink RX12 315 (TX12 24).1 (TX12 24).2.1 (TX12 24).2.2.1 ∈ tb := tbc_8 102 (by decide +kernel) rfl
theorem w_2066 : u_lay RX12 TX12 0 ∈ tb := tbc_8 183 (by decide +kernel) rfl
theorem w_2068 : u_lay RX12 TX12 1 ∈ tb := tbc_8 185 (by decide +kernel) rfl
theorem w_2070 : u_lay RX12 TX12 2 ∈ tb := tbc_8 187 (by decide +kernel) rfl
theorem w_2072 : u_lay RX12 TX12 3 ∈ tb := tbc_8 189 (by decide +kernel) rfl
theorem w_2074 : u_lay RX12 TX12 4 ∈ tb := tbc_8 191 (by decide +kernel) rfl
theorem w_2076 : u_lay RX12 TX12 5 ∈ tb := tbc_8 193 (by decide +kernel) rfl
theorem w_2078 : u_lay RX12 TX12 6 ∈ tb := tbc_8 195 (by decide +kernel) rfl
theorem w_2080 : u_lay RX12 TX12 7 ∈ tb := tbc_8 197 (by decide +kernel) rfl
theorem w_2082 : u_lay RX12 TX12 8 ∈ tb := tbc_8 199 (by decide +kernel) rfl
theorem w_2084 : u_lay RX12 TX12 9 ∈ tb := tbc_8 201 (by decide +kernel) rfl
theorem w_2086 : u_lay RX12 TX12 10 ∈ tb := tbc_8 203 (by decide +kernel) rfl
theorem w_2088 : u_lay RX12 TX12 11 ∈ tb := tbc_8 205 (by decide +kernel) rfl
theorem w_2090 : u_lay RX12 TX12 12 ∈ tb := tbc_8 207 (by decide +kernel) rfl
theorem w_2092 : u_lay RX12 TX12 13 ∈ tb := tbc_8 209 (by decide +kernel) rfl
theorem w_2094 : u_lay RX12 TX12 14 ∈ tb := tbc_8 211 (by decide +kernel) rfl
theorem w_2096 : u_lay RX12 TX12 15 ∈ tb := tbc_8 213 (by decide +kernel) rfl
theorem w_2098 : u_lay RX12 TX12 16 ∈ tb := tbc_8 215 (by decide +kernel) rfl
theorem w_2100 : u_lay RX12 TX12 17 ∈ tb := tbc_8 217 (by decide +kernel) rfl
theorem w_2102 : u_lay RX12 TX12 18 ∈ tb := tbc_8 219 (by decide +kernel) rfl
theorem w_2104 : u_lay RX12 TX12 19 ∈ tb := tbc_8 221 (by decide +kernel) rfl
theorem w_2106 : u_lay RX12 TX12 20 ∈ tb := tbc_8 223 (by decide +kernel) rfl
theorem w_2108 : u_lay RX12 TX12 21 ∈ tb := tbc_8 225 (by decide +kernel) rfl
theorem w_2110 : u_lay RX12 TX12 22 ∈ tb := tbc_8 227 (by decide +kernel) rfl
theorem w_2112 : u_lay RX12 TX12 23 ∈ tb := tbc_8 229 (by decide +kernel) rfl
theorem w_2114 : u_lay RX12 TX12 24 ∈ tb := tbc_8 231 (by decide +kernel) rfl
theorem w_2116 : u_lay RX12 TX12 25 ∈ tb := tbc_8 233 (by decide +kernel) rfl
theorem w_2118 : u_lay RX12 TX12 26 ∈ tb := tbc_8 235 (by decide +kernel) rfl
theorem w_2120 : u_lay RX12 TX12 27 ∈ tb := tbc_8 237 (by decide +kernel) rfl
theorem w_2122 : u_lay RX12 TX12 28 ∈ tb := tbc_8 239 (by decide +kernel) rfl
theorem w_2124 : u_lay RX12 TX12 29 ∈ tb := tbc_9 1 (by decide +kernel) rfl
theorem w_2126 : u_lay RX12 TX12 30 ∈ tb := tbc_9 3 (by decide +kernel) rfl
theorem w_2128 : u_lay RX12 TX12 31 ∈ tb := tbc_9 5 (by decide +kernel) rfl
theorem w_2130 : u_lay RX12 TX12 32 ∈ tb := tbc_9 7 (by decide +kernel) rfl
theorem w_2132 : u_lay RX12 TX12 33 ∈ tb := tbc_9 9 (by decide +kernel) rfl
theorem w_2134 : u_lay RX12 TX12 34 ∈ tb := tbc_9 11 (by decide +kernel) rfl
theorem w_2136 : u_lay RX12 TX12 35 ∈ tb := tbc_9 13 (by decide +kernel) rfl
theorem w_2138 : u_lay RX12 TX12 36 ∈ tb := tbc_9 15 (by decide +kernel) rfl
theorem w_2140 : u_lay RX12 TX12 37 ∈ tb := tbc_9 17 (by decide +kernel) rfl
theorem w_2142 : u_lay RX12 TX12 38 ∈ tb := tbc_9 19 (by decide +kernel) rfl
theorem w_2144 : u_lay RX12 TX12 39 ∈ tb := tbc_9 21 (by decide +kernel) rfl
theorem w_2146 : u_lay RX12 TX12 40 ∈ tb := tbc_9 23 (by decide +kernel) rfl
theorem w_2148 : u_lay RX12 TX12 41 ∈ tb := tbc_9 25 (by decide +kernel) rfl
theorem w_2150 : u_lay RX12 TX12 42 ∈ tb := tbc_9 27 (by decide +kernel) rfl
theorem w_2152 : u_lay RX12 TX12 43 ∈ tb := tbc_9 29 (by decide +kernel) rfl
theorem w_2154 : u_lay RX12 TX12 44 ∈ tb := tbc_9 31 (by decide +kernel) rfl
theorem w_2156 : u_lay RX12 TX12 45 ∈ tb := tbc_9 33 (by decide +kernel) rfl
theorem w_2158 : u_lay RX12 TX12 46 ∈ tb := tbc_9 35 (by decide +kernel) rfl
theorem w_2160 : u_lay RX12 TX12 47 ∈ tb := tbc_9 37 (by decide +kernel) rfl
theorem w_2162 : u_lay RX12 TX12 48 ∈ tb := tbc_9 39 (by decide +kernel) rfl
theorem w_2164 : u_lay RX12 TX12 49 ∈ tb := tbc_9 41 (by decide +kernel) rfl
theorem w_2166 : u_lay RX12 TX12 50 ∈ tb := tbc_9 43 (by decide +kernel) rfl
theorem w_2168 : u_lay RX12 TX12 51 ∈ tb := tbc_9 45 (by decide +kernel) rfl
theorem w_2170 : u_lay RX12 TX12 52 ∈ tb := tbc_9 47 (by decide +kernel) rfl
theorem w_2172 : u_lay RX12 TX12 53 ∈ tb := tbc_9 49 (by decide +kernel) rfl
theorem w_2174 : u_lay RX12 TX12 54 ∈ tb := tbc_9 51 (by decide +kernel) rfl
theorem w_2176 : u_lay RX12 TX12 55 ∈ tb := tbc_9 53 (by decide +kernel) rfl
theorem w_2178 : u_lay RX12 TX12 56 ∈ tb := tbc_9 55 (by decide +kernel) rfl
theorem w_2180 : u_lay RX12 TX12 57 ∈ tb := tbc_9 57 (by decide +kernel) rfl
theorem w_2182 : u_lay RX12 TX12 58 ∈ tb := tbc_9 59 (by decide +kernel) rfl
theorem w_2184 : u_lay RX12 TX12 59 ∈ tb := tbc_9 61 (by decide +kernel) rfl
theorem w_2186 : u_lay RX12 TX12 60 ∈ tb := tbc_9 63 (by decide +kernel) rfl
theorem w_2188 : u_lay RX12 TX12 61 ∈ tb := tbc_9 65 (by decide +kernel) rfl
theorem w_2190 : u_lay RX12 TX12 62 ∈ tb := tbc_9 67 (by decide +kernel) rfl
theorem w_2192 : u_lay RX12 TX12 63 ∈ tb := tbc_9 69 (by decide +kernel) rfl
theorem w_2194 : u_lay RX12 TX12 64 ∈ tb := tbc_9 71 (by decide +kernel) rfl
theorem w_2196 : u_lay RX12 TX12 65 ∈ tb := tbc_9 73 (by decide +kernel) rfl
theorem w_2198 : u_lay RX12 TX12 66 ∈ tb := tbc_9 75 (by decide +kernel) rfl
theorem w_2200 : u_lay RX12 TX12 67 ∈ tb := tbc_9 77 (by decide +kernel) rfl
theorem w_2202 : u_lay RX12 TX12 68 ∈ tb := tbc_9 79 (by decide +kernel) rfl
theorem w_2204 : u_lay RX12 TX12 69 ∈ tb := tbc_9 81 (by decide +kernel) rfl
theorem w_2206 : u_lay RX12 TX12 70 ∈ tb := tbc_9 83 (by decide +kernel) rfl
theorem w_2208 : u_lay RX12 TX12 71 ∈ tb := tbc_9 85 (by decide +kernel) rfl
theorem w_2210 : u_lay RX12 TX12 72 ∈ tb := tbc_9 87 (by decide +kernel) rfl
theorem w_2212 : u_lay RX12 TX12 73 ∈ tb := tbc_9 89 (by decide +kernel) rfl
theorem w_2214 : u_lay RX12 TX12 74 ∈ tb := tbc_9 91 (by decide +kernel) rfl
theorem w_2216 : u_lay RX12 TX12 75 ∈ tb := tbc_9 93 (by decide +kernel) rfl
theorem w_2218 : u_lay RX12 TX12 76 ∈ tb := tbc_9 95 (by decide +kernel) rfl
theorem w_2220 : u_lay RX12 TX12 77 ∈ tb := tbc_9 97 (by decide +kernel) rfl
theorem w_2222 : u_lay RX12 TX12 78 ∈ tb := tbc_9 99 (by decide +kernel) rfl
theorem w_2224 : u_lay RX12 TX12 79 ∈ tb := tbc_9 101 (by decide +kernel) rfl
theorem w_2226 : u_lay RX12 TX12 80 ∈ tb := tbc_9 103 (by decide +kernel) rfl
theorem w_2228 : u_lay RX12 TX12 81 ∈ tb := tbc_9 105 (by decide +kernel) rfl
theorem w_2230 : u_lay RX12 TX12 82 ∈ tb := tbc_9 107 (by decide +kernel) rfl
theorem w_2232 : u_lay RX12 TX12 83 ∈ tb := tbc_9 109 (by decide +kernel) rfl
theorem w_2234 : u_lay RX12 TX12 84 ∈ tb := tbc_9 111 (by decide +kernel) rfl
theorem w_2236 : u_lay RX12 TX12 85 ∈ tb := tbc_9 113 (by decide +kernel) rfl
theorem w_2238 : u_lay RX12 TX12 86 ∈ tb := tbc_9 115 (by decide +kernel) rfl
theorem w_2240 : u_lay RX12 TX12 87 ∈ tb := tbc_9 117 (by decide +kernel) rfl
theorem w_2242 : u_lay RX12 TX12 88 ∈ tb := tbc_9 119 (by decide +kernel) rfl
theorem w_2244 : u_lay RX12 TX12 89 ∈ tb := tbc_9 121 (by decide +kernel) rfl
theorem w_2246 : u_lay RX12 TX12 90 ∈ tb := tbc_9 123 (by decide +kernel) rfl
theorem w_2248 : u_lay RX12 TX12 91 ∈ tb := tbc_9 125 (by decide +kernel) rfl
theorem w_2250 : u_lay RX12 TX12 92 ∈ tb := tbc_9 127 (by decide +kernel) rfl
theorem w_2252 : u_lay RX12 TX12 93 ∈ tb := tbc_9 129 (by decide +kernel) rfl
theorem w_2254 : u_lay RX12 TX12 94 ∈ tb := tbc_9 131 (by decide +kernel) rfl
theorem w_2256 : u_lay RX12 TX12 95 ∈ tb := tbc_9 133 (by decide +kernel) rfl
theorem w_2258 : u_lay RX12 TX12 96 ∈ tb := tbc_9 135 (by decide +kernel) rfl
theorem w_2260 : u_lay RX12 TX12 97 ∈ tb := tbc_9 137 (by decide +kernel) rfl
theorem w_2262 : u_lay RX12 TX12 98 ∈ tb := tbc_9 139 (by decide +kernel) rfl
theorem w_2264 : u_lay RX12 TX12 99 ∈ tb := tbc_9 141 (by decide +kernel) rfl
theorem w_2266 : u_lay RX12 TX12 100 ∈ tb := tbc_9 143 (by decide +kernel) rfl
theorem w_2268 : u_lay RX12 TX12 101 ∈ tb := tbc_9 145 (by decide +kernel) rfl
theorem w_2270 : u_lay RX12 TX12 102 ∈ tb := tbc_9 147 (by decide +kernel) rfl
theorem w_2272 : u_lay RX12 TX12 103 ∈ tb := tbc_9 149 (by decide +kernel) rfl
theorem w_2274 : u_lay RX12 TX12 104 ∈ tb := tbc_9 151 (by decide +kernel) rfl
theorem w_2326 : Cond.methodLink RX12 325 yX12_isWord ∈ tb := tbc_9 203 (by decide +kernel) rfl
theorem w_2328 : Cond.instanceMethod yX12_isWord ∈ tb := tbc_9 205 (by decide +kernel) rfl
theorem w_2329 : Cond.code yX12_isWord cX12_isWord 2 (some .boolean) ∈ tb := tbc_9 206 (by decide +kernel) rfl
theorem w_2334 : Cond.methodLink RX12 328 yX12_wantKind ∈ tb := tbc_9 211 (by decide +kernel) rfl
theorem w_2336 : Cond.instanceMethod yX12_wantKind ∈ tb := tbc_9 213 (by decide +kernel) rfl
theorem w_2337 : Cond.code yX12_wantKind cX12_wantKind 2 none ∈ tb := tbc_9 214 (by decide +kernel) rfl
theorem w_2338 : Cond.methodLink RX12 321 yX12_wrong ∈ tb := tbc_9 215 (by decide +kernel) rfl
theorem w_2340 : Cond.instanceMethod yX12_wrong ∈ tb := tbc_9 217 (by decide +kernel) rfl
theorem w_2341 : Cond.code yX12_wrong cX12_wrong 3 none ∈ tb := tbc_9 218 (by decide +kernel) rfl
theorem w_2342 : Cond.methodLink RX12 343 yX12_indexes ∈ tb := tbc_9 219 (by decide +kernel) rfl
theorem w_2344 : Cond.instanceMethod yX12_indexes ∈ tb := tbc_9 221 (by decide +kernel) rfl
theorem w_2345 : Cond.code yX12_indexes cX12_indexes 1 none ∈ tb := tbc_9 222 (by decide +kernel) rfl
theorem w_2346 : Cond.methodLink RX12 318 yX12_isSign ∈ tb := tbc_9 223 (by decide +kernel) rfl
theorem w_2348 : Cond.instanceMethod yX12_isSign ∈ tb := tbc_9 225 (by decide +kernel) rfl
theorem w_2349 : Cond.code yX12_isSign cX12_isSign 2 (some .boolean) ∈ tb := tbc_9 226 (by decide +kernel) rfl
theorem w_2350 : Cond.methodLink RX12 331 yX12_want ∈ tb := tbc_9 227 (by decide +kernel) rfl
theorem w_2352 : Cond.instanceMethod yX12_want ∈ tb := tbc_9 229 (by decide +kernel) rfl
theorem w_2353 : Cond.code yX12_want cX12_want 2 none ∈ tb := tbc_9 230 (by decide +kernel) rfl
theorem w_2354 : Cond.methodLink RX12 346 yX12_valueRead ∈ tb := tbc_9 231 (by decide +kernel) rfl
theorem w_2356 : Cond.instanceMethod yX12_valueRead ∈ tb := tbc_9 233 (by decide +kernel) rfl
theorem w_2357 : Cond.code yX12_valueRead cX12_valueRead 1 none ∈ tb := tbc_9 234 (by decide +kernel) rfl
theorem inX12 : ∀ w ∈ u_ws RX12 TX12 105, w ∈ tb := by
  show ∀ w ∈ [u_lay RX12 TX12 0, u_lay RX12 TX12 1, u_lay RX12 TX12 2, u_lay RX12 TX12 3, u_lay RX12 TX12 4, u_lay RX12 TX12 5, u_lay RX12 TX12 6, u_lay RX12 TX12 7, u_lay RX12 TX12 8, u_lay RX12 TX12 9, u_lay RX12 TX12 10, u_lay RX12 TX12 11, u_lay RX12 TX12 12, u_lay RX12 TX12 13, u_lay RX12 TX12 14, u_lay RX12 TX12 15, u_lay RX12 TX12 16, u_lay RX12 TX12 17, u_lay RX12 TX12 18, u_lay RX12 TX12 19, u_lay RX12 TX12 20, u_lay RX12 TX12 21, u_lay RX12 TX12 22, u_lay RX12 TX12 23, u_lay RX12 TX12 24, u_lay RX12 TX12 25, u_lay RX12 TX12 26, u_lay RX12 TX12 27, u_lay RX12 TX12 28, u_lay RX12 TX12 29, u_lay RX12 TX12 30, u_lay RX12 TX12 31, u_lay RX12 TX12 32, u_lay RX12 TX12 33, u_lay RX12 TX12 34, u_lay RX12 TX12 35, u_lay RX12 TX12 36, u_lay RX12 TX12 37, u_lay RX12 TX12 38, u_lay RX12 TX12 39, u_lay RX12 TX12 40, u_lay RX12 TX12 41, u_lay RX12 TX12 42, u_lay RX12 TX12 43, u_lay RX12 TX12 44, u_lay RX12 TX12 45, u_lay RX12 TX12 46, u_lay RX12 TX12 47, u_lay RX12 TX12 48, u_lay RX12 TX12 49, u_lay RX12 TX12 50, u_lay RX12 TX12 51, u_lay RX12 TX12 52, u_lay RX12 TX12 53, u_lay RX12 TX12 54, u_lay RX12 TX12 55, u_lay RX12 TX12 56, u_lay RX12 TX12 57, u_lay RX12 TX12 58, u_lay RX12 TX12 59, u_lay RX12 TX12 60, u_lay RX12 TX12 61, u_lay RX12 TX12 62, u_lay RX12 TX12 63, u_lay RX12 TX12 64, u_lay RX12 TX12 65, u_lay RX12 TX12 66, u_lay RX12 TX12 67, u_lay RX12 TX12 68, u_lay RX12 TX12 69, u_lay RX12 TX12 70, u_lay RX12 TX12 71, u_lay RX12 TX12 72, u_lay RX12 TX12 73, u_lay RX12 TX12 74, u_lay RX12 TX12 75, u_lay RX12 TX12 76, u_lay RX12 TX12 77, u_lay RX12 TX12 78, u_lay RX12 TX12 79, u_lay RX12 TX12 80, u_lay RX12 TX12 81, u_lay RX12 TX12 82, u_lay RX12 TX12 83, u_lay RX12 TX12 84, u_lay RX12 TX12 85, u_lay RX12 TX12 86, u_lay RX12 TX12 87, u_lay RX12 TX12 88, u_lay RX12 TX12 89, u_lay RX12 TX12 90, u_lay RX12 TX12 91, u_lay RX12 TX12 92, u_lay RX12 TX12 93, u_lay RX12 TX12 94, u_lay RX12 TX12 95, u_lay RX12 TX12 96, u_lay RX12 TX12 97, u_lay RX12 TX12 98, u_lay RX12 TX12 99, u_lay RX12 TX12 100, u_lay RX12 TX12 101, u_lay RX12 TX12 102, u_lay RX12 TX12 103, u_lay RX12 TX12 104], w ∈ tb
  exact List.forall_mem_cons.mpr ⟨w_2066, List.forall_mem_cons.mpr ⟨w_2068, List.forall_mem_cons.mpr ⟨w_2070, List.forall_mem_cons.mpr ⟨w_2072, List.forall_mem_cons.mpr ⟨w_2074, List.forall_mem_cons.mpr ⟨w_2076, List.forall_mem_cons.mpr ⟨w_2078, List.forall_mem_cons.mpr ⟨w_2080, List.forall_mem_cons.mpr ⟨w_2082, List.forall_mem_cons.mpr ⟨w_2084, List.forall_mem_cons.mpr ⟨w_2086, List.forall_mem_cons.mpr ⟨w_2088, List.forall_mem_cons.mpr ⟨w_2090, List.forall_mem_cons.mpr ⟨w_2092, List.forall_mem_cons.mpr ⟨w_2094, List.forall_mem_cons.mpr ⟨w_2096, List.forall_mem_cons.mpr ⟨w_2098, List.forall_mem_cons.mpr ⟨w_2100, List.forall_mem_cons.mpr ⟨w_2102, List.forall_mem_cons.mpr ⟨w_2104, List.forall_mem_cons.mpr ⟨w_2106, List.forall_mem_cons.mpr ⟨w_2108, List.forall_mem_cons.mpr ⟨w_2110, List.forall_mem_cons.mpr ⟨w_2112, List.forall_mem_cons.mpr ⟨w_2114, List.forall_mem_cons.mpr ⟨w_2116, List.forall_mem_cons.mpr ⟨w_2118, List.forall_mem_cons.mpr ⟨w_2120, List.forall_mem_cons.mpr ⟨w_2122, List.forall_mem_cons.mpr ⟨w_2124, List.forall_mem_cons.mpr ⟨w_2126, List.forall_mem_cons.mpr ⟨w_2128, List.forall_mem_cons.mpr ⟨w_2130, List.forall_mem_cons.mpr ⟨w_2132, List.forall_mem_cons.mpr ⟨w_2134, List.forall_mem_cons.mpr ⟨w_2136, List.forall_mem_cons.mpr ⟨w_2138, List.forall_mem_cons.mpr ⟨w_2140, List.forall_mem_cons.mpr ⟨w_2142, List.forall_mem_cons.mpr ⟨w_2144, List.forall_mem_cons.mpr ⟨w_2146, List.forall_mem_cons.mpr ⟨w_2148, List.forall_mem_cons.mpr ⟨w_2150, List.forall_mem_cons.mpr ⟨w_2152, List.forall_mem_cons.mpr ⟨w_2154, List.forall_mem_cons.mpr ⟨w_2156, List.forall_mem_cons.mpr ⟨w_2158, List.forall_mem_cons.mpr ⟨w_2160, List.forall_mem_cons.mpr ⟨w_2162, List.forall_mem_cons.mpr ⟨w_2164, List.forall_mem_cons.mpr ⟨w_2166, List.forall_mem_cons.mpr ⟨w_2168, List.forall_mem_cons.mpr ⟨w_2170, List.forall_mem_cons.mpr ⟨w_2172, List.forall_mem_cons.mpr ⟨w_2174, List.forall_mem_cons.mpr ⟨w_2176, List.forall_mem_cons.mpr ⟨w_2178, List.forall_mem_cons.mpr ⟨w_2180, List.forall_mem_cons.mpr ⟨w_2182, List.forall_mem_cons.mpr ⟨w_2184, List.forall_mem_cons.mpr ⟨w_2186, List.forall_mem_cons.mpr ⟨w_2188, List.forall_mem_cons.mpr ⟨w_2190, List.forall_mem_cons.mpr ⟨w_2192, List.forall_mem_cons.mpr ⟨w_2194, List.forall_mem_cons.mpr ⟨w_2196, List.forall_mem_cons.mpr ⟨w_2198, List.forall_mem_cons.mpr ⟨w_2200, List.forall_mem_cons.mpr ⟨w_2202, List.forall_mem_cons.mpr ⟨w_2204, List.forall_mem_cons.mpr ⟨w_2206, List.forall_mem_cons.mpr ⟨w_2208, List.forall_mem_cons.mpr ⟨w_2210, List.forall_mem_cons.mpr ⟨w_2212, List.forall_mem_cons.mpr ⟨w_2214, List.forall_mem_cons.mpr ⟨w_2216, List.forall_mem_cons.mpr ⟨w_2218, List.forall_mem_cons.mpr ⟨w_2220, List.forall_mem_cons.mpr ⟨w_2222, List.forall_mem_cons.mpr ⟨w_2224, List.forall_mem_cons.mpr ⟨w_2226, List.forall_mem_cons.mpr ⟨w_2228, List.forall_mem_cons.mpr ⟨w_2230, List.forall_mem_cons.mpr ⟨w_2232, List.forall_mem_cons.mpr ⟨w_2234, List.forall_mem_cons.mpr ⟨w_2236, List.forall_mem_cons.mpr ⟨w_2238, List.forall_mem_cons.mpr ⟨w_2240, List.forall_mem_cons.mpr ⟨w_2242, List.forall_mem_cons.mpr ⟨w_2244, List.forall_mem_cons.mpr ⟨w_2246, List.forall_mem_cons.mpr ⟨w_2248, List.forall_mem_cons.mpr ⟨w_2250, List.forall_mem_cons.mpr ⟨w_2252, List.forall_mem_cons.mpr ⟨w_2254, List.forall_mem_cons.mpr ⟨w_2256, List.forall_mem_cons.mpr ⟨w_2258, List.forall_mem_cons.mpr ⟨w_2260, List.forall_mem_cons.mpr ⟨w_2262, List.forall_mem_cons.mpr ⟨w_2264, List.forall_mem_cons.mpr ⟨w_2266, List.forall_mem_cons.mpr ⟨w_2268, List.forall_mem_cons.mpr ⟨w_2270, List.forall_mem_cons.mpr ⟨w_2272, List.forall_mem_cons.mpr ⟨w_2274, fun _ h => absurd h List.not_mem_nil⟩⟩⟩⟩⟩⟩⟩⟩⟩⟩⟩⟩⟩⟩⟩⟩⟩⟩⟩⟩⟩⟩⟩⟩⟩⟩⟩⟩⟩⟩⟩⟩⟩⟩⟩⟩⟩⟩⟩⟩⟩⟩⟩⟩⟩⟩⟩⟩⟩⟩⟩⟩⟩⟩⟩⟩⟩⟩⟩⟩⟩⟩⟩⟩⟩⟩⟩⟩⟩⟩⟩⟩⟩⟩⟩⟩⟩⟩⟩⟩⟩⟩⟩⟩⟩⟩⟩⟩⟩⟩⟩⟩⟩⟩⟩⟩⟩⟩⟩⟩⟩⟩⟩⟩⟩
section RW71
variable {p : Program} {l : Launch} {e : Env} {R : Room} {s : State} {m : MethodId} {args : Array Value} {below : List Frame} {meth : Method} {c : Code} {H : Heap} {locs : List Loc} {cells slots : Nat} {Q : State → Prop}
variable {cc : ByteArray} {pc nL : Nat} {ls : Array Slot} {rest st0 : List Value} {G : sG} {n : Nat} {S : sS}
theorem g_X12_270 (Cx : sC G p m c cc nL s args RX12) (hW : sW G n S H) {k : Nat} (hk : k < n) (ht : tau k = .inl 12) {v : Int} (hv : S.1 k 20 = v) (hdg : decode cc pc = .ok (.getfield 270, 3)) (kk : W p l e R s m args below meth c H locs cells slots Q (F0 m (pc + 3) ls (.int (iv v) :: rest))) : W p l e R s m args below meth c H locs cells slots Q (F0 m pc ls (.ref (G.2.2.1 + k) :: rest)) :=
  sGet Cx inX12 rfl 20 (by decide) w_1981 hW hk ht (congrArg (fun z => Value.int (iv z)) hv) hdg kk
theorem p_X12_270 (Cx : sC G p m c cc nL s args RX12) (hW : sW G n S H) (hL : sL G locs) {k : Nat} (hk : k < n) (ht : tau k = .inl 12) {v : Int} (hdg : decode cc pc = .ok (.putfield 270, 3)) (kk : ∀ (H1 : Heap) (locs1 : List Loc), sW G n (uF S k 20 v) H1 → sL G locs1 → W p l e R s m args below meth c H1 locs1 cells slots Q (F0 m (pc + 3) ls rest)) : W p l e R s m args below meth c H locs cells slots Q (F0 m pc ls (.int (iv v) :: .ref (G.2.2.1 + k) :: rest)) :=
  sPut Cx inX12 tyX12 tyX12_ok nmX12 rfl 20 (by decide) w_1981 rfl hW hL hk ht rfl rfl (fun _ h => uF_same h) (fun _ h => uF_off h) (congrArg (fun z => Value.int (iv z)) uF_on) hdg kk
theorem g_X12_50 (Cx : sC G p m c cc nL s args RX12) (hW : sW G n S H) {k : Nat} (hk : k < n) (ht : tau k = .inl 12) {v : Value} (hv : S.2.2.2 k 16 = v) (hdg : decode cc pc = .ok (.getfield 50, 3)) (kk : W p l e R s m args below meth c H locs cells slots Q (F0 m (pc + 3) ls (v :: rest))) : W p l e R s m args below meth c H locs cells slots Q (F0 m pc ls (.ref (G.2.2.1 + k) :: rest)) :=
  sGet Cx inX12 rfl 16 (by decide) w_1977 hW hk ht hv hdg kk
theorem p_X12_273 (Cx : sC G p m c cc nL s args RX12) (hW : sW G n S H) (hL : sL G locs) {k : Nat} (hk : k < n) (ht : tau k = .inl 12) {v : Int} (hdg : decode cc pc = .ok (.putfield 273, 3)) (kk : ∀ (H1 : Heap) (locs1 : List Loc), sW G n (uF S k 21 v) H1 → sL G locs1 → W p l e R s m args below meth c H1 locs1 cells slots Q (F0 m (pc + 3) ls rest)) : W p l e R s m args below meth c H locs cells slots Q (F0 m pc ls (.int (iv v) :: .ref (G.2.2.1 + k) :: rest)) :=
  sPut Cx inX12 tyX12 tyX12_ok nmX12 rfl 21 (by decide) w_1982 rfl hW hL hk ht rfl rfl (fun _ h => uF_same h) (fun _ h => uF_off h) (congrArg (fun z => Value.int (iv z)) uF_on) hdg kk
theorem g_X12_47 (Cx : sC G p m c cc nL s args RX12) (hW : sW G n S H) {k : Nat} (hk : k < n) (ht : tau k = .inl 12) {v : Value} (hv : S.2.2.2 k 15 = v) (hdg : decode cc pc = .ok (.getfield 47, 3)) (kk : W p l e R s m args below meth c H locs cells slots Q (F0 m (pc + 3) ls (v :: rest))) : W p l e R s m args below meth c H locs cells slots Q (F0 m pc ls (.ref (G.2.2.1 + k) :: rest)) :=
  sGet Cx inX12 rfl 15 (by decide) w_1976 hW hk ht hv hdg kk
theorem g_X12_315 (Cx : sC G p m c cc nL s args RX12) (hW : sW G n S H) {k : Nat} (hk : k < n) (ht : tau k = .inl 12) {v : Int} (hv : S.1 k 24 = v) (hdg : decode cc pc = .ok (.getfield 315, 3)) (kk : W p l e R s m args below meth c H locs cells slots Q (F0 m (pc + 3) ls (.int (iv v) :: rest))) : W p l e R s m args below meth c H locs cells slots Q (F0 m pc ls (.ref (G.2.2.1 + k) :: rest)) :=
  sGet Cx inX12 rfl 24 (by decide) w_1985 hW hk ht (congrArg (fun z => Value.int (iv z)) hv) hdg kk
theorem g_X12_56 (Cx : sC G p m c cc nL s args RX12) (hW : sW G n S H) {k : Nat} (hk : k < n) (ht : tau k = .inl 12) {v : Value} (hv : S.2.2.2 k 18 = v) (hdg : decode cc pc = .ok (.getfield 56, 3)) (kk : W p l e R s m args below meth c H locs cells slots Q (F0 m (pc + 3) ls (v :: rest))) : W p l e R s m args below meth c H locs cells slots Q (F0 m pc ls (.ref (G.2.2.1 + k) :: rest)) :=
  sGet Cx inX12 rfl 18 (by decide) w_1979 hW hk ht hv hdg kk
theorem p_X12_315 (Cx : sC G p m c cc nL s args RX12) (hW : sW G n S H) (hL : sL G locs) {k : Nat} (hk : k < n) (ht : tau k = .inl 12) {v : Int} (hdg : decode cc pc = .ok (.putfield 315, 3)) (kk : ∀ (H1 : Heap) (locs1 : List Loc), sW G n (uF S k 24 v) H1 → sL G locs1 → W p l e R s m args below meth c H1 locs1 cells slots Q (F0 m (pc + 3) ls rest)) : W p l e R s m args below meth c H locs cells slots Q (F0 m pc ls (.int (iv v) :: .ref (G.2.2.1 + k) :: rest)) :=
  sPut Cx inX12 tyX12 tyX12_ok nmX12 rfl 24 (by decide) w_1985 rfl hW hL hk ht rfl rfl (fun _ h => uF_same h) (fun _ h => uF_off h) (congrArg (fun z => Value.int (iv z)) uF_on) hdg kk
theorem c_X12_318 (Cx : sC G p m c cc nL s args RX12) {rm : Room} {mc ms : Nat} (h1 : rm.cells = mc) (h2 : rm.slots = ms) (h3 : rm.frames + 1 ≤ R.frames ∧ 8 + (2 + 11) + rm.locals ≤ R.locals) : CallW R s args RX12 RX12 318 yX12_isSign cX12_isSign 2 (some .boolean) (.code yX12_isSign cX12_isSign 2 (some .boolean) :: tb) rm mc ms 1 :=
  sCw Cx 1 w_2346 w_2348 w_115 w_217 w_2349 (by decide +kernel) h1 h2 h3
theorem c_X12_321 (Cx : sC G p m c cc nL s args RX12) {rm : Room} {mc ms : Nat} (h1 : rm.cells = mc) (h2 : rm.slots = ms) (h3 : rm.frames + 1 ≤ R.frames ∧ 8 + (3 + 11) + rm.locals ≤ R.locals) : CallW R s args RX12 RX12 321 yX12_wrong cX12_wrong 3 none (.code yX12_wrong cX12_wrong 3 none :: tb) rm mc ms 2 :=
  sCw Cx 2 w_2338 w_2340 w_113 w_217 w_2341 (by decide +kernel) h1 h2 h3
theorem c_X12_325 (Cx : sC G p m c cc nL s args RX12) {rm : Room} {mc ms : Nat} (h1 : rm.cells = mc) (h2 : rm.slots = ms) (h3 : rm.frames + 1 ≤ R.frames ∧ 8 + (2 + 11) + rm.locals ≤ R.locals) : CallW R s args RX12 RX12 325 yX12_isWord cX12_isWord 2 (some .boolean) (.code yX12_isWord cX12_isWord 2 (some .boolean) :: tb) rm mc ms 1 :=
  sCw Cx 1 w_2326 w_2328 w_110 w_217 w_2329 (by decide +kernel) h1 h2 h3
theorem c_X12_328 (Cx : sC G p m c cc nL s args RX12) {rm : Room} {mc ms : Nat} (h1 : rm.cells = mc) (h2 : rm.slots = ms) (h3 : rm.frames + 1 ≤ R.frames ∧ 8 + (2 + 11) + rm.locals ≤ R.locals) : CallW R s args RX12 RX12 328 yX12_wantKind cX12_wantKind 2 none (.code yX12_wantKind cX12_wantKind 2 none :: tb) rm mc ms 1 :=
  sCw Cx 1 w_2334 w_2336 w_112 w_217 w_2337 (by decide +kernel) h1 h2 h3
theorem c_X12_331 (Cx : sC G p m c cc nL s args RX12) {rm : Room} {mc ms : Nat} (h1 : rm.cells = mc) (h2 : rm.slots = ms) (h3 : rm.frames + 1 ≤ R.frames ∧ 8 + (2 + 11) + rm.locals ≤ R.locals) : CallW R s args RX12 RX12 331 yX12_want cX12_want 2 none (.code yX12_want cX12_want 2 none :: tb) rm mc ms 1 :=
  sCw Cx 1 w_2350 w_2352 w_116 w_217 w_2353 (by decide +kernel) h1 h2 h3
theorem c_X12_343 (Cx : sC G p m c cc nL s args RX12) {rm : Room} {mc ms : Nat} (h1 : rm.cells = mc) (h2 : rm.slots = ms) (h3 : rm.frames + 1 ≤ R.frames ∧ 8 + (1 + 11) + rm.locals ≤ R.locals) : CallW R s args RX12 RX12 343 yX12_indexes cX12_indexes 1 none (.code yX12_indexes cX12_indexes 1 none :: tb) rm mc ms 0 :=
  sCw Cx 0 w_2342 w_2344 w_114 w_217 w_2345 (by decide +kernel) h1 h2 h3
theorem c_X12_346 (Cx : sC G p m c cc nL s args RX12) {rm : Room} {mc ms : Nat} (h1 : rm.cells = mc) (h2 : rm.slots = ms) (h3 : rm.frames + 1 ≤ R.frames ∧ 8 + (1 + 11) + rm.locals ≤ R.locals) : CallW R s args RX12 RX12 346 yX12_valueRead cX12_valueRead 1 none (.code yX12_valueRead cX12_valueRead 1 none :: tb) rm mc ms 0 :=
  sCw Cx 0 w_2354 w_2356 w_117 w_217 w_2357 (by decide +kernel) h1 h2 h3
end RW71
