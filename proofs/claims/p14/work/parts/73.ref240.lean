theorem dX12_add__0 : decode cX12_add_ 0 = .ok (.aload_n 0, 1) := by decide +kernel
theorem dX12_add__1 : decode cX12_add_ 1 = .ok (.getfield 270, 3) := by decide +kernel
theorem dX12_add__4 : decode cX12_add_ 4 = .ok (.ifCond .ne 18, 3) := by decide +kernel
theorem dX12_add__7 : decode cX12_add_ 7 = .ok (.aload_n 0, 1) := by decide +kernel
theorem dX12_add__8 : decode cX12_add_ 8 = .ok (.iload_n 1, 1) := by decide +kernel
theorem dX12_add__9 : decode cX12_add_ 9 = .ok (.invokevirtual 361, 3) := by decide +kernel
theorem dX12_add__12 : decode cX12_add_ 12 = .ok (.iconst (-1), 1) := by decide +kernel
theorem dX12_add__13 : decode cX12_add_ 13 = .ok (.if_icmp .eq 9, 3) := by decide +kernel
theorem dX12_add__16 : decode cX12_add_ 16 = .ok (.aload_n 0, 1) := by decide +kernel
theorem dX12_add__17 : decode cX12_add_ 17 = .ok (.iconst 2, 1) := by decide +kernel
theorem dX12_add__18 : decode cX12_add_ 18 = .ok (.iload_n 1, 1) := by decide +kernel
theorem dX12_add__19 : decode cX12_add_ 19 = .ok (.invokevirtual 321, 3) := by decide +kernel
theorem dX12_add__22 : decode cX12_add_ 22 = .ok (.aload_n 0, 1) := by decide +kernel
theorem dX12_add__23 : decode cX12_add_ 23 = .ok (.getfield 270, 3) := by decide +kernel
theorem dX12_add__26 : decode cX12_add_ 26 = .ok (.ifCond .eq 5, 3) := by decide +kernel
theorem dX12_add__29 : decode cX12_add_ 29 = .ok (.iconst (-1), 1) := by decide +kernel
theorem dX12_add__30 : decode cX12_add_ 30 = .ok (.ireturn, 1) := by decide +kernel
theorem dX12_add__31 : decode cX12_add_ 31 = .ok (.aload_n 0, 1) := by decide +kernel
theorem dX12_add__32 : decode cX12_add_ 32 = .ok (.getfield 59, 3) := by decide +kernel
theorem dX12_add__35 : decode cX12_add_ 35 = .ok (.aload_n 0, 1) := by decide +kernel
theorem dX12_add__36 : decode cX12_add_ 36 = .ok (.getfield 358, 3) := by decide +kernel
theorem dX12_add__39 : decode cX12_add_ 39 = .ok (.iload_n 1, 1) := by decide +kernel
theorem dX12_add__40 : decode cX12_add_ 40 = .ok (.iastore, 1) := by decide +kernel
theorem dX12_add__41 : decode cX12_add_ 41 = .ok (.aload_n 0, 1) := by decide +kernel
theorem dX12_add__42 : decode cX12_add_ 42 = .ok (.getfield 62, 3) := by decide +kernel
theorem dX12_add__45 : decode cX12_add_ 45 = .ok (.aload_n 0, 1) := by decide +kernel
theorem dX12_add__46 : decode cX12_add_ 46 = .ok (.getfield 358, 3) := by decide +kernel
theorem dX12_add__49 : decode cX12_add_ 49 = .ok (.iload_n 2, 1) := by decide +kernel
theorem dX12_add__50 : decode cX12_add_ 50 = .ok (.iastore, 1) := by decide +kernel
theorem dX12_add__51 : decode cX12_add_ 51 = .ok (.aload_n 0, 1) := by decide +kernel
theorem dX12_add__52 : decode cX12_add_ 52 = .ok (.getfield 65, 3) := by decide +kernel
theorem dX12_add__55 : decode cX12_add_ 55 = .ok (.aload_n 0, 1) := by decide +kernel
theorem dX12_add__56 : decode cX12_add_ 56 = .ok (.getfield 358, 3) := by decide +kernel
theorem dX12_add__59 : decode cX12_add_ 59 = .ok (.iconst (-1), 1) := by decide +kernel
theorem dX12_add__60 : decode cX12_add_ 60 = .ok (.iastore, 1) := by decide +kernel
theorem dX12_add__61 : decode cX12_add_ 61 = .ok (.aload_n 0, 1) := by decide +kernel
theorem dX12_add__62 : decode cX12_add_ 62 = .ok (.getfield 68, 3) := by decide +kernel
theorem dX12_add__65 : decode cX12_add_ 65 = .ok (.aload_n 0, 1) := by decide +kernel
theorem dX12_add__66 : decode cX12_add_ 66 = .ok (.getfield 358, 3) := by decide +kernel
theorem dX12_add__69 : decode cX12_add_ 69 = .ok (.iconst (-1), 1) := by decide +kernel
theorem dX12_add__70 : decode cX12_add_ 70 = .ok (.iastore, 1) := by decide +kernel
theorem dX12_add__71 : decode cX12_add_ 71 = .ok (.aload_n 0, 1) := by decide +kernel
theorem dX12_add__72 : decode cX12_add_ 72 = .ok (.getfield 71, 3) := by decide +kernel
theorem dX12_add__75 : decode cX12_add_ 75 = .ok (.aload_n 0, 1) := by decide +kernel
theorem dX12_add__76 : decode cX12_add_ 76 = .ok (.getfield 358, 3) := by decide +kernel
theorem dX12_add__79 : decode cX12_add_ 79 = .ok (.iconst 0, 1) := by decide +kernel
theorem dX12_add__80 : decode cX12_add_ 80 = .ok (.iastore, 1) := by decide +kernel
theorem dX12_add__81 : decode cX12_add_ 81 = .ok (.aload_n 0, 1) := by decide +kernel
theorem dX12_add__82 : decode cX12_add_ 82 = .ok (.dup, 1) := by decide +kernel
theorem dX12_add__83 : decode cX12_add_ 83 = .ok (.getfield 358, 3) := by decide +kernel
theorem dX12_add__86 : decode cX12_add_ 86 = .ok (.iconst 1, 1) := by decide +kernel
theorem dX12_add__87 : decode cX12_add_ 87 = .ok (.iadd, 1) := by decide +kernel
theorem dX12_add__88 : decode cX12_add_ 88 = .ok (.putfield 358, 3) := by decide +kernel
theorem dX12_add__91 : decode cX12_add_ 91 = .ok (.aload_n 0, 1) := by decide +kernel
theorem dX12_add__92 : decode cX12_add_ 92 = .ok (.getfield 358, 3) := by decide +kernel
theorem dX12_add__95 : decode cX12_add_ 95 = .ok (.iconst 1, 1) := by decide +kernel
theorem dX12_add__96 : decode cX12_add_ 96 = .ok (.isub, 1) := by decide +kernel
theorem dX12_add__97 : decode cX12_add_ 97 = .ok (.ireturn, 1) := by decide +kernel
theorem dX12_constant_0 : decode cX12_constant 0 = .ok (.iconst 1, 1) := by decide +kernel
theorem dX12_constant_1 : decode cX12_constant 1 = .ok (.istore 4, 2) := by decide +kernel
theorem dX12_constant_3 : decode cX12_constant 3 = .ok (.iload 4, 2) := by decide +kernel
theorem dX12_constant_5 : decode cX12_constant 5 = .ok (.bipush 12, 2) := by decide +kernel
theorem dX12_constant_7 : decode cX12_constant 7 = .ok (.if_icmp .gt 19, 3) := by decide +kernel
theorem dX12_constant_10 : decode cX12_constant 10 = .ok (.aload_n 0, 1) := by decide +kernel
theorem dX12_constant_11 : decode cX12_constant 11 = .ok (.getfield 88, 3) := by decide +kernel
theorem dX12_constant_14 : decode cX12_constant 14 = .ok (.iload_n 1, 1) := by decide +kernel
theorem dX12_constant_15 : decode cX12_constant 15 = .ok (.iload 4, 2) := by decide +kernel
theorem dX12_constant_17 : decode cX12_constant 17 = .ok (.iadd, 1) := by decide +kernel
theorem dX12_constant_18 : decode cX12_constant 18 = .ok (.lconst 0, 1) := by decide +kernel
theorem dX12_constant_19 : decode cX12_constant 19 = .ok (.lastore, 1) := by decide +kernel
theorem dX12_constant_20 : decode cX12_constant 20 = .ok (.iinc 4 1, 3) := by decide +kernel
theorem dX12_constant_23 : decode cX12_constant 23 = .ok (.goto (-20), 3) := by decide +kernel
theorem dX12_constant_26 : decode cX12_constant 26 = .ok (.aload_n 0, 1) := by decide +kernel
theorem dX12_constant_27 : decode cX12_constant 27 = .ok (.getfield 88, 3) := by decide +kernel
theorem dX12_constant_30 : decode cX12_constant 30 = .ok (.iload_n 1, 1) := by decide +kernel
theorem dX12_constant_31 : decode cX12_constant 31 = .ok (.lload_n 2, 1) := by decide +kernel
theorem dX12_constant_32 : decode cX12_constant 32 = .ok (.lastore, 1) := by decide +kernel
theorem dX12_constant_33 : decode cX12_constant 33 = .ok (.return_, 1) := by decide +kernel
theorem dX12_find_0 : decode cX12_find 0 = .ok (.aload_n 0, 1) := by decide +kernel
theorem dX12_find_1 : decode cX12_find 1 = .ok (.getfield 358, 3) := by decide +kernel
theorem dX12_find_4 : decode cX12_find 4 = .ok (.iconst 1, 1) := by decide +kernel
theorem dX12_find_5 : decode cX12_find 5 = .ok (.isub, 1) := by decide +kernel
theorem dX12_find_6 : decode cX12_find 6 = .ok (.istore_n 2, 1) := by decide +kernel
theorem dX12_find_7 : decode cX12_find 7 = .ok (.iload_n 2, 1) := by decide +kernel
theorem dX12_find_8 : decode cX12_find 8 = .ok (.ifCond .lt 107, 3) := by decide +kernel
theorem dX12_find_11 : decode cX12_find 11 = .ok (.aload_n 0, 1) := by decide +kernel
theorem dX12_find_12 : decode cX12_find 12 = .ok (.getfield 53, 3) := by decide +kernel
theorem dX12_find_15 : decode cX12_find 15 = .ok (.aload_n 0, 1) := by decide +kernel
theorem dX12_find_16 : decode cX12_find 16 = .ok (.getfield 59, 3) := by decide +kernel
theorem dX12_find_19 : decode cX12_find 19 = .ok (.iload_n 2, 1) := by decide +kernel
theorem dX12_find_20 : decode cX12_find 20 = .ok (.iaload, 1) := by decide +kernel
theorem dX12_find_21 : decode cX12_find 21 = .ok (.iaload, 1) := by decide +kernel
theorem dX12_find_22 : decode cX12_find 22 = .ok (.aload_n 0, 1) := by decide +kernel
theorem dX12_find_23 : decode cX12_find 23 = .ok (.getfield 53, 3) := by decide +kernel
theorem dX12_find_26 : decode cX12_find 26 = .ok (.iload_n 1, 1) := by decide +kernel
theorem dX12_find_27 : decode cX12_find 27 = .ok (.iaload, 1) := by decide +kernel
theorem dX12_find_28 : decode cX12_find 28 = .ok (.if_icmp .ne 7, 3) := by decide +kernel
theorem dX12_find_31 : decode cX12_find 31 = .ok (.iconst 1, 1) := by decide +kernel
theorem dX12_find_32 : decode cX12_find 32 = .ok (.goto 4, 3) := by decide +kernel
theorem dX12_find_35 : decode cX12_find 35 = .ok (.iconst 0, 1) := by decide +kernel
theorem dX12_find_36 : decode cX12_find 36 = .ok (.istore_n 3, 1) := by decide +kernel
theorem dX12_find_37 : decode cX12_find 37 = .ok (.iconst 0, 1) := by decide +kernel
theorem dX12_find_38 : decode cX12_find 38 = .ok (.istore 4, 2) := by decide +kernel
theorem dX12_find_40 : decode cX12_find 40 = .ok (.iload 4, 2) := by decide +kernel
theorem dX12_find_42 : decode cX12_find 42 = .ok (.aload_n 0, 1) := by decide +kernel
theorem dX12_find_43 : decode cX12_find 43 = .ok (.getfield 53, 3) := by decide +kernel
theorem dX12_find_46 : decode cX12_find 46 = .ok (.iload_n 1, 1) := by decide +kernel
theorem dX12_find_47 : decode cX12_find 47 = .ok (.iaload, 1) := by decide +kernel
theorem dX12_find_48 : decode cX12_find 48 = .ok (.if_icmp .ge 55, 3) := by decide +kernel
theorem dX12_find_51 : decode cX12_find 51 = .ok (.iload_n 3, 1) := by decide +kernel
theorem dX12_find_52 : decode cX12_find 52 = .ok (.ifCond .eq 51, 3) := by decide +kernel
theorem dX12_find_55 : decode cX12_find 55 = .ok (.aload_n 0, 1) := by decide +kernel
theorem dX12_find_56 : decode cX12_find 56 = .ok (.getfield 44, 3) := by decide +kernel
theorem dX12_find_59 : decode cX12_find 59 = .ok (.aload_n 0, 1) := by decide +kernel
theorem dX12_find_60 : decode cX12_find 60 = .ok (.getfield 50, 3) := by decide +kernel
theorem dX12_find_63 : decode cX12_find 63 = .ok (.aload_n 0, 1) := by decide +kernel
theorem dX12_find_64 : decode cX12_find 64 = .ok (.getfield 59, 3) := by decide +kernel
theorem dX12_find_67 : decode cX12_find 67 = .ok (.iload_n 2, 1) := by decide +kernel
theorem dX12_find_68 : decode cX12_find 68 = .ok (.iaload, 1) := by decide +kernel
theorem dX12_find_69 : decode cX12_find 69 = .ok (.iaload, 1) := by decide +kernel
theorem dX12_find_70 : decode cX12_find 70 = .ok (.iload 4, 2) := by decide +kernel
theorem dX12_find_72 : decode cX12_find 72 = .ok (.iadd, 1) := by decide +kernel
theorem dX12_find_73 : decode cX12_find 73 = .ok (.baload, 1) := by decide +kernel
theorem dX12_find_74 : decode cX12_find 74 = .ok (.aload_n 0, 1) := by decide +kernel
theorem dX12_find_75 : decode cX12_find 75 = .ok (.getfield 44, 3) := by decide +kernel
theorem dX12_find_78 : decode cX12_find 78 = .ok (.aload_n 0, 1) := by decide +kernel
theorem dX12_find_79 : decode cX12_find 79 = .ok (.getfield 50, 3) := by decide +kernel
theorem dX12_find_82 : decode cX12_find 82 = .ok (.iload_n 1, 1) := by decide +kernel
theorem dX12_find_83 : decode cX12_find 83 = .ok (.iaload, 1) := by decide +kernel
theorem dX12_find_84 : decode cX12_find 84 = .ok (.iload 4, 2) := by decide +kernel
theorem dX12_find_86 : decode cX12_find 86 = .ok (.iadd, 1) := by decide +kernel
theorem dX12_find_87 : decode cX12_find 87 = .ok (.baload, 1) := by decide +kernel
theorem dX12_find_88 : decode cX12_find 88 = .ok (.if_icmp .ne 7, 3) := by decide +kernel
theorem dX12_find_91 : decode cX12_find 91 = .ok (.iconst 1, 1) := by decide +kernel
theorem dX12_find_92 : decode cX12_find 92 = .ok (.goto 4, 3) := by decide +kernel
theorem dX12_find_95 : decode cX12_find 95 = .ok (.iconst 0, 1) := by decide +kernel
theorem dX12_find_96 : decode cX12_find 96 = .ok (.istore_n 3, 1) := by decide +kernel
theorem dX12_find_97 : decode cX12_find 97 = .ok (.iinc 4 1, 3) := by decide +kernel
theorem dX12_find_100 : decode cX12_find 100 = .ok (.goto (-60), 3) := by decide +kernel
theorem dX12_find_103 : decode cX12_find 103 = .ok (.iload_n 3, 1) := by decide +kernel
theorem dX12_find_104 : decode cX12_find 104 = .ok (.ifCond .eq 5, 3) := by decide +kernel
theorem dX12_find_107 : decode cX12_find 107 = .ok (.iload_n 2, 1) := by decide +kernel
theorem dX12_find_108 : decode cX12_find 108 = .ok (.ireturn, 1) := by decide +kernel
theorem dX12_find_109 : decode cX12_find 109 = .ok (.iinc 2 (-1), 3) := by decide +kernel
theorem dX12_find_112 : decode cX12_find 112 = .ok (.goto (-105), 3) := by decide +kernel
theorem dX12_find_115 : decode cX12_find 115 = .ok (.iconst (-1), 1) := by decide +kernel
theorem dX12_find_116 : decode cX12_find 116 = .ok (.ireturn, 1) := by decide +kernel
theorem dX12_hasVariables_0 : decode cX12_hasVariables 0 = .ok (.iconst 1, 1) := by decide +kernel
theorem dX12_hasVariables_1 : decode cX12_hasVariables 1 = .ok (.istore_n 2, 1) := by decide +kernel
theorem dX12_hasVariables_2 : decode cX12_hasVariables 2 = .ok (.iload_n 2, 1) := by decide +kernel
theorem dX12_hasVariables_3 : decode cX12_hasVariables 3 = .ok (.bipush 12, 2) := by decide +kernel
theorem dX12_hasVariables_5 : decode cX12_hasVariables 5 = .ok (.if_icmp .gt 24, 3) := by decide +kernel
theorem dX12_hasVariables_8 : decode cX12_hasVariables 8 = .ok (.aload_n 0, 1) := by decide +kernel
theorem dX12_hasVariables_9 : decode cX12_hasVariables 9 = .ok (.getfield 88, 3) := by decide +kernel
theorem dX12_hasVariables_12 : decode cX12_hasVariables 12 = .ok (.iload_n 1, 1) := by decide +kernel
theorem dX12_hasVariables_13 : decode cX12_hasVariables 13 = .ok (.iload_n 2, 1) := by decide +kernel
theorem dX12_hasVariables_14 : decode cX12_hasVariables 14 = .ok (.iadd, 1) := by decide +kernel
theorem dX12_hasVariables_15 : decode cX12_hasVariables 15 = .ok (.laload, 1) := by decide +kernel
theorem dX12_hasVariables_16 : decode cX12_hasVariables 16 = .ok (.lconst 0, 1) := by decide +kernel
theorem dX12_hasVariables_17 : decode cX12_hasVariables 17 = .ok (.lcmp, 1) := by decide +kernel
theorem dX12_hasVariables_18 : decode cX12_hasVariables 18 = .ok (.ifCond .eq 5, 3) := by decide +kernel
theorem dX12_hasVariables_21 : decode cX12_hasVariables 21 = .ok (.iconst 1, 1) := by decide +kernel
theorem dX12_hasVariables_22 : decode cX12_hasVariables 22 = .ok (.ireturn, 1) := by decide +kernel
theorem dX12_hasVariables_23 : decode cX12_hasVariables 23 = .ok (.iinc 2 1, 3) := by decide +kernel
theorem dX12_hasVariables_26 : decode cX12_hasVariables 26 = .ok (.goto (-24), 3) := by decide +kernel
theorem dX12_hasVariables_29 : decode cX12_hasVariables 29 = .ok (.iconst 0, 1) := by decide +kernel
theorem dX12_hasVariables_30 : decode cX12_hasVariables 30 = .ok (.ireturn, 1) := by decide +kernel
theorem dX12_index_0 : decode cX12_index 0 = .ok (.aload_n 0, 1) := by decide +kernel
theorem dX12_index_1 : decode cX12_index 1 = .ok (.getfield 270, 3) := by decide +kernel
theorem dX12_index_4 : decode cX12_index 4 = .ok (.ifCond .eq 4, 3) := by decide +kernel
theorem dX12_index_7 : decode cX12_index 7 = .ok (.return_, 1) := by decide +kernel
theorem dX12_index_8 : decode cX12_index 8 = .ok (.aload_n 0, 1) := by decide +kernel
theorem dX12_index_9 : decode cX12_index 9 = .ok (.getfield 47, 3) := by decide +kernel
theorem dX12_index_12 : decode cX12_index 12 = .ok (.aload_n 0, 1) := by decide +kernel
theorem dX12_index_13 : decode cX12_index 13 = .ok (.getfield 315, 3) := by decide +kernel
theorem dX12_index_16 : decode cX12_index 16 = .ok (.iaload, 1) := by decide +kernel
theorem dX12_index_17 : decode cX12_index 17 = .ok (.iconst 2, 1) := by decide +kernel
theorem dX12_index_18 : decode cX12_index 18 = .ok (.if_icmp .ne 26, 3) := by decide +kernel
theorem dX12_index_21 : decode cX12_index 21 = .ok (.aload_n 0, 1) := by decide +kernel
theorem dX12_index_22 : decode cX12_index 22 = .ok (.getfield 56, 3) := by decide +kernel
theorem dX12_index_25 : decode cX12_index 25 = .ok (.aload_n 0, 1) := by decide +kernel
theorem dX12_index_26 : decode cX12_index 26 = .ok (.getfield 315, 3) := by decide +kernel
theorem dX12_index_29 : decode cX12_index 29 = .ok (.iaload, 1) := by decide +kernel
theorem dX12_index_30 : decode cX12_index 30 = .ok (.istore_n 1, 1) := by decide +kernel
theorem dX12_index_31 : decode cX12_index 31 = .ok (.aload_n 0, 1) := by decide +kernel
theorem dX12_index_32 : decode cX12_index 32 = .ok (.dup, 1) := by decide +kernel
theorem dX12_index_33 : decode cX12_index 33 = .ok (.getfield 315, 3) := by decide +kernel
theorem dX12_index_36 : decode cX12_index 36 = .ok (.iconst 1, 1) := by decide +kernel
theorem dX12_index_37 : decode cX12_index 37 = .ok (.iadd, 1) := by decide +kernel
theorem dX12_index_38 : decode cX12_index 38 = .ok (.putfield 315, 3) := by decide +kernel
theorem dX12_index_41 : decode cX12_index 41 = .ok (.goto 120, 3) := by decide +kernel
theorem dX12_index_44 : decode cX12_index 44 = .ok (.aload_n 0, 1) := by decide +kernel
theorem dX12_index_45 : decode cX12_index 45 = .ok (.aload_n 0, 1) := by decide +kernel
theorem dX12_index_46 : decode cX12_index 46 = .ok (.getfield 315, 3) := by decide +kernel
theorem dX12_index_49 : decode cX12_index 49 = .ok (.invokevirtual 361, 3) := by decide +kernel
theorem dX12_index_52 : decode cX12_index 52 = .ok (.istore_n 2, 1) := by decide +kernel
theorem dX12_index_53 : decode cX12_index 53 = .ok (.iload_n 2, 1) := by decide +kernel
theorem dX12_index_54 : decode cX12_index 54 = .ok (.iconst (-1), 1) := by decide +kernel
theorem dX12_index_55 : decode cX12_index 55 = .ok (.if_icmp .eq 13, 3) := by decide +kernel
theorem dX12_index_58 : decode cX12_index 58 = .ok (.aload_n 0, 1) := by decide +kernel
theorem dX12_index_59 : decode cX12_index 59 = .ok (.getfield 62, 3) := by decide +kernel
theorem dX12_index_62 : decode cX12_index 62 = .ok (.iload_n 2, 1) := by decide +kernel
theorem dX12_index_63 : decode cX12_index 63 = .ok (.iaload, 1) := by decide +kernel
theorem dX12_index_64 : decode cX12_index 64 = .ok (.iconst 5, 1) := by decide +kernel
theorem dX12_index_65 : decode cX12_index 65 = .ok (.if_icmp .eq 13, 3) := by decide +kernel
theorem dX12_index_68 : decode cX12_index 68 = .ok (.aload_n 0, 1) := by decide +kernel
theorem dX12_index_69 : decode cX12_index 69 = .ok (.iconst 2, 1) := by decide +kernel
theorem dX12_index_70 : decode cX12_index 70 = .ok (.aload_n 0, 1) := by decide +kernel
theorem dX12_index_71 : decode cX12_index 71 = .ok (.getfield 315, 3) := by decide +kernel
theorem dX12_index_74 : decode cX12_index 74 = .ok (.invokevirtual 321, 3) := by decide +kernel
theorem dX12_index_77 : decode cX12_index 77 = .ok (.return_, 1) := by decide +kernel
theorem dX12_index_78 : decode cX12_index 78 = .ok (.aload_n 0, 1) := by decide +kernel
theorem dX12_index_79 : decode cX12_index 79 = .ok (.getfield 71, 3) := by decide +kernel
theorem dX12_index_82 : decode cX12_index 82 = .ok (.iload_n 2, 1) := by decide +kernel
theorem dX12_index_83 : decode cX12_index 83 = .ok (.iaload, 1) := by decide +kernel
theorem dX12_index_84 : decode cX12_index 84 = .ok (.istore_n 1, 1) := by decide +kernel
theorem dX12_index_85 : decode cX12_index 85 = .ok (.aload_n 0, 1) := by decide +kernel
theorem dX12_index_86 : decode cX12_index 86 = .ok (.dup, 1) := by decide +kernel
theorem dX12_index_87 : decode cX12_index 87 = .ok (.getfield 315, 3) := by decide +kernel
theorem dX12_index_90 : decode cX12_index 90 = .ok (.iconst 1, 1) := by decide +kernel
theorem dX12_index_91 : decode cX12_index 91 = .ok (.iadd, 1) := by decide +kernel
theorem dX12_index_92 : decode cX12_index 92 = .ok (.putfield 315, 3) := by decide +kernel
theorem dX12_index_95 : decode cX12_index 95 = .ok (.aload_n 0, 1) := by decide +kernel
theorem dX12_index_96 : decode cX12_index 96 = .ok (.bipush 43, 2) := by decide +kernel
theorem dX12_index_98 : decode cX12_index 98 = .ok (.invokevirtual 318, 3) := by decide +kernel
theorem dX12_index_101 : decode cX12_index 101 = .ok (.ifCond .ne 12, 3) := by decide +kernel
theorem dX12_index_104 : decode cX12_index 104 = .ok (.aload_n 0, 1) := by decide +kernel
theorem dX12_index_105 : decode cX12_index 105 = .ok (.bipush 45, 2) := by decide +kernel
theorem dX12_index_107 : decode cX12_index 107 = .ok (.invokevirtual 318, 3) := by decide +kernel
theorem dX12_index_110 : decode cX12_index 110 = .ok (.ifCond .eq 51, 3) := by decide +kernel
theorem dX12_index_113 : decode cX12_index 113 = .ok (.iload_n 1, 1) := by decide +kernel
theorem dX12_index_114 : decode cX12_index 114 = .ok (.aload_n 0, 1) := by decide +kernel
theorem dX12_index_115 : decode cX12_index 115 = .ok (.bipush 43, 2) := by decide +kernel
theorem dX12_index_117 : decode cX12_index 117 = .ok (.invokevirtual 318, 3) := by decide +kernel
theorem dX12_index_120 : decode cX12_index 120 = .ok (.ifCond .eq 17, 3) := by decide +kernel
theorem dX12_index_123 : decode cX12_index 123 = .ok (.aload_n 0, 1) := by decide +kernel
theorem dX12_index_124 : decode cX12_index 124 = .ok (.getfield 56, 3) := by decide +kernel
theorem dX12_index_127 : decode cX12_index 127 = .ok (.aload_n 0, 1) := by decide +kernel
theorem dX12_index_128 : decode cX12_index 128 = .ok (.getfield 315, 3) := by decide +kernel
theorem dX12_index_131 : decode cX12_index 131 = .ok (.iconst 1, 1) := by decide +kernel
theorem dX12_index_132 : decode cX12_index 132 = .ok (.iadd, 1) := by decide +kernel
theorem dX12_index_133 : decode cX12_index 133 = .ok (.iaload, 1) := by decide +kernel
theorem dX12_index_134 : decode cX12_index 134 = .ok (.goto 15, 3) := by decide +kernel
theorem dX12_index_137 : decode cX12_index 137 = .ok (.aload_n 0, 1) := by decide +kernel
theorem dX12_index_138 : decode cX12_index 138 = .ok (.getfield 56, 3) := by decide +kernel
theorem dX12_index_141 : decode cX12_index 141 = .ok (.aload_n 0, 1) := by decide +kernel
theorem dX12_index_142 : decode cX12_index 142 = .ok (.getfield 315, 3) := by decide +kernel
theorem dX12_index_145 : decode cX12_index 145 = .ok (.iconst 1, 1) := by decide +kernel
theorem dX12_index_146 : decode cX12_index 146 = .ok (.iadd, 1) := by decide +kernel
theorem dX12_index_147 : decode cX12_index 147 = .ok (.iaload, 1) := by decide +kernel
theorem dX12_index_148 : decode cX12_index 148 = .ok (.ineg, 1) := by decide +kernel
theorem dX12_index_149 : decode cX12_index 149 = .ok (.iadd, 1) := by decide +kernel
theorem dX12_index_150 : decode cX12_index 150 = .ok (.istore_n 1, 1) := by decide +kernel
theorem dX12_index_151 : decode cX12_index 151 = .ok (.aload_n 0, 1) := by decide +kernel
theorem dX12_index_152 : decode cX12_index 152 = .ok (.dup, 1) := by decide +kernel
theorem dX12_index_153 : decode cX12_index 153 = .ok (.getfield 315, 3) := by decide +kernel
theorem dX12_index_156 : decode cX12_index 156 = .ok (.iconst 2, 1) := by decide +kernel
theorem dX12_index_157 : decode cX12_index 157 = .ok (.iadd, 1) := by decide +kernel
theorem dX12_index_158 : decode cX12_index 158 = .ok (.putfield 315, 3) := by decide +kernel
theorem dX12_index_161 : decode cX12_index 161 = .ok (.aload_n 0, 1) := by decide +kernel
theorem dX12_index_162 : decode cX12_index 162 = .ok (.getfield 91, 3) := by decide +kernel
theorem dX12_index_165 : decode cX12_index 165 = .ok (.aload_n 0, 1) := by decide +kernel
theorem dX12_index_166 : decode cX12_index 166 = .ok (.getfield 441, 3) := by decide +kernel
theorem dX12_index_169 : decode cX12_index 169 = .ok (.iload_n 1, 1) := by decide +kernel
theorem dX12_index_170 : decode cX12_index 170 = .ok (.iastore, 1) := by decide +kernel
theorem dX12_index_171 : decode cX12_index 171 = .ok (.aload_n 0, 1) := by decide +kernel
theorem dX12_index_172 : decode cX12_index 172 = .ok (.dup, 1) := by decide +kernel
theorem dX12_index_173 : decode cX12_index 173 = .ok (.getfield 441, 3) := by decide +kernel
theorem dX12_index_176 : decode cX12_index 176 = .ok (.iconst 1, 1) := by decide +kernel
theorem dX12_index_177 : decode cX12_index 177 = .ok (.iadd, 1) := by decide +kernel
theorem dX12_index_178 : decode cX12_index 178 = .ok (.putfield 441, 3) := by decide +kernel
theorem dX12_index_181 : decode cX12_index 181 = .ok (.return_, 1) := by decide +kernel
theorem dX12_isGreat_0 : decode cX12_isGreat 0 = .ok (.iconst 0, 1) := by decide +kernel
theorem dX12_isGreat_1 : decode cX12_isGreat 1 = .ok (.istore_n 2, 1) := by decide +kernel
theorem dX12_isGreat_2 : decode cX12_isGreat 2 = .ok (.iload_n 2, 1) := by decide +kernel
theorem dX12_isGreat_3 : decode cX12_isGreat 3 = .ok (.bipush 12, 2) := by decide +kernel
theorem dX12_isGreat_5 : decode cX12_isGreat 5 = .ok (.if_icmp .gt 41, 3) := by decide +kernel
theorem dX12_isGreat_8 : decode cX12_isGreat 8 = .ok (.aload_n 0, 1) := by decide +kernel
theorem dX12_isGreat_9 : decode cX12_isGreat 9 = .ok (.getfield 88, 3) := by decide +kernel
theorem dX12_isGreat_12 : decode cX12_isGreat 12 = .ok (.iload_n 1, 1) := by decide +kernel
theorem dX12_isGreat_13 : decode cX12_isGreat 13 = .ok (.iload_n 2, 1) := by decide +kernel
theorem dX12_isGreat_14 : decode cX12_isGreat 14 = .ok (.iadd, 1) := by decide +kernel
theorem dX12_isGreat_15 : decode cX12_isGreat 15 = .ok (.laload, 1) := by decide +kernel
theorem dX12_isGreat_16 : decode cX12_isGreat 16 = .ok (.ldc2_w 419, 3) := by decide +kernel
theorem dX12_isGreat_19 : decode cX12_isGreat 19 = .ok (.lcmp, 1) := by decide +kernel
theorem dX12_isGreat_20 : decode cX12_isGreat 20 = .ok (.ifCond .gt 18, 3) := by decide +kernel
theorem dX12_isGreat_23 : decode cX12_isGreat 23 = .ok (.aload_n 0, 1) := by decide +kernel
theorem dX12_isGreat_24 : decode cX12_isGreat 24 = .ok (.getfield 88, 3) := by decide +kernel
theorem dX12_isGreat_27 : decode cX12_isGreat 27 = .ok (.iload_n 1, 1) := by decide +kernel
theorem dX12_isGreat_28 : decode cX12_isGreat 28 = .ok (.iload_n 2, 1) := by decide +kernel
theorem dX12_isGreat_29 : decode cX12_isGreat 29 = .ok (.iadd, 1) := by decide +kernel
theorem dX12_isGreat_30 : decode cX12_isGreat 30 = .ok (.laload, 1) := by decide +kernel
theorem dX12_isGreat_31 : decode cX12_isGreat 31 = .ok (.ldc2_w 421, 3) := by decide +kernel
theorem dX12_isGreat_34 : decode cX12_isGreat 34 = .ok (.lcmp, 1) := by decide +kernel
theorem dX12_isGreat_35 : decode cX12_isGreat 35 = .ok (.ifCond .ge 5, 3) := by decide +kernel
theorem dX12_isGreat_38 : decode cX12_isGreat 38 = .ok (.iconst 1, 1) := by decide +kernel
theorem dX12_isGreat_39 : decode cX12_isGreat 39 = .ok (.ireturn, 1) := by decide +kernel
theorem dX12_isGreat_40 : decode cX12_isGreat 40 = .ok (.iinc 2 1, 3) := by decide +kernel
theorem dX12_isGreat_43 : decode cX12_isGreat 43 = .ok (.goto (-41), 3) := by decide +kernel
theorem dX12_isGreat_46 : decode cX12_isGreat 46 = .ok (.iconst 0, 1) := by decide +kernel
theorem dX12_isGreat_47 : decode cX12_isGreat 47 = .ok (.ireturn, 1) := by decide +kernel
theorem dX12_setHere_0 : decode cX12_setHere 0 = .ok (.aload_n 0, 1) := by decide +kernel
theorem dX12_setHere_1 : decode cX12_setHere 1 = .ok (.getfield 270, 3) := by decide +kernel
theorem dX12_setHere_4 : decode cX12_setHere 4 = .ok (.ifCond .eq 5, 3) := by decide +kernel
theorem dX12_setHere_7 : decode cX12_setHere 7 = .ok (.iconst (-1), 1) := by decide +kernel
theorem dX12_setHere_8 : decode cX12_setHere 8 = .ok (.ireturn, 1) := by decide +kernel
theorem dX12_setHere_9 : decode cX12_setHere 9 = .ok (.aload_n 0, 1) := by decide +kernel
theorem dX12_setHere_10 : decode cX12_setHere 10 = .ok (.aload_n 0, 1) := by decide +kernel
theorem dX12_setHere_11 : decode cX12_setHere 11 = .ok (.getfield 315, 3) := by decide +kernel
theorem dX12_setHere_14 : decode cX12_setHere 14 = .ok (.invokevirtual 361, 3) := by decide +kernel
theorem dX12_setHere_17 : decode cX12_setHere 17 = .ok (.istore_n 1, 1) := by decide +kernel
theorem dX12_setHere_18 : decode cX12_setHere 18 = .ok (.iload_n 1, 1) := by decide +kernel
theorem dX12_setHere_19 : decode cX12_setHere 19 = .ok (.iconst (-1), 1) := by decide +kernel
theorem dX12_setHere_20 : decode cX12_setHere 20 = .ok (.if_icmp .eq 13, 3) := by decide +kernel
theorem dX12_setHere_23 : decode cX12_setHere 23 = .ok (.aload_n 0, 1) := by decide +kernel
theorem dX12_setHere_24 : decode cX12_setHere 24 = .ok (.getfield 62, 3) := by decide +kernel
theorem dX12_setHere_27 : decode cX12_setHere 27 = .ok (.iload_n 1, 1) := by decide +kernel
theorem dX12_setHere_28 : decode cX12_setHere 28 = .ok (.iaload, 1) := by decide +kernel
theorem dX12_setHere_29 : decode cX12_setHere 29 = .ok (.iconst 1, 1) := by decide +kernel
theorem dX12_setHere_30 : decode cX12_setHere 30 = .ok (.if_icmp .eq 12, 3) := by decide +kernel
theorem dX12_setHere_33 : decode cX12_setHere 33 = .ok (.aload_n 0, 1) := by decide +kernel
theorem dX12_setHere_34 : decode cX12_setHere 34 = .ok (.iconst 2, 1) := by decide +kernel
theorem dX12_setHere_35 : decode cX12_setHere 35 = .ok (.aload_n 0, 1) := by decide +kernel
theorem dX12_setHere_36 : decode cX12_setHere 36 = .ok (.getfield 315, 3) := by decide +kernel
theorem dX12_setHere_39 : decode cX12_setHere 39 = .ok (.invokevirtual 321, 3) := by decide +kernel
theorem dX12_setHere_42 : decode cX12_setHere 42 = .ok (.aload_n 0, 1) := by decide +kernel
theorem dX12_setHere_43 : decode cX12_setHere 43 = .ok (.dup, 1) := by decide +kernel
theorem dX12_setHere_44 : decode cX12_setHere 44 = .ok (.getfield 315, 3) := by decide +kernel
theorem dX12_setHere_47 : decode cX12_setHere 47 = .ok (.iconst 1, 1) := by decide +kernel
theorem dX12_setHere_48 : decode cX12_setHere 48 = .ok (.iadd, 1) := by decide +kernel
theorem dX12_setHere_49 : decode cX12_setHere 49 = .ok (.putfield 315, 3) := by decide +kernel
theorem dX12_setHere_52 : decode cX12_setHere 52 = .ok (.aload_n 0, 1) := by decide +kernel
theorem dX12_setHere_53 : decode cX12_setHere 53 = .ok (.getfield 270, 3) := by decide +kernel
theorem dX12_setHere_56 : decode cX12_setHere 56 = .ok (.ifCond .ne 7, 3) := by decide +kernel
theorem dX12_setHere_59 : decode cX12_setHere 59 = .ok (.iload_n 1, 1) := by decide +kernel
theorem dX12_setHere_60 : decode cX12_setHere 60 = .ok (.goto 4, 3) := by decide +kernel
theorem dX12_setHere_63 : decode cX12_setHere 63 = .ok (.iconst (-1), 1) := by decide +kernel
theorem dX12_setHere_64 : decode cX12_setHere 64 = .ok (.ireturn, 1) := by decide +kernel
theorem dX12_sizeOf_0 : decode cX12_sizeOf 0 = .ok (.iload_n 1, 1) := by decide +kernel
theorem dX12_sizeOf_1 : decode cX12_sizeOf 1 = .ok (.iconst (-1), 1) := by decide +kernel
theorem dX12_sizeOf_2 : decode cX12_sizeOf 2 = .ok (.if_icmp .ne 7, 3) := by decide +kernel
theorem dX12_sizeOf_5 : decode cX12_sizeOf 5 = .ok (.iconst 1, 1) := by decide +kernel
theorem dX12_sizeOf_6 : decode cX12_sizeOf 6 = .ok (.goto 18, 3) := by decide +kernel
theorem dX12_sizeOf_9 : decode cX12_sizeOf 9 = .ok (.aload_n 0, 1) := by decide +kernel
theorem dX12_sizeOf_10 : decode cX12_sizeOf 10 = .ok (.getfield 68, 3) := by decide +kernel
theorem dX12_sizeOf_13 : decode cX12_sizeOf 13 = .ok (.iload_n 1, 1) := by decide +kernel
theorem dX12_sizeOf_14 : decode cX12_sizeOf 14 = .ok (.iaload, 1) := by decide +kernel
theorem dX12_sizeOf_15 : decode cX12_sizeOf 15 = .ok (.aload_n 0, 1) := by decide +kernel
theorem dX12_sizeOf_16 : decode cX12_sizeOf 16 = .ok (.getfield 65, 3) := by decide +kernel
theorem dX12_sizeOf_19 : decode cX12_sizeOf 19 = .ok (.iload_n 1, 1) := by decide +kernel
theorem dX12_sizeOf_20 : decode cX12_sizeOf 20 = .ok (.iaload, 1) := by decide +kernel
theorem dX12_sizeOf_21 : decode cX12_sizeOf 21 = .ok (.isub, 1) := by decide +kernel
theorem dX12_sizeOf_22 : decode cX12_sizeOf 22 = .ok (.iconst 1, 1) := by decide +kernel
theorem dX12_sizeOf_23 : decode cX12_sizeOf 23 = .ok (.iadd, 1) := by decide +kernel
theorem dX12_sizeOf_24 : decode cX12_sizeOf 24 = .ok (.ireturn, 1) := by decide +kernel
theorem w_126 : Cond.selects RX12 yX12_find yX12_find ∈ tb := sel_8 (q := (yX12_find, 105)) 14 (by decide +kernel)
theorem w_1986 : Cond.fieldLink RX12 358 (TX12 25).1 (TX12 25).2.1 (TX12 25).2.2.1 ∈ tb := tbc_8 103 (by decide +kernel) rfl
theorem w_1987 : Cond.fieldLink RX12 59 (TX12 26).1 (TX12 26).2.1 (TX12 26).2.2.1 ∈ tb := tbc_8 104 (by decide +kernel) rfl
theorem w_1988 : Cond.fieldLink RX12 62 (TX12 27).1 (TX12 27).2.1 (TX12 27).2.2.1 ∈ tb := tbc_8 105 (by decide +kernel) rfl
theorem w_1989 : Cond.fieldLink RX12 65 (TX12 28).1 (TX12 28).2.1 (TX12 28).2.2.1 ∈ tb := tbc_8 106 (by decide +kernel) rfl
theorem w_1990 : Cond.fieldLink RX12 68 (TX12 29).1 (TX12 29).2.1 (TX12 29).2.2.1 ∈ tb := tbc_8 107 (by decide +kernel) rfl
theorem w_1991 : Cond.fieldLink RX12 71 (TX12 30).1 (TX12 30).2.1 (TX12 30).2.2.1 ∈ tb := tbc_8 108 (by decide +kernel) rfl
theorem w_2002 : Cond.fieldLink RX12 88 (TX12 41).1 (TX12 41).2.1 (TX12 41).2.2.1 ∈ tb := tbc_8 119 (by decide +kernel) rfl
theorem w_2004 : Cond.fieldLink RX12 441 (TX12 43).1 (TX12 43).2.1 (TX12 43).2.2.1 ∈ tb := tbc_8 121 (by decide +kernel) rfl
theorem w_2005 : Cond.fieldLink RX12 91 (TX12 44).1 (TX12 44).2.1 (TX12 44).2.2.1 ∈ tb := tbc_8 122 (by decide +kernel) rfl
theorem w_2390 : Cond.methodLink RX12 361 yX12_find ∈ tb := tbc_10 27 (by decide +kernel) rfl
theorem w_2392 : Cond.instanceMethod yX12_find ∈ tb := tbc_10 29 (by decide +kernel) rfl
theorem w_2393 : Cond.code yX12_find cX12_find 5 (some .int) ∈ tb := tbc_10 30 (by decide +kernel) rfl
theorem w_2438 : Cond.constantLong RX12 419 (jv 99999) ∈ tb := tbc_10 75 (by decide +kernel) rfl
theorem w_2439 : Cond.constantLong RX12 421 (jv (-99999)) ∈ tb := tbc_10 76 (by decide +kernel) rfl
section RW73
variable {p : Program} {l : Launch} {e : Env} {R : Room} {s : State} {m : MethodId} {args : Array Value} {below : List Frame} {meth : Method} {c : Code} {H : Heap} {locs : List Loc} {cells slots : Nat} {Q : State → Prop}
variable {cc : ByteArray} {pc nL : Nat} {ls : Array Slot} {rest st0 : List Value} {G : sG} {n : Nat} {S : sS}
theorem g_X12_358 (Cx : sC G p m c cc nL s args RX12) (hW : sW G n S H) {k : Nat} (hk : k < n) (ht : tau k = .inl 12) {v : Int} (hv : S.1 k 25 = v) (hdg : decode cc pc = .ok (.getfield 358, 3)) (kk : W p l e R s m args below meth c H locs cells slots Q (F0 m (pc + 3) ls (.int (iv v) :: rest))) : W p l e R s m args below meth c H locs cells slots Q (F0 m pc ls (.ref (G.2.2.1 + k) :: rest)) :=
  sGet Cx inX12 rfl 25 (by decide) w_1986 hW hk ht (congrArg (fun z => Value.int (iv z)) hv) hdg kk
theorem g_X12_59 (Cx : sC G p m c cc nL s args RX12) (hW : sW G n S H) {k : Nat} (hk : k < n) (ht : tau k = .inl 12) {v : Value} (hv : S.2.2.2 k 26 = v) (hdg : decode cc pc = .ok (.getfield 59, 3)) (kk : W p l e R s m args below meth c H locs cells slots Q (F0 m (pc + 3) ls (v :: rest))) : W p l e R s m args below meth c H locs cells slots Q (F0 m pc ls (.ref (G.2.2.1 + k) :: rest)) :=
  sGet Cx inX12 rfl 26 (by decide) w_1987 hW hk ht hv hdg kk
theorem c_X12_361 (Cx : sC G p m c cc nL s args RX12) {rm : Room} {mc ms : Nat} (h1 : rm.cells = mc) (h2 : rm.slots = ms) (h3 : rm.frames + 1 ≤ R.frames ∧ 8 + (5 + 11) + rm.locals ≤ R.locals) : CallW R s args RX12 RX12 361 yX12_find cX12_find 5 (some .int) (.code yX12_find cX12_find 5 (some .int) :: tb) rm mc ms 1 :=
  sCw Cx 1 w_2390 w_2392 w_126 w_217 w_2393 (by decide +kernel) h1 h2 h3
theorem g_X12_62 (Cx : sC G p m c cc nL s args RX12) (hW : sW G n S H) {k : Nat} (hk : k < n) (ht : tau k = .inl 12) {v : Value} (hv : S.2.2.2 k 27 = v) (hdg : decode cc pc = .ok (.getfield 62, 3)) (kk : W p l e R s m args below meth c H locs cells slots Q (F0 m (pc + 3) ls (v :: rest))) : W p l e R s m args below meth c H locs cells slots Q (F0 m pc ls (.ref (G.2.2.1 + k) :: rest)) :=
  sGet Cx inX12 rfl 27 (by decide) w_1988 hW hk ht hv hdg kk
theorem g_X12_65 (Cx : sC G p m c cc nL s args RX12) (hW : sW G n S H) {k : Nat} (hk : k < n) (ht : tau k = .inl 12) {v : Value} (hv : S.2.2.2 k 28 = v) (hdg : decode cc pc = .ok (.getfield 65, 3)) (kk : W p l e R s m args below meth c H locs cells slots Q (F0 m (pc + 3) ls (v :: rest))) : W p l e R s m args below meth c H locs cells slots Q (F0 m pc ls (.ref (G.2.2.1 + k) :: rest)) :=
  sGet Cx inX12 rfl 28 (by decide) w_1989 hW hk ht hv hdg kk
theorem g_X12_68 (Cx : sC G p m c cc nL s args RX12) (hW : sW G n S H) {k : Nat} (hk : k < n) (ht : tau k = .inl 12) {v : Value} (hv : S.2.2.2 k 29 = v) (hdg : decode cc pc = .ok (.getfield 68, 3)) (kk : W p l e R s m args below meth c H locs cells slots Q (F0 m (pc + 3) ls (v :: rest))) : W p l e R s m args below meth c H locs cells slots Q (F0 m pc ls (.ref (G.2.2.1 + k) :: rest)) :=
  sGet Cx inX12 rfl 29 (by decide) w_1990 hW hk ht hv hdg kk
theorem g_X12_71 (Cx : sC G p m c cc nL s args RX12) (hW : sW G n S H) {k : Nat} (hk : k < n) (ht : tau k = .inl 12) {v : Value} (hv : S.2.2.2 k 30 = v) (hdg : decode cc pc = .ok (.getfield 71, 3)) (kk : W p l e R s m args below meth c H locs cells slots Q (F0 m (pc + 3) ls (v :: rest))) : W p l e R s m args below meth c H locs cells slots Q (F0 m pc ls (.ref (G.2.2.1 + k) :: rest)) :=
  sGet Cx inX12 rfl 30 (by decide) w_1991 hW hk ht hv hdg kk
theorem p_X12_358 (Cx : sC G p m c cc nL s args RX12) (hW : sW G n S H) (hL : sL G locs) {k : Nat} (hk : k < n) (ht : tau k = .inl 12) {v : Int} (hdg : decode cc pc = .ok (.putfield 358, 3)) (kk : ∀ (H1 : Heap) (locs1 : List Loc), sW G n (uF S k 25 v) H1 → sL G locs1 → W p l e R s m args below meth c H1 locs1 cells slots Q (F0 m (pc + 3) ls rest)) : W p l e R s m args below meth c H locs cells slots Q (F0 m pc ls (.int (iv v) :: .ref (G.2.2.1 + k) :: rest)) :=
  sPut Cx inX12 tyX12 tyX12_ok nmX12 rfl 25 (by decide) w_1986 rfl hW hL hk ht rfl rfl (fun _ h => uF_same h) (fun _ h => uF_off h) (congrArg (fun z => Value.int (iv z)) uF_on) hdg kk
theorem g_X12_88 (Cx : sC G p m c cc nL s args RX12) (hW : sW G n S H) {k : Nat} (hk : k < n) (ht : tau k = .inl 12) {v : Value} (hv : S.2.2.2 k 41 = v) (hdg : decode cc pc = .ok (.getfield 88, 3)) (kk : W p l e R s m args below meth c H locs cells slots Q (F0 m (pc + 3) ls (v :: rest))) : W p l e R s m args below meth c H locs cells slots Q (F0 m pc ls (.ref (G.2.2.1 + k) :: rest)) :=
  sGet Cx inX12 rfl 41 (by decide) w_2002 hW hk ht hv hdg kk
theorem g_X12_91 (Cx : sC G p m c cc nL s args RX12) (hW : sW G n S H) {k : Nat} (hk : k < n) (ht : tau k = .inl 12) {v : Value} (hv : S.2.2.2 k 44 = v) (hdg : decode cc pc = .ok (.getfield 91, 3)) (kk : W p l e R s m args below meth c H locs cells slots Q (F0 m (pc + 3) ls (v :: rest))) : W p l e R s m args below meth c H locs cells slots Q (F0 m pc ls (.ref (G.2.2.1 + k) :: rest)) :=
  sGet Cx inX12 rfl 44 (by decide) w_2005 hW hk ht hv hdg kk
theorem g_X12_441 (Cx : sC G p m c cc nL s args RX12) (hW : sW G n S H) {k : Nat} (hk : k < n) (ht : tau k = .inl 12) {v : Int} (hv : S.1 k 43 = v) (hdg : decode cc pc = .ok (.getfield 441, 3)) (kk : W p l e R s m args below meth c H locs cells slots Q (F0 m (pc + 3) ls (.int (iv v) :: rest))) : W p l e R s m args below meth c H locs cells slots Q (F0 m pc ls (.ref (G.2.2.1 + k) :: rest)) :=
  sGet Cx inX12 rfl 43 (by decide) w_2004 hW hk ht (congrArg (fun z => Value.int (iv z)) hv) hdg kk
theorem p_X12_441 (Cx : sC G p m c cc nL s args RX12) (hW : sW G n S H) (hL : sL G locs) {k : Nat} (hk : k < n) (ht : tau k = .inl 12) {v : Int} (hdg : decode cc pc = .ok (.putfield 441, 3)) (kk : ∀ (H1 : Heap) (locs1 : List Loc), sW G n (uF S k 43 v) H1 → sL G locs1 → W p l e R s m args below meth c H1 locs1 cells slots Q (F0 m (pc + 3) ls rest)) : W p l e R s m args below meth c H locs cells slots Q (F0 m pc ls (.int (iv v) :: .ref (G.2.2.1 + k) :: rest)) :=
  sPut Cx inX12 tyX12 tyX12_ok nmX12 rfl 43 (by decide) w_2004 rfl hW hL hk ht rfl rfl (fun _ h => uF_same h) (fun _ h => uF_off h) (congrArg (fun z => Value.int (iv z)) uF_on) hdg kk
end RW73
