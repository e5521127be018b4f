theorem dX12_branchRow_0 : decode cX12_branchRow 0 = .ok (.aload_n 0, 1) := by decide +kernel
theorem dX12_branchRow_1 : decode cX12_branchRow 1 = .ok (.dup, 1) := by decide +kernel
theorem dX12_branchRow_2 : decode cX12_branchRow 2 = .ok (.getfield 738, 3) := by decide +kernel
theorem dX12_branchRow_5 : decode cX12_branchRow 5 = .ok (.iconst 1, 1) := by decide +kernel
theorem dX12_branchRow_6 : decode cX12_branchRow 6 = .ok (.iadd, 1) := by decide +kernel
theorem dX12_branchRow_7 : decode cX12_branchRow 7 = .ok (.putfield 738, 3) := by decide +kernel
theorem dX12_branchRow_10 : decode cX12_branchRow 10 = .ok (.iconst 0, 1) := by decide +kernel
theorem dX12_branchRow_11 : decode cX12_branchRow 11 = .ok (.istore 4, 2) := by decide +kernel
theorem dX12_branchRow_13 : decode cX12_branchRow 13 = .ok (.iload 4, 2) := by decide +kernel
theorem dX12_branchRow_15 : decode cX12_branchRow 15 = .ok (.aload_n 0, 1) := by decide +kernel
theorem dX12_branchRow_16 : decode cX12_branchRow 16 = .ok (.getfield 465, 3) := by decide +kernel
theorem dX12_branchRow_19 : decode cX12_branchRow 19 = .ok (.if_icmp .gt 25, 3) := by decide +kernel
theorem dX12_branchRow_22 : decode cX12_branchRow 22 = .ok (.aload_n 0, 1) := by decide +kernel
theorem dX12_branchRow_23 : decode cX12_branchRow 23 = .ok (.getfield 169, 3) := by decide +kernel
theorem dX12_branchRow_26 : decode cX12_branchRow 26 = .ok (.aload_n 0, 1) := by decide +kernel
theorem dX12_branchRow_27 : decode cX12_branchRow 27 = .ok (.aload_n 0, 1) := by decide +kernel
theorem dX12_branchRow_28 : decode cX12_branchRow 28 = .ok (.getfield 738, 3) := by decide +kernel
theorem dX12_branchRow_31 : decode cX12_branchRow 31 = .ok (.iload 4, 2) := by decide +kernel
theorem dX12_branchRow_33 : decode cX12_branchRow 33 = .ok (.invokevirtual 735, 3) := by decide +kernel
theorem dX12_branchRow_36 : decode cX12_branchRow 36 = .ok (.iconst 0, 1) := by decide +kernel
theorem dX12_branchRow_37 : decode cX12_branchRow 37 = .ok (.iastore, 1) := by decide +kernel
theorem dX12_branchRow_38 : decode cX12_branchRow 38 = .ok (.iinc 4 1, 3) := by decide +kernel
theorem dX12_branchRow_41 : decode cX12_branchRow 41 = .ok (.goto (-28), 3) := by decide +kernel
theorem dX12_branchRow_44 : decode cX12_branchRow 44 = .ok (.aload_n 0, 1) := by decide +kernel
theorem dX12_branchRow_45 : decode cX12_branchRow 45 = .ok (.getfield 169, 3) := by decide +kernel
theorem dX12_branchRow_48 : decode cX12_branchRow 48 = .ok (.aload_n 0, 1) := by decide +kernel
theorem dX12_branchRow_49 : decode cX12_branchRow 49 = .ok (.aload_n 0, 1) := by decide +kernel
theorem dX12_branchRow_50 : decode cX12_branchRow 50 = .ok (.getfield 738, 3) := by decide +kernel
theorem dX12_branchRow_53 : decode cX12_branchRow 53 = .ok (.iload_n 1, 1) := by decide +kernel
theorem dX12_branchRow_54 : decode cX12_branchRow 54 = .ok (.invokevirtual 735, 3) := by decide +kernel
theorem dX12_branchRow_57 : decode cX12_branchRow 57 = .ok (.iload_n 3, 1) := by decide +kernel
theorem dX12_branchRow_58 : decode cX12_branchRow 58 = .ok (.ifCond .eq 9, 3) := by decide +kernel
theorem dX12_branchRow_61 : decode cX12_branchRow 61 = .ok (.ldc2_w 538, 3) := by decide +kernel
theorem dX12_branchRow_64 : decode cX12_branchRow 64 = .ok (.goto 4, 3) := by decide +kernel
theorem dX12_branchRow_67 : decode cX12_branchRow 67 = .ok (.lconst 1, 1) := by decide +kernel
theorem dX12_branchRow_68 : decode cX12_branchRow 68 = .ok (.invokestatic 241, 3) := by decide +kernel
theorem dX12_branchRow_71 : decode cX12_branchRow 71 = .ok (.aload_n 0, 1) := by decide +kernel
theorem dX12_branchRow_72 : decode cX12_branchRow 72 = .ok (.aload_n 0, 1) := by decide +kernel
theorem dX12_branchRow_73 : decode cX12_branchRow 73 = .ok (.getfield 738, 3) := by decide +kernel
theorem dX12_branchRow_76 : decode cX12_branchRow 76 = .ok (.iconst 0, 1) := by decide +kernel
theorem dX12_branchRow_77 : decode cX12_branchRow 77 = .ok (.invokevirtual 735, 3) := by decide +kernel
theorem dX12_branchRow_80 : decode cX12_branchRow 80 = .ok (.istore 4, 2) := by decide +kernel
theorem dX12_branchRow_82 : decode cX12_branchRow 82 = .ok (.aload_n 0, 1) := by decide +kernel
theorem dX12_branchRow_83 : decode cX12_branchRow 83 = .ok (.iload_n 2, 1) := by decide +kernel
theorem dX12_branchRow_84 : decode cX12_branchRow 84 = .ok (.aload_n 0, 1) := by decide +kernel
theorem dX12_branchRow_85 : decode cX12_branchRow 85 = .ok (.getfield 169, 3) := by decide +kernel
theorem dX12_branchRow_88 : decode cX12_branchRow 88 = .ok (.iload 4, 2) := by decide +kernel
theorem dX12_branchRow_90 : decode cX12_branchRow 90 = .ok (.invokevirtual 703, 3) := by decide +kernel
theorem dX12_branchRow_93 : decode cX12_branchRow 93 = .ok (.iload_n 3, 1) := by decide +kernel
theorem dX12_branchRow_94 : decode cX12_branchRow 94 = .ok (.ifCond .ne 4, 3) := by decide +kernel
theorem dX12_branchRow_97 : decode cX12_branchRow 97 = .ok (.return_, 1) := by decide +kernel
theorem dX12_branchRow_98 : decode cX12_branchRow 98 = .ok (.aload_n 0, 1) := by decide +kernel
theorem dX12_branchRow_99 : decode cX12_branchRow 99 = .ok (.getfield 151, 3) := by decide +kernel
theorem dX12_branchRow_102 : decode cX12_branchRow 102 = .ok (.iconst 0, 1) := by decide +kernel
theorem dX12_branchRow_103 : decode cX12_branchRow 103 = .ok (.lconst 1, 1) := by decide +kernel
theorem dX12_branchRow_104 : decode cX12_branchRow 104 = .ok (.invokestatic 241, 3) := by decide +kernel
theorem dX12_branchRow_107 : decode cX12_branchRow 107 = .ok (.aload_n 0, 1) := by decide +kernel
theorem dX12_branchRow_108 : decode cX12_branchRow 108 = .ok (.getfield 169, 3) := by decide +kernel
theorem dX12_branchRow_111 : decode cX12_branchRow 111 = .ok (.iload 4, 2) := by decide +kernel
theorem dX12_branchRow_113 : decode cX12_branchRow 113 = .ok (.aload_n 0, 1) := by decide +kernel
theorem dX12_branchRow_114 : decode cX12_branchRow 114 = .ok (.getfield 151, 3) := by decide +kernel
theorem dX12_branchRow_117 : decode cX12_branchRow 117 = .ok (.iconst 0, 1) := by decide +kernel
theorem dX12_branchRow_118 : decode cX12_branchRow 118 = .ok (.iconst 0, 1) := by decide +kernel
theorem dX12_branchRow_119 : decode cX12_branchRow 119 = .ok (.aload_n 0, 1) := by decide +kernel
theorem dX12_branchRow_120 : decode cX12_branchRow 120 = .ok (.getfield 169, 3) := by decide +kernel
theorem dX12_branchRow_123 : decode cX12_branchRow 123 = .ok (.iload 4, 2) := by decide +kernel
theorem dX12_branchRow_125 : decode cX12_branchRow 125 = .ok (.invokestatic 249, 3) := by decide +kernel
theorem dX12_branchRow_128 : decode cX12_branchRow 128 = .ok (.aload_n 0, 1) := by decide +kernel
theorem dX12_branchRow_129 : decode cX12_branchRow 129 = .ok (.getfield 169, 3) := by decide +kernel
theorem dX12_branchRow_132 : decode cX12_branchRow 132 = .ok (.iload 4, 2) := by decide +kernel
theorem dX12_branchRow_134 : decode cX12_branchRow 134 = .ok (.invokestatic 540, 3) := by decide +kernel
theorem dX12_branchRow_137 : decode cX12_branchRow 137 = .ok (.return_, 1) := by decide +kernel
theorem dX12_cutRow_0 : decode cX12_cutRow 0 = .ok (.iconst 0, 1) := by decide +kernel
theorem dX12_cutRow_1 : decode cX12_cutRow 1 = .ok (.istore_n 1, 1) := by decide +kernel
theorem dX12_cutRow_2 : decode cX12_cutRow 2 = .ok (.iload_n 1, 1) := by decide +kernel
theorem dX12_cutRow_3 : decode cX12_cutRow 3 = .ok (.aload_n 0, 1) := by decide +kernel
theorem dX12_cutRow_4 : decode cX12_cutRow 4 = .ok (.getfield 465, 3) := by decide +kernel
theorem dX12_cutRow_7 : decode cX12_cutRow 7 = .ok (.if_icmp .gt 73, 3) := by decide +kernel
theorem dX12_cutRow_10 : decode cX12_cutRow 10 = .ok (.aload_n 0, 1) := by decide +kernel
theorem dX12_cutRow_11 : decode cX12_cutRow 11 = .ok (.aload_n 0, 1) := by decide +kernel
theorem dX12_cutRow_12 : decode cX12_cutRow 12 = .ok (.getfield 172, 3) := by decide +kernel
theorem dX12_cutRow_15 : decode cX12_cutRow 15 = .ok (.bipush 40, 2) := by decide +kernel
theorem dX12_cutRow_17 : decode cX12_cutRow 17 = .ok (.iload_n 1, 1) := by decide +kernel
theorem dX12_cutRow_18 : decode cX12_cutRow 18 = .ok (.imul, 1) := by decide +kernel
theorem dX12_cutRow_19 : decode cX12_cutRow 19 = .ok (.aload_n 0, 1) := by decide +kernel
theorem dX12_cutRow_20 : decode cX12_cutRow 20 = .ok (.getfield 184, 3) := by decide +kernel
theorem dX12_cutRow_23 : decode cX12_cutRow 23 = .ok (.iconst 0, 1) := by decide +kernel
theorem dX12_cutRow_24 : decode cX12_cutRow 24 = .ok (.aload_n 0, 1) := by decide +kernel
theorem dX12_cutRow_25 : decode cX12_cutRow 25 = .ok (.getfield 26, 3) := by decide +kernel
theorem dX12_cutRow_28 : decode cX12_cutRow 28 = .ok (.iconst 0, 1) := by decide +kernel
theorem dX12_cutRow_29 : decode cX12_cutRow 29 = .ok (.aload_n 0, 1) := by decide +kernel
theorem dX12_cutRow_30 : decode cX12_cutRow 30 = .ok (.getfield 35, 3) := by decide +kernel
theorem dX12_cutRow_33 : decode cX12_cutRow 33 = .ok (.iconst 0, 1) := by decide +kernel
theorem dX12_cutRow_34 : decode cX12_cutRow 34 = .ok (.invokevirtual 266, 3) := by decide +kernel
theorem dX12_cutRow_37 : decode cX12_cutRow 37 = .ok (.aload_n 0, 1) := by decide +kernel
theorem dX12_cutRow_38 : decode cX12_cutRow 38 = .ok (.aload_n 0, 1) := by decide +kernel
theorem dX12_cutRow_39 : decode cX12_cutRow 39 = .ok (.getfield 26, 3) := by decide +kernel
theorem dX12_cutRow_42 : decode cX12_cutRow 42 = .ok (.iconst 0, 1) := by decide +kernel
theorem dX12_cutRow_43 : decode cX12_cutRow 43 = .ok (.invokevirtual 761, 3) := by decide +kernel
theorem dX12_cutRow_46 : decode cX12_cutRow 46 = .ok (.ifCond .eq 5, 3) := by decide +kernel
theorem dX12_cutRow_49 : decode cX12_cutRow 49 = .ok (.iconst 0, 1) := by decide +kernel
theorem dX12_cutRow_50 : decode cX12_cutRow 50 = .ok (.ireturn, 1) := by decide +kernel
theorem dX12_cutRow_51 : decode cX12_cutRow 51 = .ok (.aload_n 0, 1) := by decide +kernel
theorem dX12_cutRow_52 : decode cX12_cutRow 52 = .ok (.getfield 26, 3) := by decide +kernel
theorem dX12_cutRow_55 : decode cX12_cutRow 55 = .ok (.iconst 0, 1) := by decide +kernel
theorem dX12_cutRow_56 : decode cX12_cutRow 56 = .ok (.aload_n 0, 1) := by decide +kernel
theorem dX12_cutRow_57 : decode cX12_cutRow 57 = .ok (.getfield 169, 3) := by decide +kernel
theorem dX12_cutRow_60 : decode cX12_cutRow 60 = .ok (.aload_n 0, 1) := by decide +kernel
theorem dX12_cutRow_61 : decode cX12_cutRow 61 = .ok (.aload_n 0, 1) := by decide +kernel
theorem dX12_cutRow_62 : decode cX12_cutRow 62 = .ok (.getfield 738, 3) := by decide +kernel
theorem dX12_cutRow_65 : decode cX12_cutRow 65 = .ok (.iconst 1, 1) := by decide +kernel
theorem dX12_cutRow_66 : decode cX12_cutRow 66 = .ok (.iadd, 1) := by decide +kernel
theorem dX12_cutRow_67 : decode cX12_cutRow 67 = .ok (.iload_n 1, 1) := by decide +kernel
theorem dX12_cutRow_68 : decode cX12_cutRow 68 = .ok (.invokevirtual 735, 3) := by decide +kernel
theorem dX12_cutRow_71 : decode cX12_cutRow 71 = .ok (.invokestatic 233, 3) := by decide +kernel
theorem dX12_cutRow_74 : decode cX12_cutRow 74 = .ok (.iinc 1 1, 3) := by decide +kernel
theorem dX12_cutRow_77 : decode cX12_cutRow 77 = .ok (.goto (-75), 3) := by decide +kernel
theorem dX12_cutRow_80 : decode cX12_cutRow 80 = .ok (.aload_n 0, 1) := by decide +kernel
theorem dX12_cutRow_81 : decode cX12_cutRow 81 = .ok (.dup, 1) := by decide +kernel
theorem dX12_cutRow_82 : decode cX12_cutRow 82 = .ok (.getfield 738, 3) := by decide +kernel
theorem dX12_cutRow_85 : decode cX12_cutRow 85 = .ok (.iconst 1, 1) := by decide +kernel
theorem dX12_cutRow_86 : decode cX12_cutRow 86 = .ok (.iadd, 1) := by decide +kernel
theorem dX12_cutRow_87 : decode cX12_cutRow 87 = .ok (.putfield 738, 3) := by decide +kernel
theorem dX12_cutRow_90 : decode cX12_cutRow 90 = .ok (.iconst 1, 1) := by decide +kernel
theorem dX12_cutRow_91 : decode cX12_cutRow 91 = .ok (.ireturn, 1) := by decide +kernel
theorem dX12_isBound_0 : decode cX12_isBound 0 = .ok (.iconst 1, 1) := by decide +kernel
theorem dX12_isBound_1 : decode cX12_isBound 1 = .ok (.istore_n 1, 1) := by decide +kernel
theorem dX12_isBound_2 : decode cX12_isBound 2 = .ok (.iload_n 1, 1) := by decide +kernel
theorem dX12_isBound_3 : decode cX12_isBound 3 = .ok (.aload_n 0, 1) := by decide +kernel
theorem dX12_isBound_4 : decode cX12_isBound 4 = .ok (.getfield 465, 3) := by decide +kernel
theorem dX12_isBound_7 : decode cX12_isBound 7 = .ok (.if_icmp .gt 62, 3) := by decide +kernel
theorem dX12_isBound_10 : decode cX12_isBound 10 = .ok (.aload_n 0, 1) := by decide +kernel
theorem dX12_isBound_11 : decode cX12_isBound 11 = .ok (.getfield 151, 3) := by decide +kernel
theorem dX12_isBound_14 : decode cX12_isBound 14 = .ok (.iconst 0, 1) := by decide +kernel
theorem dX12_isBound_15 : decode cX12_isBound 15 = .ok (.aload_n 0, 1) := by decide +kernel
theorem dX12_isBound_16 : decode cX12_isBound 16 = .ok (.getfield 97, 3) := by decide +kernel
theorem dX12_isBound_19 : decode cX12_isBound 19 = .ok (.iload_n 1, 1) := by decide +kernel
theorem dX12_isBound_20 : decode cX12_isBound 20 = .ok (.laload, 1) := by decide +kernel
theorem dX12_isBound_21 : decode cX12_isBound 21 = .ok (.invokestatic 241, 3) := by decide +kernel
theorem dX12_isBound_24 : decode cX12_isBound 24 = .ok (.aload_n 0, 1) := by decide +kernel
theorem dX12_isBound_25 : decode cX12_isBound 25 = .ok (.getfield 184, 3) := by decide +kernel
theorem dX12_isBound_28 : decode cX12_isBound 28 = .ok (.iconst 0, 1) := by decide +kernel
theorem dX12_isBound_29 : decode cX12_isBound 29 = .ok (.aload_n 0, 1) := by decide +kernel
theorem dX12_isBound_30 : decode cX12_isBound 30 = .ok (.getfield 151, 3) := by decide +kernel
theorem dX12_isBound_33 : decode cX12_isBound 33 = .ok (.iconst 0, 1) := by decide +kernel
theorem dX12_isBound_34 : decode cX12_isBound 34 = .ok (.aload_n 0, 1) := by decide +kernel
theorem dX12_isBound_35 : decode cX12_isBound 35 = .ok (.getfield 26, 3) := by decide +kernel
theorem dX12_isBound_38 : decode cX12_isBound 38 = .ok (.iconst 0, 1) := by decide +kernel
theorem dX12_isBound_39 : decode cX12_isBound 39 = .ok (.invokestatic 548, 3) := by decide +kernel
theorem dX12_isBound_42 : decode cX12_isBound 42 = .ok (.aload_n 0, 1) := by decide +kernel
theorem dX12_isBound_43 : decode cX12_isBound 43 = .ok (.getfield 172, 3) := by decide +kernel
theorem dX12_isBound_46 : decode cX12_isBound 46 = .ok (.bipush 40, 2) := by decide +kernel
theorem dX12_isBound_48 : decode cX12_isBound 48 = .ok (.iload_n 1, 1) := by decide +kernel
theorem dX12_isBound_49 : decode cX12_isBound 49 = .ok (.imul, 1) := by decide +kernel
theorem dX12_isBound_50 : decode cX12_isBound 50 = .ok (.aload_n 0, 1) := by decide +kernel
theorem dX12_isBound_51 : decode cX12_isBound 51 = .ok (.getfield 26, 3) := by decide +kernel
theorem dX12_isBound_54 : decode cX12_isBound 54 = .ok (.iconst 0, 1) := by decide +kernel
theorem dX12_isBound_55 : decode cX12_isBound 55 = .ok (.invokestatic 552, 3) := by decide +kernel
theorem dX12_isBound_58 : decode cX12_isBound 58 = .ok (.ifCond .ge 5, 3) := by decide +kernel
theorem dX12_isBound_61 : decode cX12_isBound 61 = .ok (.iconst 0, 1) := by decide +kernel
theorem dX12_isBound_62 : decode cX12_isBound 62 = .ok (.ireturn, 1) := by decide +kernel
theorem dX12_isBound_63 : decode cX12_isBound 63 = .ok (.iinc 1 1, 3) := by decide +kernel
theorem dX12_isBound_66 : decode cX12_isBound 66 = .ok (.goto (-64), 3) := by decide +kernel
theorem dX12_isBound_69 : decode cX12_isBound 69 = .ok (.aload_n 0, 1) := by decide +kernel
theorem dX12_isBound_70 : decode cX12_isBound 70 = .ok (.getfield 151, 3) := by decide +kernel
theorem dX12_isBound_73 : decode cX12_isBound 73 = .ok (.iconst 0, 1) := by decide +kernel
theorem dX12_isBound_74 : decode cX12_isBound 74 = .ok (.aload_n 0, 1) := by decide +kernel
theorem dX12_isBound_75 : decode cX12_isBound 75 = .ok (.getfield 97, 3) := by decide +kernel
theorem dX12_isBound_78 : decode cX12_isBound 78 = .ok (.iconst 0, 1) := by decide +kernel
theorem dX12_isBound_79 : decode cX12_isBound 79 = .ok (.laload, 1) := by decide +kernel
theorem dX12_isBound_80 : decode cX12_isBound 80 = .ok (.invokestatic 241, 3) := by decide +kernel
theorem dX12_isBound_83 : decode cX12_isBound 83 = .ok (.aload_n 0, 1) := by decide +kernel
theorem dX12_isBound_84 : decode cX12_isBound 84 = .ok (.getfield 184, 3) := by decide +kernel
theorem dX12_isBound_87 : decode cX12_isBound 87 = .ok (.iconst 0, 1) := by decide +kernel
theorem dX12_isBound_88 : decode cX12_isBound 88 = .ok (.aload_n 0, 1) := by decide +kernel
theorem dX12_isBound_89 : decode cX12_isBound 89 = .ok (.getfield 151, 3) := by decide +kernel
theorem dX12_isBound_92 : decode cX12_isBound 92 = .ok (.iconst 0, 1) := by decide +kernel
theorem dX12_isBound_93 : decode cX12_isBound 93 = .ok (.aload_n 0, 1) := by decide +kernel
theorem dX12_isBound_94 : decode cX12_isBound 94 = .ok (.getfield 26, 3) := by decide +kernel
theorem dX12_isBound_97 : decode cX12_isBound 97 = .ok (.iconst 0, 1) := by decide +kernel
theorem dX12_isBound_98 : decode cX12_isBound 98 = .ok (.invokestatic 548, 3) := by decide +kernel
theorem dX12_isBound_101 : decode cX12_isBound 101 = .ok (.aload_n 0, 1) := by decide +kernel
theorem dX12_isBound_102 : decode cX12_isBound 102 = .ok (.getfield 172, 3) := by decide +kernel
theorem dX12_isBound_105 : decode cX12_isBound 105 = .ok (.iconst 0, 1) := by decide +kernel
theorem dX12_isBound_106 : decode cX12_isBound 106 = .ok (.aload_n 0, 1) := by decide +kernel
theorem dX12_isBound_107 : decode cX12_isBound 107 = .ok (.getfield 26, 3) := by decide +kernel
theorem dX12_isBound_110 : decode cX12_isBound 110 = .ok (.iconst 0, 1) := by decide +kernel
theorem dX12_isBound_111 : decode cX12_isBound 111 = .ok (.iconst 0, 1) := by decide +kernel
theorem dX12_isBound_112 : decode cX12_isBound 112 = .ok (.aload_n 0, 1) := by decide +kernel
theorem dX12_isBound_113 : decode cX12_isBound 113 = .ok (.getfield 172, 3) := by decide +kernel
theorem dX12_isBound_116 : decode cX12_isBound 116 = .ok (.iconst 0, 1) := by decide +kernel
theorem dX12_isBound_117 : decode cX12_isBound 117 = .ok (.invokestatic 249, 3) := by decide +kernel
theorem dX12_isBound_120 : decode cX12_isBound 120 = .ok (.aload_n 0, 1) := by decide +kernel
theorem dX12_isBound_121 : decode cX12_isBound 121 = .ok (.invokevirtual 628, 3) := by decide +kernel
theorem dX12_isBound_124 : decode cX12_isBound 124 = .ok (.ifCond .eq 67, 3) := by decide +kernel
theorem dX12_isBound_127 : decode cX12_isBound 127 = .ok (.aload_n 0, 1) := by decide +kernel
theorem dX12_isBound_128 : decode cX12_isBound 128 = .ok (.aload_n 0, 1) := by decide +kernel
theorem dX12_isBound_129 : decode cX12_isBound 129 = .ok (.getfield 172, 3) := by decide +kernel
theorem dX12_isBound_132 : decode cX12_isBound 132 = .ok (.iconst 0, 1) := by decide +kernel
theorem dX12_isBound_133 : decode cX12_isBound 133 = .ok (.aload_n 0, 1) := by decide +kernel
theorem dX12_isBound_134 : decode cX12_isBound 134 = .ok (.getfield 184, 3) := by decide +kernel
theorem dX12_isBound_137 : decode cX12_isBound 137 = .ok (.iconst 0, 1) := by decide +kernel
theorem dX12_isBound_138 : decode cX12_isBound 138 = .ok (.aload_n 0, 1) := by decide +kernel
theorem dX12_isBound_139 : decode cX12_isBound 139 = .ok (.getfield 29, 3) := by decide +kernel
theorem dX12_isBound_142 : decode cX12_isBound 142 = .ok (.iconst 0, 1) := by decide +kernel
theorem dX12_isBound_143 : decode cX12_isBound 143 = .ok (.aload_n 0, 1) := by decide +kernel
theorem dX12_isBound_144 : decode cX12_isBound 144 = .ok (.getfield 35, 3) := by decide +kernel
theorem dX12_isBound_147 : decode cX12_isBound 147 = .ok (.iconst 0, 1) := by decide +kernel
theorem dX12_isBound_148 : decode cX12_isBound 148 = .ok (.invokevirtual 266, 3) := by decide +kernel
theorem dX12_isBound_151 : decode cX12_isBound 151 = .ok (.aload_n 0, 1) := by decide +kernel
theorem dX12_isBound_152 : decode cX12_isBound 152 = .ok (.getfield 29, 3) := by decide +kernel
theorem dX12_isBound_155 : decode cX12_isBound 155 = .ok (.iconst 0, 1) := by decide +kernel
theorem dX12_isBound_156 : decode cX12_isBound 156 = .ok (.aload_n 0, 1) := by decide +kernel
theorem dX12_isBound_157 : decode cX12_isBound 157 = .ok (.getfield 181, 3) := by decide +kernel
theorem dX12_isBound_160 : decode cX12_isBound 160 = .ok (.iconst 0, 1) := by decide +kernel
theorem dX12_isBound_161 : decode cX12_isBound 161 = .ok (.aload_n 0, 1) := by decide +kernel
theorem dX12_isBound_162 : decode cX12_isBound 162 = .ok (.getfield 26, 3) := by decide +kernel
theorem dX12_isBound_165 : decode cX12_isBound 165 = .ok (.iconst 0, 1) := by decide +kernel
theorem dX12_isBound_166 : decode cX12_isBound 166 = .ok (.invokestatic 548, 3) := by decide +kernel
theorem dX12_isBound_169 : decode cX12_isBound 169 = .ok (.aload_n 0, 1) := by decide +kernel
theorem dX12_isBound_170 : decode cX12_isBound 170 = .ok (.getfield 26, 3) := by decide +kernel
theorem dX12_isBound_173 : decode cX12_isBound 173 = .ok (.iconst 0, 1) := by decide +kernel
theorem dX12_isBound_174 : decode cX12_isBound 174 = .ok (.aload_n 0, 1) := by decide +kernel
theorem dX12_isBound_175 : decode cX12_isBound 175 = .ok (.getfield 178, 3) := by decide +kernel
theorem dX12_isBound_178 : decode cX12_isBound 178 = .ok (.iconst 0, 1) := by decide +kernel
theorem dX12_isBound_179 : decode cX12_isBound 179 = .ok (.invokestatic 552, 3) := by decide +kernel
theorem dX12_isBound_182 : decode cX12_isBound 182 = .ok (.ifCond .gt 7, 3) := by decide +kernel
theorem dX12_isBound_185 : decode cX12_isBound 185 = .ok (.iconst 1, 1) := by decide +kernel
theorem dX12_isBound_186 : decode cX12_isBound 186 = .ok (.goto 4, 3) := by decide +kernel
theorem dX12_isBound_189 : decode cX12_isBound 189 = .ok (.iconst 0, 1) := by decide +kernel
theorem dX12_isBound_190 : decode cX12_isBound 190 = .ok (.ireturn, 1) := by decide +kernel
theorem dX12_isBound_191 : decode cX12_isBound 191 = .ok (.aload_n 0, 1) := by decide +kernel
theorem dX12_isBound_192 : decode cX12_isBound 192 = .ok (.getfield 172, 3) := by decide +kernel
theorem dX12_isBound_195 : decode cX12_isBound 195 = .ok (.iconst 0, 1) := by decide +kernel
theorem dX12_isBound_196 : decode cX12_isBound 196 = .ok (.aload_n 0, 1) := by decide +kernel
theorem dX12_isBound_197 : decode cX12_isBound 197 = .ok (.getfield 181, 3) := by decide +kernel
theorem dX12_isBound_200 : decode cX12_isBound 200 = .ok (.iconst 0, 1) := by decide +kernel
theorem dX12_isBound_201 : decode cX12_isBound 201 = .ok (.aload_n 0, 1) := by decide +kernel
theorem dX12_isBound_202 : decode cX12_isBound 202 = .ok (.getfield 26, 3) := by decide +kernel
theorem dX12_isBound_205 : decode cX12_isBound 205 = .ok (.iconst 0, 1) := by decide +kernel
theorem dX12_isBound_206 : decode cX12_isBound 206 = .ok (.invokestatic 548, 3) := by decide +kernel
theorem dX12_isBound_209 : decode cX12_isBound 209 = .ok (.aload_n 0, 1) := by decide +kernel
theorem dX12_isBound_210 : decode cX12_isBound 210 = .ok (.getfield 178, 3) := by decide +kernel
theorem dX12_isBound_213 : decode cX12_isBound 213 = .ok (.iconst 0, 1) := by decide +kernel
theorem dX12_isBound_214 : decode cX12_isBound 214 = .ok (.aload_n 0, 1) := by decide +kernel
theorem dX12_isBound_215 : decode cX12_isBound 215 = .ok (.getfield 184, 3) := by decide +kernel
theorem dX12_isBound_218 : decode cX12_isBound 218 = .ok (.iconst 0, 1) := by decide +kernel
theorem dX12_isBound_219 : decode cX12_isBound 219 = .ok (.aload_n 0, 1) := by decide +kernel
theorem dX12_isBound_220 : decode cX12_isBound 220 = .ok (.getfield 29, 3) := by decide +kernel
theorem dX12_isBound_223 : decode cX12_isBound 223 = .ok (.iconst 0, 1) := by decide +kernel
theorem dX12_isBound_224 : decode cX12_isBound 224 = .ok (.invokestatic 548, 3) := by decide +kernel
theorem dX12_isBound_227 : decode cX12_isBound 227 = .ok (.aload_n 0, 1) := by decide +kernel
theorem dX12_isBound_228 : decode cX12_isBound 228 = .ok (.getfield 26, 3) := by decide +kernel
theorem dX12_isBound_231 : decode cX12_isBound 231 = .ok (.iconst 0, 1) := by decide +kernel
theorem dX12_isBound_232 : decode cX12_isBound 232 = .ok (.aload_n 0, 1) := by decide +kernel
theorem dX12_isBound_233 : decode cX12_isBound 233 = .ok (.getfield 29, 3) := by decide +kernel
theorem dX12_isBound_236 : decode cX12_isBound 236 = .ok (.iconst 0, 1) := by decide +kernel
theorem dX12_isBound_237 : decode cX12_isBound 237 = .ok (.invokestatic 552, 3) := by decide +kernel
theorem dX12_isBound_240 : decode cX12_isBound 240 = .ok (.ifCond .gt 7, 3) := by decide +kernel
theorem dX12_isBound_243 : decode cX12_isBound 243 = .ok (.iconst 1, 1) := by decide +kernel
theorem dX12_isBound_244 : decode cX12_isBound 244 = .ok (.goto 4, 3) := by decide +kernel
theorem dX12_isBound_247 : decode cX12_isBound 247 = .ok (.iconst 0, 1) := by decide +kernel
theorem dX12_isBound_248 : decode cX12_isBound 248 = .ok (.ireturn, 1) := by decide +kernel
theorem dX12_isFarkas_0 : decode cX12_isFarkas 0 = .ok (.iconst 1, 1) := by decide +kernel
theorem dX12_isFarkas_1 : decode cX12_isFarkas 1 = .ok (.istore_n 1, 1) := by decide +kernel
theorem dX12_isFarkas_2 : decode cX12_isFarkas 2 = .ok (.iload_n 1, 1) := by decide +kernel
theorem dX12_isFarkas_3 : decode cX12_isFarkas 3 = .ok (.aload_n 0, 1) := by decide +kernel
theorem dX12_isFarkas_4 : decode cX12_isFarkas 4 = .ok (.getfield 465, 3) := by decide +kernel
theorem dX12_isFarkas_7 : decode cX12_isFarkas 7 = .ok (.if_icmp .gt 23, 3) := by decide +kernel
theorem dX12_isFarkas_10 : decode cX12_isFarkas 10 = .ok (.aload_n 0, 1) := by decide +kernel
theorem dX12_isFarkas_11 : decode cX12_isFarkas 11 = .ok (.getfield 172, 3) := by decide +kernel
theorem dX12_isFarkas_14 : decode cX12_isFarkas 14 = .ok (.bipush 40, 2) := by decide +kernel
theorem dX12_isFarkas_16 : decode cX12_isFarkas 16 = .ok (.iload_n 1, 1) := by decide +kernel
theorem dX12_isFarkas_17 : decode cX12_isFarkas 17 = .ok (.imul, 1) := by decide +kernel
theorem dX12_isFarkas_18 : decode cX12_isFarkas 18 = .ok (.iaload, 1) := by decide +kernel
theorem dX12_isFarkas_19 : decode cX12_isFarkas 19 = .ok (.ifCond .ge 5, 3) := by decide +kernel
theorem dX12_isFarkas_22 : decode cX12_isFarkas 22 = .ok (.iconst 0, 1) := by decide +kernel
theorem dX12_isFarkas_23 : decode cX12_isFarkas 23 = .ok (.ireturn, 1) := by decide +kernel
theorem dX12_isFarkas_24 : decode cX12_isFarkas 24 = .ok (.iinc 1 1, 3) := by decide +kernel
theorem dX12_isFarkas_27 : decode cX12_isFarkas 27 = .ok (.goto (-25), 3) := by decide +kernel
theorem dX12_isFarkas_30 : decode cX12_isFarkas 30 = .ok (.aload_n 0, 1) := by decide +kernel
theorem dX12_isFarkas_31 : decode cX12_isFarkas 31 = .ok (.getfield 172, 3) := by decide +kernel
theorem dX12_isFarkas_34 : decode cX12_isFarkas 34 = .ok (.iconst 0, 1) := by decide +kernel
theorem dX12_isFarkas_35 : decode cX12_isFarkas 35 = .ok (.iaload, 1) := by decide +kernel
theorem dX12_isFarkas_36 : decode cX12_isFarkas 36 = .ok (.ifCond .ge 7, 3) := by decide +kernel
theorem dX12_isFarkas_39 : decode cX12_isFarkas 39 = .ok (.iconst 1, 1) := by decide +kernel
theorem dX12_isFarkas_40 : decode cX12_isFarkas 40 = .ok (.goto 4, 3) := by decide +kernel
theorem dX12_isFarkas_43 : decode cX12_isFarkas 43 = .ok (.iconst 0, 1) := by decide +kernel
theorem dX12_isFarkas_44 : decode cX12_isFarkas 44 = .ok (.ireturn, 1) := by decide +kernel
theorem dX12_isLong_0 : decode cX12_isLong 0 = .ok (.aload_n 1, 1) := by decide +kernel
theorem dX12_isLong_1 : decode cX12_isLong 1 = .ok (.iload_n 2, 1) := by decide +kernel
theorem dX12_isLong_2 : decode cX12_isLong 2 = .ok (.invokestatic 221, 3) := by decide +kernel
theorem dX12_isLong_5 : decode cX12_isLong 5 = .ok (.istore_n 3, 1) := by decide +kernel
theorem dX12_isLong_6 : decode cX12_isLong 6 = .ok (.iload_n 3, 1) := by decide +kernel
theorem dX12_isLong_7 : decode cX12_isLong 7 = .ok (.bipush 7, 2) := by decide +kernel
theorem dX12_isLong_9 : decode cX12_isLong 9 = .ok (.if_icmp .gt 21, 3) := by decide +kernel
theorem dX12_isLong_12 : decode cX12_isLong 12 = .ok (.iload_n 3, 1) := by decide +kernel
theorem dX12_isLong_13 : decode cX12_isLong 13 = .ok (.bipush 7, 2) := by decide +kernel
theorem dX12_isLong_15 : decode cX12_isLong 15 = .ok (.if_icmp .ne 19, 3) := by decide +kernel
theorem dX12_isLong_18 : decode cX12_isLong 18 = .ok (.aload_n 1, 1) := by decide +kernel
theorem dX12_isLong_19 : decode cX12_isLong 19 = .ok (.iload_n 2, 1) := by decide +kernel
theorem dX12_isLong_20 : decode cX12_isLong 20 = .ok (.bipush 7, 2) := by decide +kernel
theorem dX12_isLong_22 : decode cX12_isLong 22 = .ok (.iadd, 1) := by decide +kernel
theorem dX12_isLong_23 : decode cX12_isLong 23 = .ok (.iaload, 1) := by decide +kernel
theorem dX12_isLong_24 : decode cX12_isLong 24 = .ok (.ldc_w 760, 3) := by decide +kernel
theorem dX12_isLong_27 : decode cX12_isLong 27 = .ok (.if_icmp .lt 7, 3) := by decide +kernel
theorem dX12_isLong_30 : decode cX12_isLong 30 = .ok (.iconst 1, 1) := by decide +kernel
theorem dX12_isLong_31 : decode cX12_isLong 31 = .ok (.goto 4, 3) := by decide +kernel
theorem dX12_isLong_34 : decode cX12_isLong 34 = .ok (.iconst 0, 1) := by decide +kernel
theorem dX12_isLong_35 : decode cX12_isLong 35 = .ok (.ireturn, 1) := by decide +kernel
theorem dX12_pairs_0 : decode cX12_pairs 0 = .ok (.iconst 0, 1) := by decide +kernel
theorem dX12_pairs_1 : decode cX12_pairs 1 = .ok (.istore_n 1, 1) := by decide +kernel
theorem dX12_pairs_2 : decode cX12_pairs 2 = .ok (.iload_n 1, 1) := by decide +kernel
theorem dX12_pairs_3 : decode cX12_pairs 3 = .ok (.aload_n 0, 1) := by decide +kernel
theorem dX12_pairs_4 : decode cX12_pairs 4 = .ok (.getfield 465, 3) := by decide +kernel
theorem dX12_pairs_7 : decode cX12_pairs 7 = .ok (.if_icmp .gt 19, 3) := by decide +kernel
theorem dX12_pairs_10 : decode cX12_pairs 10 = .ok (.aload_n 0, 1) := by decide +kernel
theorem dX12_pairs_11 : decode cX12_pairs 11 = .ok (.getfield 172, 3) := by decide +kernel
theorem dX12_pairs_14 : decode cX12_pairs 14 = .ok (.bipush 40, 2) := by decide +kernel
theorem dX12_pairs_16 : decode cX12_pairs 16 = .ok (.iload_n 1, 1) := by decide +kernel
theorem dX12_pairs_17 : decode cX12_pairs 17 = .ok (.imul, 1) := by decide +kernel
theorem dX12_pairs_18 : decode cX12_pairs 18 = .ok (.iconst 0, 1) := by decide +kernel
theorem dX12_pairs_19 : decode cX12_pairs 19 = .ok (.iastore, 1) := by decide +kernel
theorem dX12_pairs_20 : decode cX12_pairs 20 = .ok (.iinc 1 1, 3) := by decide +kernel
theorem dX12_pairs_23 : decode cX12_pairs 23 = .ok (.goto (-21), 3) := by decide +kernel
theorem dX12_pairs_26 : decode cX12_pairs 26 = .ok (.iconst 1, 1) := by decide +kernel
theorem dX12_pairs_27 : decode cX12_pairs 27 = .ok (.istore_n 1, 1) := by decide +kernel
theorem dX12_pairs_28 : decode cX12_pairs 28 = .ok (.iconst 0, 1) := by decide +kernel
theorem dX12_pairs_29 : decode cX12_pairs 29 = .ok (.istore_n 2, 1) := by decide +kernel
theorem dX12_pairs_30 : decode cX12_pairs 30 = .ok (.aload_n 0, 1) := by decide +kernel
theorem dX12_pairs_31 : decode cX12_pairs 31 = .ok (.getfield 47, 3) := by decide +kernel
theorem dX12_pairs_34 : decode cX12_pairs 34 = .ok (.aload_n 0, 1) := by decide +kernel
theorem dX12_pairs_35 : decode cX12_pairs 35 = .ok (.getfield 315, 3) := by decide +kernel
theorem dX12_pairs_38 : decode cX12_pairs 38 = .ok (.iaload, 1) := by decide +kernel
theorem dX12_pairs_39 : decode cX12_pairs 39 = .ok (.iconst 2, 1) := by decide +kernel
theorem dX12_pairs_40 : decode cX12_pairs 40 = .ok (.if_icmp .ne 190, 3) := by decide +kernel
theorem dX12_pairs_43 : decode cX12_pairs 43 = .ok (.aload_n 0, 1) := by decide +kernel
theorem dX12_pairs_44 : decode cX12_pairs 44 = .ok (.aload_n 0, 1) := by decide +kernel
theorem dX12_pairs_45 : decode cX12_pairs 45 = .ok (.getfield 315, 3) := by decide +kernel
theorem dX12_pairs_48 : decode cX12_pairs 48 = .ok (.aload_n 0, 1) := by decide +kernel
theorem dX12_pairs_49 : decode cX12_pairs 49 = .ok (.getfield 187, 3) := by decide +kernel
theorem dX12_pairs_52 : decode cX12_pairs 52 = .ok (.iconst 0, 1) := by decide +kernel
theorem dX12_pairs_53 : decode cX12_pairs 53 = .ok (.invokevirtual 703, 3) := by decide +kernel
theorem dX12_pairs_56 : decode cX12_pairs 56 = .ok (.aload_n 0, 1) := by decide +kernel
theorem dX12_pairs_57 : decode cX12_pairs 57 = .ok (.getfield 187, 3) := by decide +kernel
theorem dX12_pairs_60 : decode cX12_pairs 60 = .ok (.iconst 0, 1) := by decide +kernel
theorem dX12_pairs_61 : decode cX12_pairs 61 = .ok (.iaload, 1) := by decide +kernel
theorem dX12_pairs_62 : decode cX12_pairs 62 = .ok (.iconst 1, 1) := by decide +kernel
theorem dX12_pairs_63 : decode cX12_pairs 63 = .ok (.if_icmp .ne 25, 3) := by decide +kernel
theorem dX12_pairs_66 : decode cX12_pairs 66 = .ok (.aload_n 0, 1) := by decide +kernel
theorem dX12_pairs_67 : decode cX12_pairs 67 = .ok (.getfield 187, 3) := by decide +kernel
theorem dX12_pairs_70 : decode cX12_pairs 70 = .ok (.iconst 1, 1) := by decide +kernel
theorem dX12_pairs_71 : decode cX12_pairs 71 = .ok (.iaload, 1) := by decide +kernel
theorem dX12_pairs_72 : decode cX12_pairs 72 = .ok (.aload_n 0, 1) := by decide +kernel
theorem dX12_pairs_73 : decode cX12_pairs 73 = .ok (.getfield 738, 3) := by decide +kernel
theorem dX12_pairs_76 : decode cX12_pairs 76 = .ok (.if_icmp .gt 12, 3) := by decide +kernel
theorem dX12_pairs_79 : decode cX12_pairs 79 = .ok (.aload_n 0, 1) := by decide +kernel
theorem dX12_pairs_80 : decode cX12_pairs 80 = .ok (.getfield 187, 3) := by decide +kernel
theorem dX12_pairs_83 : decode cX12_pairs 83 = .ok (.iconst 1, 1) := by decide +kernel
theorem dX12_pairs_84 : decode cX12_pairs 84 = .ok (.iaload, 1) := by decide +kernel
theorem dX12_pairs_85 : decode cX12_pairs 85 = .ok (.goto 4, 3) := by decide +kernel
theorem dX12_pairs_88 : decode cX12_pairs 88 = .ok (.iconst 0, 1) := by decide +kernel
theorem dX12_pairs_89 : decode cX12_pairs 89 = .ok (.istore_n 3, 1) := by decide +kernel
theorem dX12_pairs_90 : decode cX12_pairs 90 = .ok (.iload_n 1, 1) := by decide +kernel
theorem dX12_pairs_91 : decode cX12_pairs 91 = .ok (.ifCond .eq 12, 3) := by decide +kernel
theorem dX12_pairs_94 : decode cX12_pairs 94 = .ok (.iload_n 3, 1) := by decide +kernel
theorem dX12_pairs_95 : decode cX12_pairs 95 = .ok (.iload_n 2, 1) := by decide +kernel
theorem dX12_pairs_96 : decode cX12_pairs 96 = .ok (.if_icmp .le 7, 3) := by decide +kernel
theorem dX12_pairs_99 : decode cX12_pairs 99 = .ok (.iconst 1, 1) := by decide +kernel
theorem dX12_pairs_100 : decode cX12_pairs 100 = .ok (.goto 4, 3) := by decide +kernel
theorem dX12_pairs_103 : decode cX12_pairs 103 = .ok (.iconst 0, 1) := by decide +kernel
theorem dX12_pairs_104 : decode cX12_pairs 104 = .ok (.istore_n 1, 1) := by decide +kernel
theorem dX12_pairs_105 : decode cX12_pairs 105 = .ok (.iload_n 3, 1) := by decide +kernel
theorem dX12_pairs_106 : decode cX12_pairs 106 = .ok (.istore_n 2, 1) := by decide +kernel
theorem dX12_pairs_107 : decode cX12_pairs 107 = .ok (.aload_n 0, 1) := by decide +kernel
theorem dX12_pairs_108 : decode cX12_pairs 108 = .ok (.aload_n 0, 1) := by decide +kernel
theorem dX12_pairs_109 : decode cX12_pairs 109 = .ok (.getfield 315, 3) := by decide +kernel
theorem dX12_pairs_112 : decode cX12_pairs 112 = .ok (.iconst 2, 1) := by decide +kernel
theorem dX12_pairs_113 : decode cX12_pairs 113 = .ok (.iadd, 1) := by decide +kernel
theorem dX12_pairs_114 : decode cX12_pairs 114 = .ok (.aload_n 0, 1) := by decide +kernel
theorem dX12_pairs_115 : decode cX12_pairs 115 = .ok (.getfield 187, 3) := by decide +kernel
theorem dX12_pairs_118 : decode cX12_pairs 118 = .ok (.iconst 0, 1) := by decide +kernel
theorem dX12_pairs_119 : decode cX12_pairs 119 = .ok (.invokevirtual 703, 3) := by decide +kernel
theorem dX12_pairs_122 : decode cX12_pairs 122 = .ok (.iload_n 1, 1) := by decide +kernel
theorem dX12_pairs_123 : decode cX12_pairs 123 = .ok (.ifCond .eq 16, 3) := by decide +kernel
theorem dX12_pairs_126 : decode cX12_pairs 126 = .ok (.aload_n 0, 1) := by decide +kernel
theorem dX12_pairs_127 : decode cX12_pairs 127 = .ok (.getfield 187, 3) := by decide +kernel
theorem dX12_pairs_130 : decode cX12_pairs 130 = .ok (.iconst 0, 1) := by decide +kernel
theorem dX12_pairs_131 : decode cX12_pairs 131 = .ok (.iaload, 1) := by decide +kernel
theorem dX12_pairs_132 : decode cX12_pairs 132 = .ok (.ifCond .lt 7, 3) := by decide +kernel
theorem dX12_pairs_135 : decode cX12_pairs 135 = .ok (.iconst 1, 1) := by decide +kernel
theorem dX12_pairs_136 : decode cX12_pairs 136 = .ok (.goto 4, 3) := by decide +kernel
theorem dX12_pairs_139 : decode cX12_pairs 139 = .ok (.iconst 0, 1) := by decide +kernel
theorem dX12_pairs_140 : decode cX12_pairs 140 = .ok (.istore_n 1, 1) := by decide +kernel
theorem dX12_pairs_141 : decode cX12_pairs 141 = .ok (.aload_n 0, 1) := by decide +kernel
theorem dX12_pairs_142 : decode cX12_pairs 142 = .ok (.dup, 1) := by decide +kernel
theorem dX12_pairs_143 : decode cX12_pairs 143 = .ok (.getfield 315, 3) := by decide +kernel
theorem dX12_pairs_146 : decode cX12_pairs 146 = .ok (.iconst 3, 1) := by decide +kernel
theorem dX12_pairs_147 : decode cX12_pairs 147 = .ok (.iadd, 1) := by decide +kernel
theorem dX12_pairs_148 : decode cX12_pairs 148 = .ok (.putfield 315, 3) := by decide +kernel
theorem dX12_pairs_151 : decode cX12_pairs 151 = .ok (.iload_n 1, 1) := by decide +kernel
theorem dX12_pairs_152 : decode cX12_pairs 152 = .ok (.ifCond .ne 6, 3) := by decide +kernel
theorem dX12_pairs_155 : decode cX12_pairs 155 = .ok (.goto (-125), 3) := by decide +kernel
theorem dX12_pairs_158 : decode cX12_pairs 158 = .ok (.iconst 0, 1) := by decide +kernel
theorem dX12_pairs_159 : decode cX12_pairs 159 = .ok (.istore 4, 2) := by decide +kernel
theorem dX12_pairs_161 : decode cX12_pairs 161 = .ok (.iload 4, 2) := by decide +kernel
theorem dX12_pairs_163 : decode cX12_pairs 163 = .ok (.aload_n 0, 1) := by decide +kernel
theorem dX12_pairs_164 : decode cX12_pairs 164 = .ok (.getfield 465, 3) := by decide +kernel
theorem dX12_pairs_167 : decode cX12_pairs 167 = .ok (.if_icmp .gt 60, 3) := by decide +kernel
theorem dX12_pairs_170 : decode cX12_pairs 170 = .ok (.aload_n 0, 1) := by decide +kernel
theorem dX12_pairs_171 : decode cX12_pairs 171 = .ok (.getfield 169, 3) := by decide +kernel
theorem dX12_pairs_174 : decode cX12_pairs 174 = .ok (.aload_n 0, 1) := by decide +kernel
theorem dX12_pairs_175 : decode cX12_pairs 175 = .ok (.iload_n 3, 1) := by decide +kernel
theorem dX12_pairs_176 : decode cX12_pairs 176 = .ok (.iload 4, 2) := by decide +kernel
theorem dX12_pairs_178 : decode cX12_pairs 178 = .ok (.invokevirtual 735, 3) := by decide +kernel
theorem dX12_pairs_181 : decode cX12_pairs 181 = .ok (.aload_n 0, 1) := by decide +kernel
theorem dX12_pairs_182 : decode cX12_pairs 182 = .ok (.getfield 187, 3) := by decide +kernel
theorem dX12_pairs_185 : decode cX12_pairs 185 = .ok (.iconst 0, 1) := by decide +kernel
theorem dX12_pairs_186 : decode cX12_pairs 186 = .ok (.aload_n 0, 1) := by decide +kernel
theorem dX12_pairs_187 : decode cX12_pairs 187 = .ok (.getfield 26, 3) := by decide +kernel
theorem dX12_pairs_190 : decode cX12_pairs 190 = .ok (.iconst 0, 1) := by decide +kernel
theorem dX12_pairs_191 : decode cX12_pairs 191 = .ok (.invokestatic 548, 3) := by decide +kernel
theorem dX12_pairs_194 : decode cX12_pairs 194 = .ok (.aload_n 0, 1) := by decide +kernel
theorem dX12_pairs_195 : decode cX12_pairs 195 = .ok (.getfield 172, 3) := by decide +kernel
theorem dX12_pairs_198 : decode cX12_pairs 198 = .ok (.bipush 40, 2) := by decide +kernel
theorem dX12_pairs_200 : decode cX12_pairs 200 = .ok (.iload 4, 2) := by decide +kernel
theorem dX12_pairs_202 : decode cX12_pairs 202 = .ok (.imul, 1) := by decide +kernel
theorem dX12_pairs_203 : decode cX12_pairs 203 = .ok (.aload_n 0, 1) := by decide +kernel
theorem dX12_pairs_204 : decode cX12_pairs 204 = .ok (.getfield 26, 3) := by decide +kernel
theorem dX12_pairs_207 : decode cX12_pairs 207 = .ok (.iconst 0, 1) := by decide +kernel
theorem dX12_pairs_208 : decode cX12_pairs 208 = .ok (.iconst 0, 1) := by decide +kernel
theorem dX12_pairs_209 : decode cX12_pairs 209 = .ok (.aload_n 0, 1) := by decide +kernel
theorem dX12_pairs_210 : decode cX12_pairs 210 = .ok (.getfield 172, 3) := by decide +kernel
theorem dX12_pairs_213 : decode cX12_pairs 213 = .ok (.bipush 40, 2) := by decide +kernel
theorem dX12_pairs_215 : decode cX12_pairs 215 = .ok (.iload 4, 2) := by decide +kernel
theorem dX12_pairs_217 : decode cX12_pairs 217 = .ok (.imul, 1) := by decide +kernel
theorem dX12_pairs_218 : decode cX12_pairs 218 = .ok (.invokestatic 249, 3) := by decide +kernel
theorem dX12_pairs_221 : decode cX12_pairs 221 = .ok (.iinc 4 1, 3) := by decide +kernel
theorem dX12_pairs_224 : decode cX12_pairs 224 = .ok (.goto (-63), 3) := by decide +kernel
theorem dX12_pairs_227 : decode cX12_pairs 227 = .ok (.goto (-197), 3) := by decide +kernel
theorem dX12_pairs_230 : decode cX12_pairs 230 = .ok (.aload_n 0, 1) := by decide +kernel
theorem dX12_pairs_231 : decode cX12_pairs 231 = .ok (.dup, 1) := by decide +kernel
theorem dX12_pairs_232 : decode cX12_pairs 232 = .ok (.getfield 315, 3) := by decide +kernel
theorem dX12_pairs_235 : decode cX12_pairs 235 = .ok (.iconst 1, 1) := by decide +kernel
theorem dX12_pairs_236 : decode cX12_pairs 236 = .ok (.iadd, 1) := by decide +kernel
theorem dX12_pairs_237 : decode cX12_pairs 237 = .ok (.putfield 315, 3) := by decide +kernel
theorem dX12_pairs_240 : decode cX12_pairs 240 = .ok (.iload_n 1, 1) := by decide +kernel
theorem dX12_pairs_241 : decode cX12_pairs 241 = .ok (.ireturn, 1) := by decide +kernel
theorem dX12_variableAt_0 : decode cX12_variableAt 0 = .ok (.aload_n 0, 1) := by decide +kernel
theorem dX12_variableAt_1 : decode cX12_variableAt 1 = .ok (.iload_n 1, 1) := by decide +kernel
theorem dX12_variableAt_2 : decode cX12_variableAt 2 = .ok (.aload_n 0, 1) := by decide +kernel
theorem dX12_variableAt_3 : decode cX12_variableAt 3 = .ok (.getfield 187, 3) := by decide +kernel
theorem dX12_variableAt_6 : decode cX12_variableAt 6 = .ok (.iconst 0, 1) := by decide +kernel
theorem dX12_variableAt_7 : decode cX12_variableAt 7 = .ok (.invokevirtual 703, 3) := by decide +kernel
theorem dX12_variableAt_10 : decode cX12_variableAt 10 = .ok (.aload_n 0, 1) := by decide +kernel
theorem dX12_variableAt_11 : decode cX12_variableAt 11 = .ok (.getfield 187, 3) := by decide +kernel
theorem dX12_variableAt_14 : decode cX12_variableAt 14 = .ok (.iconst 0, 1) := by decide +kernel
theorem dX12_variableAt_15 : decode cX12_variableAt 15 = .ok (.iaload, 1) := by decide +kernel
theorem dX12_variableAt_16 : decode cX12_variableAt 16 = .ok (.iconst 1, 1) := by decide +kernel
theorem dX12_variableAt_17 : decode cX12_variableAt 17 = .ok (.if_icmp .ne 25, 3) := by decide +kernel
theorem dX12_variableAt_20 : decode cX12_variableAt 20 = .ok (.aload_n 0, 1) := by decide +kernel
theorem dX12_variableAt_21 : decode cX12_variableAt 21 = .ok (.getfield 187, 3) := by decide +kernel
theorem dX12_variableAt_24 : decode cX12_variableAt 24 = .ok (.iconst 1, 1) := by decide +kernel
theorem dX12_variableAt_25 : decode cX12_variableAt 25 = .ok (.iaload, 1) := by decide +kernel
theorem dX12_variableAt_26 : decode cX12_variableAt 26 = .ok (.aload_n 0, 1) := by decide +kernel
theorem dX12_variableAt_27 : decode cX12_variableAt 27 = .ok (.getfield 465, 3) := by decide +kernel
theorem dX12_variableAt_30 : decode cX12_variableAt 30 = .ok (.if_icmp .gt 12, 3) := by decide +kernel
theorem dX12_variableAt_33 : decode cX12_variableAt 33 = .ok (.aload_n 0, 1) := by decide +kernel
theorem dX12_variableAt_34 : decode cX12_variableAt 34 = .ok (.getfield 187, 3) := by decide +kernel
theorem dX12_variableAt_37 : decode cX12_variableAt 37 = .ok (.iconst 1, 1) := by decide +kernel
theorem dX12_variableAt_38 : decode cX12_variableAt 38 = .ok (.iaload, 1) := by decide +kernel
theorem dX12_variableAt_39 : decode cX12_variableAt 39 = .ok (.goto 4, 3) := by decide +kernel
theorem dX12_variableAt_42 : decode cX12_variableAt 42 = .ok (.iconst 0, 1) := by decide +kernel
theorem dX12_variableAt_43 : decode cX12_variableAt 43 = .ok (.ireturn, 1) := by decide +kernel
theorem w_195 : Cond.selects RX12 yX12_heldCell yX12_heldCell ∈ tb := sel_13 (q := (yX12_heldCell, 105)) 3 (by decide +kernel)
theorem w_200 : Cond.selects RX12 yX12_isLong yX12_isLong ∈ tb := sel_13 (q := (yX12_isLong, 105)) 8 (by decide +kernel)
theorem w_2054 : Cond.fieldLink RX12 169 (TX12 93).1 (TX12 93).2.1 (TX12 93).2.2.1 ∈ tb := tbc_8 171 (by decide +kernel) rfl
theorem w_2059 : Cond.fieldLink RX12 184 (TX12 98).1 (TX12 98).2.1 (TX12 98).2.2.1 ∈ tb := tbc_8 176 (by decide +kernel) rfl
theorem w_2060 : Cond.fieldLink RX12 187 (TX12 99).1 (TX12 99).2.1 (TX12 99).2.2.1 ∈ tb := tbc_8 177 (by decide +kernel) rfl
theorem w_2061 : Cond.fieldLink RX12 738 (TX12 100).1 (TX12 100).2.1 (TX12 100).2.2.1 ∈ tb := tbc_8 178 (by decide +kernel) rfl
theorem w_2770 : Cond.methodLink RX12 735 yX12_heldCell ∈ tb := tbc_11 167 (by decide +kernel) rfl
theorem w_2772 : Cond.instanceMethod yX12_heldCell ∈ tb := tbc_11 169 (by decide +kernel) rfl
theorem w_2773 : Cond.code yX12_heldCell cX12_heldCell 3 (some .int) ∈ tb := tbc_11 170 (by decide +kernel) rfl
theorem w_2790 : Cond.methodLink RX12 761 yX12_isLong ∈ tb := tbc_11 187 (by decide +kernel) rfl
theorem w_2792 : Cond.instanceMethod yX12_isLong ∈ tb := tbc_11 189 (by decide +kernel) rfl
theorem w_2793 : Cond.code yX12_isLong cX12_isLong 4 (some .boolean) ∈ tb := tbc_11 190 (by decide +kernel) rfl
theorem w_2794 : Cond.constant RX12 760 (iv 1000000) ∈ tb := tbc_11 191 (by decide +kernel) rfl
section RW84
variable {p : Program} {l : Launch} {e : Env} {R : Room} {s : State} {m : MethodId} {args : Array Value} {below : List Frame} {meth : Method} {c : Code} {H : Heap} {locs : List Loc} {cells slots : Nat} {Q : State → Prop}
variable {cc : ByteArray} {pc nL : Nat} {ls : Array Slot} {rest st0 : List Value} {G : sG} {n : Nat} {S : sS}
theorem g_X12_187 (Cx : sC G p m c cc nL s args RX12) (hW : sW G n S H) {k : Nat} (hk : k < n) (ht : tau k = .inl 12) {v : Value} (hv : S.2.2.2 k 99 = v) (hdg : decode cc pc = .ok (.getfield 187, 3)) (kk : W p l e R s m args below meth c H locs cells slots Q (F0 m (pc + 3) ls (v :: rest))) : W p l e R s m args below meth c H locs cells slots Q (F0 m pc ls (.ref (G.2.2.1 + k) :: rest)) :=
  sGet Cx inX12 rfl 99 (by decide) w_2060 hW hk ht hv hdg kk
theorem g_X12_738 (Cx : sC G p m c cc nL s args RX12) (hW : sW G n S H) {k : Nat} (hk : k < n) (ht : tau k = .inl 12) {v : Int} (hv : S.1 k 100 = v) (hdg : decode cc pc = .ok (.getfield 738, 3)) (kk : W p l e R s m args below meth c H locs cells slots Q (F0 m (pc + 3) ls (.int (iv v) :: rest))) : W p l e R s m args below meth c H locs cells slots Q (F0 m pc ls (.ref (G.2.2.1 + k) :: rest)) :=
  sGet Cx inX12 rfl 100 (by decide) w_2061 hW hk ht (congrArg (fun z => Value.int (iv z)) hv) hdg kk
theorem p_X12_738 (Cx : sC G p m c cc nL s args RX12) (hW : sW G n S H) (hL : sL G locs) {k : Nat} (hk : k < n) (ht : tau k = .inl 12) {v : Int} (hdg : decode cc pc = .ok (.putfield 738, 3)) (kk : ∀ (H1 : Heap) (locs1 : List Loc), sW G n (uF S k 100 v) H1 → sL G locs1 → W p l e R s m args below meth c H1 locs1 cells slots Q (F0 m (pc + 3) ls rest)) : W p l e R s m args below meth c H locs cells slots Q (F0 m pc ls (.int (iv v) :: .ref (G.2.2.1 + k) :: rest)) :=
  sPut Cx inX12 tyX12 tyX12_ok nmX12 rfl 100 (by decide) w_2061 rfl hW hL hk ht rfl rfl (fun _ h => uF_same h) (fun _ h => uF_off h) (congrArg (fun z => Value.int (iv z)) uF_on) hdg kk
theorem g_X12_169 (Cx : sC G p m c cc nL s args RX12) (hW : sW G n S H) {k : Nat} (hk : k < n) (ht : tau k = .inl 12) {v : Value} (hv : S.2.2.2 k 93 = v) (hdg : decode cc pc = .ok (.getfield 169, 3)) (kk : W p l e R s m args below meth c H locs cells slots Q (F0 m (pc + 3) ls (v :: rest))) : W p l e R s m args below meth c H locs cells slots Q (F0 m pc ls (.ref (G.2.2.1 + k) :: rest)) :=
  sGet Cx inX12 rfl 93 (by decide) w_2054 hW hk ht hv hdg kk
theorem c_X12_735 (Cx : sC G p m c cc nL s args RX12) {rm : Room} {mc ms : Nat} (h1 : rm.cells = mc) (h2 : rm.slots = ms) (h3 : rm.frames + 1 ≤ R.frames ∧ 8 + (3 + 11) + rm.locals ≤ R.locals) : CallW R s args RX12 RX12 735 yX12_heldCell cX12_heldCell 3 (some .int) (.code yX12_heldCell cX12_heldCell 3 (some .int) :: tb) rm mc ms 2 :=
  sCw Cx 2 w_2770 w_2772 w_195 w_217 w_2773 (by decide +kernel) h1 h2 h3
theorem g_X12_184 (Cx : sC G p m c cc nL s args RX12) (hW : sW G n S H) {k : Nat} (hk : k < n) (ht : tau k = .inl 12) {v : Value} (hv : S.2.2.2 k 98 = v) (hdg : decode cc pc = .ok (.getfield 184, 3)) (kk : W p l e R s m args below meth c H locs cells slots Q (F0 m (pc + 3) ls (v :: rest))) : W p l e R s m args below meth c H locs cells slots Q (F0 m pc ls (.ref (G.2.2.1 + k) :: rest)) :=
  sGet Cx inX12 rfl 98 (by decide) w_2059 hW hk ht hv hdg kk
theorem c_X12_761 (Cx : sC G p m c cc nL s args RX12) {rm : Room} {mc ms : Nat} (h1 : rm.cells = mc) (h2 : rm.slots = ms) (h3 : rm.frames + 1 ≤ R.frames ∧ 8 + (4 + 11) + rm.locals ≤ R.locals) : CallW R s args RX12 RX12 761 yX12_isLong cX12_isLong 4 (some .boolean) (.code yX12_isLong cX12_isLong 4 (some .boolean) :: tb) rm mc ms 2 :=
  sCw Cx 2 w_2790 w_2792 w_200 w_217 w_2793 (by decide +kernel) h1 h2 h3
end RW84
