theorem dX12_pointRead_0 : decode cX12_pointRead 0 = .ok (.iconst 0, 1) := by decide +kernel
theorem dX12_pointRead_1 : decode cX12_pointRead 1 = .ok (.istore_n 1, 1) := by decide +kernel
theorem dX12_pointRead_2 : decode cX12_pointRead 2 = .ok (.iload_n 1, 1) := by decide +kernel
theorem dX12_pointRead_3 : decode cX12_pointRead 3 = .ok (.aload_n 0, 1) := by decide +kernel
theorem dX12_pointRead_4 : decode cX12_pointRead 4 = .ok (.getfield 465, 3) := by decide +kernel
theorem dX12_pointRead_7 : decode cX12_pointRead 7 = .ok (.if_icmp .ge 21, 3) := by decide +kernel
theorem dX12_pointRead_10 : decode cX12_pointRead 10 = .ok (.aload_n 0, 1) := by decide +kernel
theorem dX12_pointRead_11 : decode cX12_pointRead 11 = .ok (.getfield 270, 3) := by decide +kernel
theorem dX12_pointRead_14 : decode cX12_pointRead 14 = .ok (.ifCond .ne 14, 3) := by decide +kernel
theorem dX12_pointRead_17 : decode cX12_pointRead 17 = .ok (.aload_n 0, 1) := by decide +kernel
theorem dX12_pointRead_18 : decode cX12_pointRead 18 = .ok (.iconst 2, 1) := by decide +kernel
theorem dX12_pointRead_19 : decode cX12_pointRead 19 = .ok (.invokevirtual 328, 3) := by decide +kernel
theorem dX12_pointRead_22 : decode cX12_pointRead 22 = .ok (.iinc 1 1, 3) := by decide +kernel
theorem dX12_pointRead_25 : decode cX12_pointRead 25 = .ok (.goto (-23), 3) := by decide +kernel
theorem dX12_pointRead_28 : decode cX12_pointRead 28 = .ok (.aload_n 0, 1) := by decide +kernel
theorem dX12_pointRead_29 : decode cX12_pointRead 29 = .ok (.bipush 47, 2) := by decide +kernel
theorem dX12_pointRead_31 : decode cX12_pointRead 31 = .ok (.invokevirtual 331, 3) := by decide +kernel
theorem dX12_pointRead_34 : decode cX12_pointRead 34 = .ok (.aload_n 0, 1) := by decide +kernel
theorem dX12_pointRead_35 : decode cX12_pointRead 35 = .ok (.invokevirtual 691, 3) := by decide +kernel
theorem dX12_pointRead_38 : decode cX12_pointRead 38 = .ok (.return_, 1) := by decide +kernel
theorem dX12_proofRead_0 : decode cX12_proofRead 0 = .ok (.aload_n 0, 1) := by decide +kernel
theorem dX12_proofRead_1 : decode cX12_proofRead 1 = .ok (.iconst 0, 1) := by decide +kernel
theorem dX12_proofRead_2 : decode cX12_proofRead 2 = .ok (.putfield 315, 3) := by decide +kernel
theorem dX12_proofRead_5 : decode cX12_proofRead 5 = .ok (.aload_n 0, 1) := by decide +kernel
theorem dX12_proofRead_6 : decode cX12_proofRead 6 = .ok (.getfield 47, 3) := by decide +kernel
theorem dX12_proofRead_9 : decode cX12_proofRead 9 = .ok (.iconst 0, 1) := by decide +kernel
theorem dX12_proofRead_10 : decode cX12_proofRead 10 = .ok (.iaload, 1) := by decide +kernel
theorem dX12_proofRead_11 : decode cX12_proofRead 11 = .ok (.iconst 3, 1) := by decide +kernel
theorem dX12_proofRead_12 : decode cX12_proofRead 12 = .ok (.if_icmp .ne 12, 3) := by decide +kernel
theorem dX12_proofRead_15 : decode cX12_proofRead 15 = .ok (.aload_n 0, 1) := by decide +kernel
theorem dX12_proofRead_16 : decode cX12_proofRead 16 = .ok (.getfield 56, 3) := by decide +kernel
theorem dX12_proofRead_19 : decode cX12_proofRead 19 = .ok (.iconst 0, 1) := by decide +kernel
theorem dX12_proofRead_20 : decode cX12_proofRead 20 = .ok (.iaload, 1) := by decide +kernel
theorem dX12_proofRead_21 : decode cX12_proofRead 21 = .ok (.goto 4, 3) := by decide +kernel
theorem dX12_proofRead_24 : decode cX12_proofRead 24 = .ok (.iconst (-1), 1) := by decide +kernel
theorem dX12_proofRead_25 : decode cX12_proofRead 25 = .ok (.istore_n 1, 1) := by decide +kernel
theorem dX12_proofRead_26 : decode cX12_proofRead 26 = .ok (.aload_n 0, 1) := by decide +kernel
theorem dX12_proofRead_27 : decode cX12_proofRead 27 = .ok (.dup, 1) := by decide +kernel
theorem dX12_proofRead_28 : decode cX12_proofRead 28 = .ok (.getfield 315, 3) := by decide +kernel
theorem dX12_proofRead_31 : decode cX12_proofRead 31 = .ok (.iconst 1, 1) := by decide +kernel
theorem dX12_proofRead_32 : decode cX12_proofRead 32 = .ok (.iadd, 1) := by decide +kernel
theorem dX12_proofRead_33 : decode cX12_proofRead 33 = .ok (.putfield 315, 3) := by decide +kernel
theorem dX12_proofRead_36 : decode cX12_proofRead 36 = .ok (.iload_n 1, 1) := by decide +kernel
theorem dX12_proofRead_37 : decode cX12_proofRead 37 = .ok (.ifCond .ne 34, 3) := by decide +kernel
theorem dX12_proofRead_40 : decode cX12_proofRead 40 = .ok (.aload_n 0, 1) := by decide +kernel
theorem dX12_proofRead_41 : decode cX12_proofRead 41 = .ok (.iconst 2, 1) := by decide +kernel
theorem dX12_proofRead_42 : decode cX12_proofRead 42 = .ok (.invokevirtual 328, 3) := by decide +kernel
theorem dX12_proofRead_45 : decode cX12_proofRead 45 = .ok (.aload_n 0, 1) := by decide +kernel
theorem dX12_proofRead_46 : decode cX12_proofRead 46 = .ok (.bipush 47, 2) := by decide +kernel
theorem dX12_proofRead_48 : decode cX12_proofRead 48 = .ok (.invokevirtual 331, 3) := by decide +kernel
theorem dX12_proofRead_51 : decode cX12_proofRead 51 = .ok (.aload_n 0, 1) := by decide +kernel
theorem dX12_proofRead_52 : decode cX12_proofRead 52 = .ok (.invokevirtual 691, 3) := by decide +kernel
theorem dX12_proofRead_55 : decode cX12_proofRead 55 = .ok (.aload_n 0, 1) := by decide +kernel
theorem dX12_proofRead_56 : decode cX12_proofRead 56 = .ok (.iconst 1, 1) := by decide +kernel
theorem dX12_proofRead_57 : decode cX12_proofRead 57 = .ok (.invokevirtual 340, 3) := by decide +kernel
theorem dX12_proofRead_60 : decode cX12_proofRead 60 = .ok (.aload_n 0, 1) := by decide +kernel
theorem dX12_proofRead_61 : decode cX12_proofRead 61 = .ok (.invokevirtual 694, 3) := by decide +kernel
theorem dX12_proofRead_64 : decode cX12_proofRead 64 = .ok (.aload_n 0, 1) := by decide +kernel
theorem dX12_proofRead_65 : decode cX12_proofRead 65 = .ok (.invokevirtual 697, 3) := by decide +kernel
theorem dX12_proofRead_68 : decode cX12_proofRead 68 = .ok (.goto 47, 3) := by decide +kernel
theorem dX12_proofRead_71 : decode cX12_proofRead 71 = .ok (.iload_n 1, 1) := by decide +kernel
theorem dX12_proofRead_72 : decode cX12_proofRead 72 = .ok (.iconst 2, 1) := by decide +kernel
theorem dX12_proofRead_73 : decode cX12_proofRead 73 = .ok (.if_icmp .ne 10, 3) := by decide +kernel
theorem dX12_proofRead_76 : decode cX12_proofRead 76 = .ok (.aload_n 0, 1) := by decide +kernel
theorem dX12_proofRead_77 : decode cX12_proofRead 77 = .ok (.invokevirtual 697, 3) := by decide +kernel
theorem dX12_proofRead_80 : decode cX12_proofRead 80 = .ok (.goto 35, 3) := by decide +kernel
theorem dX12_proofRead_83 : decode cX12_proofRead 83 = .ok (.iload_n 1, 1) := by decide +kernel
theorem dX12_proofRead_84 : decode cX12_proofRead 84 = .ok (.iconst 3, 1) := by decide +kernel
theorem dX12_proofRead_85 : decode cX12_proofRead 85 = .ok (.if_icmp .ne 24, 3) := by decide +kernel
theorem dX12_proofRead_88 : decode cX12_proofRead 88 = .ok (.aload_n 0, 1) := by decide +kernel
theorem dX12_proofRead_89 : decode cX12_proofRead 89 = .ok (.iconst 1, 1) := by decide +kernel
theorem dX12_proofRead_90 : decode cX12_proofRead 90 = .ok (.invokevirtual 340, 3) := by decide +kernel
theorem dX12_proofRead_93 : decode cX12_proofRead 93 = .ok (.aload_n 0, 1) := by decide +kernel
theorem dX12_proofRead_94 : decode cX12_proofRead 94 = .ok (.invokevirtual 694, 3) := by decide +kernel
theorem dX12_proofRead_97 : decode cX12_proofRead 97 = .ok (.aload_n 0, 1) := by decide +kernel
theorem dX12_proofRead_98 : decode cX12_proofRead 98 = .ok (.iconst 4, 1) := by decide +kernel
theorem dX12_proofRead_99 : decode cX12_proofRead 99 = .ok (.invokevirtual 340, 3) := by decide +kernel
theorem dX12_proofRead_102 : decode cX12_proofRead 102 = .ok (.aload_n 0, 1) := by decide +kernel
theorem dX12_proofRead_103 : decode cX12_proofRead 103 = .ok (.invokevirtual 694, 3) := by decide +kernel
theorem dX12_proofRead_106 : decode cX12_proofRead 106 = .ok (.goto 9, 3) := by decide +kernel
theorem dX12_proofRead_109 : decode cX12_proofRead 109 = .ok (.aload_n 0, 1) := by decide +kernel
theorem dX12_proofRead_110 : decode cX12_proofRead 110 = .ok (.iconst 1, 1) := by decide +kernel
theorem dX12_proofRead_111 : decode cX12_proofRead 111 = .ok (.iconst 0, 1) := by decide +kernel
theorem dX12_proofRead_112 : decode cX12_proofRead 112 = .ok (.invokevirtual 321, 3) := by decide +kernel
theorem dX12_proofRead_115 : decode cX12_proofRead 115 = .ok (.aload_n 0, 1) := by decide +kernel
theorem dX12_proofRead_116 : decode cX12_proofRead 116 = .ok (.getfield 270, 3) := by decide +kernel
theorem dX12_proofRead_119 : decode cX12_proofRead 119 = .ok (.ifCond .ne 25, 3) := by decide +kernel
theorem dX12_proofRead_122 : decode cX12_proofRead 122 = .ok (.aload_n 0, 1) := by decide +kernel
theorem dX12_proofRead_123 : decode cX12_proofRead 123 = .ok (.getfield 47, 3) := by decide +kernel
theorem dX12_proofRead_126 : decode cX12_proofRead 126 = .ok (.aload_n 0, 1) := by decide +kernel
theorem dX12_proofRead_127 : decode cX12_proofRead 127 = .ok (.getfield 315, 3) := by decide +kernel
theorem dX12_proofRead_130 : decode cX12_proofRead 130 = .ok (.iaload, 1) := by decide +kernel
theorem dX12_proofRead_131 : decode cX12_proofRead 131 = .ok (.iconst 5, 1) := by decide +kernel
theorem dX12_proofRead_132 : decode cX12_proofRead 132 = .ok (.if_icmp .eq 12, 3) := by decide +kernel
theorem dX12_proofRead_135 : decode cX12_proofRead 135 = .ok (.aload_n 0, 1) := by decide +kernel
theorem dX12_proofRead_136 : decode cX12_proofRead 136 = .ok (.iconst 1, 1) := by decide +kernel
theorem dX12_proofRead_137 : decode cX12_proofRead 137 = .ok (.aload_n 0, 1) := by decide +kernel
theorem dX12_proofRead_138 : decode cX12_proofRead 138 = .ok (.getfield 315, 3) := by decide +kernel
theorem dX12_proofRead_141 : decode cX12_proofRead 141 = .ok (.invokevirtual 321, 3) := by decide +kernel
theorem dX12_proofRead_144 : decode cX12_proofRead 144 = .ok (.return_, 1) := by decide +kernel
theorem dX12_tokenizeProof_0 : decode cX12_tokenizeProof 0 = .ok (.aload_n 0, 1) := by decide +kernel
theorem dX12_tokenizeProof_1 : decode cX12_tokenizeProof 1 = .ok (.iconst 0, 1) := by decide +kernel
theorem dX12_tokenizeProof_2 : decode cX12_tokenizeProof 2 = .ok (.putfield 289, 3) := by decide +kernel
theorem dX12_tokenizeProof_5 : decode cX12_tokenizeProof 5 = .ok (.iconst 0, 1) := by decide +kernel
theorem dX12_tokenizeProof_6 : decode cX12_tokenizeProof 6 = .ok (.istore_n 1, 1) := by decide +kernel
theorem dX12_tokenizeProof_7 : decode cX12_tokenizeProof 7 = .ok (.iload_n 1, 1) := by decide +kernel
theorem dX12_tokenizeProof_8 : decode cX12_tokenizeProof 8 = .ok (.aload_n 0, 1) := by decide +kernel
theorem dX12_tokenizeProof_9 : decode cX12_tokenizeProof 9 = .ok (.getfield 276, 3) := by decide +kernel
theorem dX12_tokenizeProof_12 : decode cX12_tokenizeProof 12 = .ok (.if_icmp .ge 312, 3) := by decide +kernel
theorem dX12_tokenizeProof_15 : decode cX12_tokenizeProof 15 = .ok (.aload_n 0, 1) := by decide +kernel
theorem dX12_tokenizeProof_16 : decode cX12_tokenizeProof 16 = .ok (.getfield 44, 3) := by decide +kernel
theorem dX12_tokenizeProof_19 : decode cX12_tokenizeProof 19 = .ok (.iload_n 1, 1) := by decide +kernel
theorem dX12_tokenizeProof_20 : decode cX12_tokenizeProof 20 = .ok (.baload, 1) := by decide +kernel
theorem dX12_tokenizeProof_21 : decode cX12_tokenizeProof 21 = .ok (.istore_n 2, 1) := by decide +kernel
theorem dX12_tokenizeProof_22 : decode cX12_tokenizeProof 22 = .ok (.iload_n 2, 1) := by decide +kernel
theorem dX12_tokenizeProof_23 : decode cX12_tokenizeProof 23 = .ok (.bipush 32, 2) := by decide +kernel
theorem dX12_tokenizeProof_25 : decode cX12_tokenizeProof 25 = .ok (.if_icmp .eq 9, 3) := by decide +kernel
theorem dX12_tokenizeProof_28 : decode cX12_tokenizeProof 28 = .ok (.iload_n 2, 1) := by decide +kernel
theorem dX12_tokenizeProof_29 : decode cX12_tokenizeProof 29 = .ok (.bipush 10, 2) := by decide +kernel
theorem dX12_tokenizeProof_31 : decode cX12_tokenizeProof 31 = .ok (.if_icmp .ne 9, 3) := by decide +kernel
theorem dX12_tokenizeProof_34 : decode cX12_tokenizeProof 34 = .ok (.iinc 1 1, 3) := by decide +kernel
theorem dX12_tokenizeProof_37 : decode cX12_tokenizeProof 37 = .ok (.goto (-30), 3) := by decide +kernel
theorem dX12_tokenizeProof_40 : decode cX12_tokenizeProof 40 = .ok (.iconst 0, 1) := by decide +kernel
theorem dX12_tokenizeProof_41 : decode cX12_tokenizeProof 41 = .ok (.istore_n 3, 1) := by decide +kernel
theorem dX12_tokenizeProof_42 : decode cX12_tokenizeProof 42 = .ok (.iconst 0, 1) := by decide +kernel
theorem dX12_tokenizeProof_43 : decode cX12_tokenizeProof 43 = .ok (.istore 4, 2) := by decide +kernel
theorem dX12_tokenizeProof_45 : decode cX12_tokenizeProof 45 = .ok (.iload_n 2, 1) := by decide +kernel
theorem dX12_tokenizeProof_46 : decode cX12_tokenizeProof 46 = .ok (.invokestatic 295, 3) := by decide +kernel
theorem dX12_tokenizeProof_49 : decode cX12_tokenizeProof 49 = .ok (.ifCond .eq 67, 3) := by decide +kernel
theorem dX12_tokenizeProof_52 : decode cX12_tokenizeProof 52 = .ok (.aload_n 0, 1) := by decide +kernel
theorem dX12_tokenizeProof_53 : decode cX12_tokenizeProof 53 = .ok (.iload_n 1, 1) := by decide +kernel
theorem dX12_tokenizeProof_54 : decode cX12_tokenizeProof 54 = .ok (.iload_n 3, 1) := by decide +kernel
theorem dX12_tokenizeProof_55 : decode cX12_tokenizeProof 55 = .ok (.iadd, 1) := by decide +kernel
theorem dX12_tokenizeProof_56 : decode cX12_tokenizeProof 56 = .ok (.invokevirtual 292, 3) := by decide +kernel
theorem dX12_tokenizeProof_59 : decode cX12_tokenizeProof 59 = .ok (.invokestatic 295, 3) := by decide +kernel
theorem dX12_tokenizeProof_62 : decode cX12_tokenizeProof 62 = .ok (.ifCond .eq 9, 3) := by decide +kernel
theorem dX12_tokenizeProof_65 : decode cX12_tokenizeProof 65 = .ok (.iinc 3 1, 3) := by decide +kernel
theorem dX12_tokenizeProof_68 : decode cX12_tokenizeProof 68 = .ok (.goto (-16), 3) := by decide +kernel
theorem dX12_tokenizeProof_71 : decode cX12_tokenizeProof 71 = .ok (.aload_n 0, 1) := by decide +kernel
theorem dX12_tokenizeProof_72 : decode cX12_tokenizeProof 72 = .ok (.ldc_w 689, 3) := by decide +kernel
theorem dX12_tokenizeProof_75 : decode cX12_tokenizeProof 75 = .ok (.iload_n 1, 1) := by decide +kernel
theorem dX12_tokenizeProof_76 : decode cX12_tokenizeProof 76 = .ok (.iload_n 3, 1) := by decide +kernel
theorem dX12_tokenizeProof_77 : decode cX12_tokenizeProof 77 = .ok (.invokevirtual 304, 3) := by decide +kernel
theorem dX12_tokenizeProof_80 : decode cX12_tokenizeProof 80 = .ok (.istore 5, 2) := by decide +kernel
theorem dX12_tokenizeProof_82 : decode cX12_tokenizeProof 82 = .ok (.iload 5, 2) := by decide +kernel
theorem dX12_tokenizeProof_84 : decode cX12_tokenizeProof 84 = .ok (.ifCond .lt 7, 3) := by decide +kernel
theorem dX12_tokenizeProof_87 : decode cX12_tokenizeProof 87 = .ok (.iconst 1, 1) := by decide +kernel
theorem dX12_tokenizeProof_88 : decode cX12_tokenizeProof 88 = .ok (.goto 4, 3) := by decide +kernel
theorem dX12_tokenizeProof_91 : decode cX12_tokenizeProof 91 = .ok (.iconst 0, 1) := by decide +kernel
theorem dX12_tokenizeProof_92 : decode cX12_tokenizeProof 92 = .ok (.istore 4, 2) := by decide +kernel
theorem dX12_tokenizeProof_94 : decode cX12_tokenizeProof 94 = .ok (.aload_n 0, 1) := by decide +kernel
theorem dX12_tokenizeProof_95 : decode cX12_tokenizeProof 95 = .ok (.iload 4, 2) := by decide +kernel
theorem dX12_tokenizeProof_97 : decode cX12_tokenizeProof 97 = .ok (.ifCond .eq 7, 3) := by decide +kernel
theorem dX12_tokenizeProof_100 : decode cX12_tokenizeProof 100 = .ok (.iconst 3, 1) := by decide +kernel
theorem dX12_tokenizeProof_101 : decode cX12_tokenizeProof 101 = .ok (.goto 5, 3) := by decide +kernel
theorem dX12_tokenizeProof_104 : decode cX12_tokenizeProof 104 = .ok (.bipush 6, 2) := by decide +kernel
theorem dX12_tokenizeProof_106 : decode cX12_tokenizeProof 106 = .ok (.iload_n 1, 1) := by decide +kernel
theorem dX12_tokenizeProof_107 : decode cX12_tokenizeProof 107 = .ok (.iload_n 3, 1) := by decide +kernel
theorem dX12_tokenizeProof_108 : decode cX12_tokenizeProof 108 = .ok (.iload 5, 2) := by decide +kernel
theorem dX12_tokenizeProof_110 : decode cX12_tokenizeProof 110 = .ok (.invokevirtual 308, 3) := by decide +kernel
theorem dX12_tokenizeProof_113 : decode cX12_tokenizeProof 113 = .ok (.goto 196, 3) := by decide +kernel
theorem dX12_tokenizeProof_116 : decode cX12_tokenizeProof 116 = .ok (.iload_n 2, 1) := by decide +kernel
theorem dX12_tokenizeProof_117 : decode cX12_tokenizeProof 117 = .ok (.invokestatic 299, 3) := by decide +kernel
theorem dX12_tokenizeProof_120 : decode cX12_tokenizeProof 120 = .ok (.ifCond .ne 9, 3) := by decide +kernel
theorem dX12_tokenizeProof_123 : decode cX12_tokenizeProof 123 = .ok (.iload_n 2, 1) := by decide +kernel
theorem dX12_tokenizeProof_124 : decode cX12_tokenizeProof 124 = .ok (.bipush 45, 2) := by decide +kernel
theorem dX12_tokenizeProof_126 : decode cX12_tokenizeProof 126 = .ok (.if_icmp .ne 138, 3) := by decide +kernel
theorem dX12_tokenizeProof_129 : decode cX12_tokenizeProof 129 = .ok (.iload_n 2, 1) := by decide +kernel
theorem dX12_tokenizeProof_130 : decode cX12_tokenizeProof 130 = .ok (.bipush 45, 2) := by decide +kernel
theorem dX12_tokenizeProof_132 : decode cX12_tokenizeProof 132 = .ok (.if_icmp .ne 7, 3) := by decide +kernel
theorem dX12_tokenizeProof_135 : decode cX12_tokenizeProof 135 = .ok (.iconst 1, 1) := by decide +kernel
theorem dX12_tokenizeProof_136 : decode cX12_tokenizeProof 136 = .ok (.goto 4, 3) := by decide +kernel
theorem dX12_tokenizeProof_139 : decode cX12_tokenizeProof 139 = .ok (.iconst 0, 1) := by decide +kernel
theorem dX12_tokenizeProof_140 : decode cX12_tokenizeProof 140 = .ok (.istore 5, 2) := by decide +kernel
theorem dX12_tokenizeProof_142 : decode cX12_tokenizeProof 142 = .ok (.iload 5, 2) := by decide +kernel
theorem dX12_tokenizeProof_144 : decode cX12_tokenizeProof 144 = .ok (.istore_n 3, 1) := by decide +kernel
theorem dX12_tokenizeProof_145 : decode cX12_tokenizeProof 145 = .ok (.iconst 1, 1) := by decide +kernel
theorem dX12_tokenizeProof_146 : decode cX12_tokenizeProof 146 = .ok (.istore 6, 2) := by decide +kernel
theorem dX12_tokenizeProof_148 : decode cX12_tokenizeProof 148 = .ok (.aload_n 0, 1) := by decide +kernel
theorem dX12_tokenizeProof_149 : decode cX12_tokenizeProof 149 = .ok (.iload_n 1, 1) := by decide +kernel
theorem dX12_tokenizeProof_150 : decode cX12_tokenizeProof 150 = .ok (.iload_n 3, 1) := by decide +kernel
theorem dX12_tokenizeProof_151 : decode cX12_tokenizeProof 151 = .ok (.iadd, 1) := by decide +kernel
theorem dX12_tokenizeProof_152 : decode cX12_tokenizeProof 152 = .ok (.invokevirtual 292, 3) := by decide +kernel
theorem dX12_tokenizeProof_155 : decode cX12_tokenizeProof 155 = .ok (.invokestatic 299, 3) := by decide +kernel
theorem dX12_tokenizeProof_158 : decode cX12_tokenizeProof 158 = .ok (.ifCond .eq 33, 3) := by decide +kernel
theorem dX12_tokenizeProof_161 : decode cX12_tokenizeProof 161 = .ok (.iload 6, 2) := by decide +kernel
theorem dX12_tokenizeProof_163 : decode cX12_tokenizeProof 163 = .ok (.ifCond .eq 19, 3) := by decide +kernel
theorem dX12_tokenizeProof_166 : decode cX12_tokenizeProof 166 = .ok (.aload_n 0, 1) := by decide +kernel
theorem dX12_tokenizeProof_167 : decode cX12_tokenizeProof 167 = .ok (.iload_n 1, 1) := by decide +kernel
theorem dX12_tokenizeProof_168 : decode cX12_tokenizeProof 168 = .ok (.iload_n 3, 1) := by decide +kernel
theorem dX12_tokenizeProof_169 : decode cX12_tokenizeProof 169 = .ok (.iadd, 1) := by decide +kernel
theorem dX12_tokenizeProof_170 : decode cX12_tokenizeProof 170 = .ok (.invokevirtual 292, 3) := by decide +kernel
theorem dX12_tokenizeProof_173 : decode cX12_tokenizeProof 173 = .ok (.bipush 48, 2) := by decide +kernel
theorem dX12_tokenizeProof_175 : decode cX12_tokenizeProof 175 = .ok (.if_icmp .ne 7, 3) := by decide +kernel
theorem dX12_tokenizeProof_178 : decode cX12_tokenizeProof 178 = .ok (.iconst 1, 1) := by decide +kernel
theorem dX12_tokenizeProof_179 : decode cX12_tokenizeProof 179 = .ok (.goto 4, 3) := by decide +kernel
theorem dX12_tokenizeProof_182 : decode cX12_tokenizeProof 182 = .ok (.iconst 0, 1) := by decide +kernel
theorem dX12_tokenizeProof_183 : decode cX12_tokenizeProof 183 = .ok (.istore 6, 2) := by decide +kernel
theorem dX12_tokenizeProof_185 : decode cX12_tokenizeProof 185 = .ok (.iinc 3 1, 3) := by decide +kernel
theorem dX12_tokenizeProof_188 : decode cX12_tokenizeProof 188 = .ok (.goto (-40), 3) := by decide +kernel
theorem dX12_tokenizeProof_191 : decode cX12_tokenizeProof 191 = .ok (.iload_n 3, 1) := by decide +kernel
theorem dX12_tokenizeProof_192 : decode cX12_tokenizeProof 192 = .ok (.iload 5, 2) := by decide +kernel
theorem dX12_tokenizeProof_194 : decode cX12_tokenizeProof 194 = .ok (.if_icmp .le 27, 3) := by decide +kernel
theorem dX12_tokenizeProof_197 : decode cX12_tokenizeProof 197 = .ok (.iload_n 3, 1) := by decide +kernel
theorem dX12_tokenizeProof_198 : decode cX12_tokenizeProof 198 = .ok (.iload 5, 2) := by decide +kernel
theorem dX12_tokenizeProof_200 : decode cX12_tokenizeProof 200 = .ok (.isub, 1) := by decide +kernel
theorem dX12_tokenizeProof_201 : decode cX12_tokenizeProof 201 = .ok (.bipush 60, 2) := by decide +kernel
theorem dX12_tokenizeProof_203 : decode cX12_tokenizeProof 203 = .ok (.if_icmp .gt 18, 3) := by decide +kernel
theorem dX12_tokenizeProof_206 : decode cX12_tokenizeProof 206 = .ok (.iload 6, 2) := by decide +kernel
theorem dX12_tokenizeProof_208 : decode cX12_tokenizeProof 208 = .ok (.ifCond .eq 9, 3) := by decide +kernel
theorem dX12_tokenizeProof_211 : decode cX12_tokenizeProof 211 = .ok (.iload 5, 2) := by decide +kernel
theorem dX12_tokenizeProof_213 : decode cX12_tokenizeProof 213 = .ok (.iconst 1, 1) := by decide +kernel
theorem dX12_tokenizeProof_214 : decode cX12_tokenizeProof 214 = .ok (.if_icmp .eq 7, 3) := by decide +kernel
theorem dX12_tokenizeProof_217 : decode cX12_tokenizeProof 217 = .ok (.iconst 1, 1) := by decide +kernel
theorem dX12_tokenizeProof_218 : decode cX12_tokenizeProof 218 = .ok (.goto 4, 3) := by decide +kernel
theorem dX12_tokenizeProof_221 : decode cX12_tokenizeProof 221 = .ok (.iconst 0, 1) := by decide +kernel
theorem dX12_tokenizeProof_222 : decode cX12_tokenizeProof 222 = .ok (.istore 4, 2) := by decide +kernel
theorem dX12_tokenizeProof_224 : decode cX12_tokenizeProof 224 = .ok (.aload_n 0, 1) := by decide +kernel
theorem dX12_tokenizeProof_225 : decode cX12_tokenizeProof 225 = .ok (.iload 4, 2) := by decide +kernel
theorem dX12_tokenizeProof_227 : decode cX12_tokenizeProof 227 = .ok (.ifCond .eq 7, 3) := by decide +kernel
theorem dX12_tokenizeProof_230 : decode cX12_tokenizeProof 230 = .ok (.iconst 2, 1) := by decide +kernel
theorem dX12_tokenizeProof_231 : decode cX12_tokenizeProof 231 = .ok (.goto 5, 3) := by decide +kernel
theorem dX12_tokenizeProof_234 : decode cX12_tokenizeProof 234 = .ok (.bipush 6, 2) := by decide +kernel
theorem dX12_tokenizeProof_236 : decode cX12_tokenizeProof 236 = .ok (.iload_n 1, 1) := by decide +kernel
theorem dX12_tokenizeProof_237 : decode cX12_tokenizeProof 237 = .ok (.iload_n 3, 1) := by decide +kernel
theorem dX12_tokenizeProof_238 : decode cX12_tokenizeProof 238 = .ok (.iload 6, 2) := by decide +kernel
theorem dX12_tokenizeProof_240 : decode cX12_tokenizeProof 240 = .ok (.ifCond .eq 7, 3) := by decide +kernel
theorem dX12_tokenizeProof_243 : decode cX12_tokenizeProof 243 = .ok (.iconst 0, 1) := by decide +kernel
theorem dX12_tokenizeProof_244 : decode cX12_tokenizeProof 244 = .ok (.goto 14, 3) := by decide +kernel
theorem dX12_tokenizeProof_247 : decode cX12_tokenizeProof 247 = .ok (.iload 5, 2) := by decide +kernel
theorem dX12_tokenizeProof_249 : decode cX12_tokenizeProof 249 = .ok (.iconst 1, 1) := by decide +kernel
theorem dX12_tokenizeProof_250 : decode cX12_tokenizeProof 250 = .ok (.if_icmp .ne 7, 3) := by decide +kernel
theorem dX12_tokenizeProof_253 : decode cX12_tokenizeProof 253 = .ok (.iconst (-1), 1) := by decide +kernel
theorem dX12_tokenizeProof_254 : decode cX12_tokenizeProof 254 = .ok (.goto 4, 3) := by decide +kernel
theorem dX12_tokenizeProof_257 : decode cX12_tokenizeProof 257 = .ok (.iconst 1, 1) := by decide +kernel
theorem dX12_tokenizeProof_258 : decode cX12_tokenizeProof 258 = .ok (.invokevirtual 308, 3) := by decide +kernel
theorem dX12_tokenizeProof_261 : decode cX12_tokenizeProof 261 = .ok (.goto 48, 3) := by decide +kernel
theorem dX12_tokenizeProof_264 : decode cX12_tokenizeProof 264 = .ok (.iload_n 2, 1) := by decide +kernel
theorem dX12_tokenizeProof_265 : decode cX12_tokenizeProof 265 = .ok (.bipush 47, 2) := by decide +kernel
theorem dX12_tokenizeProof_267 : decode cX12_tokenizeProof 267 = .ok (.if_icmp .eq 15, 3) := by decide +kernel
theorem dX12_tokenizeProof_270 : decode cX12_tokenizeProof 270 = .ok (.iload_n 2, 1) := by decide +kernel
theorem dX12_tokenizeProof_271 : decode cX12_tokenizeProof 271 = .ok (.bipush 58, 2) := by decide +kernel
theorem dX12_tokenizeProof_273 : decode cX12_tokenizeProof 273 = .ok (.if_icmp .eq 9, 3) := by decide +kernel
theorem dX12_tokenizeProof_276 : decode cX12_tokenizeProof 276 = .ok (.iload_n 2, 1) := by decide +kernel
theorem dX12_tokenizeProof_277 : decode cX12_tokenizeProof 277 = .ok (.bipush 59, 2) := by decide +kernel
theorem dX12_tokenizeProof_279 : decode cX12_tokenizeProof 279 = .ok (.if_icmp .ne 7, 3) := by decide +kernel
theorem dX12_tokenizeProof_282 : decode cX12_tokenizeProof 282 = .ok (.iconst 1, 1) := by decide +kernel
theorem dX12_tokenizeProof_283 : decode cX12_tokenizeProof 283 = .ok (.goto 4, 3) := by decide +kernel
theorem dX12_tokenizeProof_286 : decode cX12_tokenizeProof 286 = .ok (.iconst 0, 1) := by decide +kernel
theorem dX12_tokenizeProof_287 : decode cX12_tokenizeProof 287 = .ok (.istore 4, 2) := by decide +kernel
theorem dX12_tokenizeProof_289 : decode cX12_tokenizeProof 289 = .ok (.iconst 1, 1) := by decide +kernel
theorem dX12_tokenizeProof_290 : decode cX12_tokenizeProof 290 = .ok (.istore_n 3, 1) := by decide +kernel
theorem dX12_tokenizeProof_291 : decode cX12_tokenizeProof 291 = .ok (.aload_n 0, 1) := by decide +kernel
theorem dX12_tokenizeProof_292 : decode cX12_tokenizeProof 292 = .ok (.iload 4, 2) := by decide +kernel
theorem dX12_tokenizeProof_294 : decode cX12_tokenizeProof 294 = .ok (.ifCond .eq 7, 3) := by decide +kernel
theorem dX12_tokenizeProof_297 : decode cX12_tokenizeProof 297 = .ok (.iconst 4, 1) := by decide +kernel
theorem dX12_tokenizeProof_298 : decode cX12_tokenizeProof 298 = .ok (.goto 5, 3) := by decide +kernel
theorem dX12_tokenizeProof_301 : decode cX12_tokenizeProof 301 = .ok (.bipush 6, 2) := by decide +kernel
theorem dX12_tokenizeProof_303 : decode cX12_tokenizeProof 303 = .ok (.iload_n 1, 1) := by decide +kernel
theorem dX12_tokenizeProof_304 : decode cX12_tokenizeProof 304 = .ok (.iconst 1, 1) := by decide +kernel
theorem dX12_tokenizeProof_305 : decode cX12_tokenizeProof 305 = .ok (.iload_n 2, 1) := by decide +kernel
theorem dX12_tokenizeProof_306 : decode cX12_tokenizeProof 306 = .ok (.invokevirtual 308, 3) := by decide +kernel
theorem dX12_tokenizeProof_309 : decode cX12_tokenizeProof 309 = .ok (.iload 4, 2) := by decide +kernel
theorem dX12_tokenizeProof_311 : decode cX12_tokenizeProof 311 = .ok (.ifCond .ne 6, 3) := by decide +kernel
theorem dX12_tokenizeProof_314 : decode cX12_tokenizeProof 314 = .ok (.goto 10, 3) := by decide +kernel
theorem dX12_tokenizeProof_317 : decode cX12_tokenizeProof 317 = .ok (.iload_n 1, 1) := by decide +kernel
theorem dX12_tokenizeProof_318 : decode cX12_tokenizeProof 318 = .ok (.iload_n 3, 1) := by decide +kernel
theorem dX12_tokenizeProof_319 : decode cX12_tokenizeProof 319 = .ok (.iadd, 1) := by decide +kernel
theorem dX12_tokenizeProof_320 : decode cX12_tokenizeProof 320 = .ok (.istore_n 1, 1) := by decide +kernel
theorem dX12_tokenizeProof_321 : decode cX12_tokenizeProof 321 = .ok (.goto (-314), 3) := by decide +kernel
theorem dX12_tokenizeProof_324 : decode cX12_tokenizeProof 324 = .ok (.aload_n 0, 1) := by decide +kernel
theorem dX12_tokenizeProof_325 : decode cX12_tokenizeProof 325 = .ok (.getfield 289, 3) := by decide +kernel
theorem dX12_tokenizeProof_328 : decode cX12_tokenizeProof 328 = .ok (.ifCond .eq 19, 3) := by decide +kernel
theorem dX12_tokenizeProof_331 : decode cX12_tokenizeProof 331 = .ok (.aload_n 0, 1) := by decide +kernel
theorem dX12_tokenizeProof_332 : decode cX12_tokenizeProof 332 = .ok (.getfield 47, 3) := by decide +kernel
theorem dX12_tokenizeProof_335 : decode cX12_tokenizeProof 335 = .ok (.aload_n 0, 1) := by decide +kernel
theorem dX12_tokenizeProof_336 : decode cX12_tokenizeProof 336 = .ok (.getfield 289, 3) := by decide +kernel
theorem dX12_tokenizeProof_339 : decode cX12_tokenizeProof 339 = .ok (.iconst 1, 1) := by decide +kernel
theorem dX12_tokenizeProof_340 : decode cX12_tokenizeProof 340 = .ok (.isub, 1) := by decide +kernel
theorem dX12_tokenizeProof_341 : decode cX12_tokenizeProof 341 = .ok (.iaload, 1) := by decide +kernel
theorem dX12_tokenizeProof_342 : decode cX12_tokenizeProof 342 = .ok (.bipush 6, 2) := by decide +kernel
theorem dX12_tokenizeProof_344 : decode cX12_tokenizeProof 344 = .ok (.if_icmp .eq 14, 3) := by decide +kernel
theorem dX12_tokenizeProof_347 : decode cX12_tokenizeProof 347 = .ok (.aload_n 0, 1) := by decide +kernel
theorem dX12_tokenizeProof_348 : decode cX12_tokenizeProof 348 = .ok (.iconst 5, 1) := by decide +kernel
theorem dX12_tokenizeProof_349 : decode cX12_tokenizeProof 349 = .ok (.aload_n 0, 1) := by decide +kernel
theorem dX12_tokenizeProof_350 : decode cX12_tokenizeProof 350 = .ok (.getfield 276, 3) := by decide +kernel
theorem dX12_tokenizeProof_353 : decode cX12_tokenizeProof 353 = .ok (.iconst 0, 1) := by decide +kernel
theorem dX12_tokenizeProof_354 : decode cX12_tokenizeProof 354 = .ok (.iconst 0, 1) := by decide +kernel
theorem dX12_tokenizeProof_355 : decode cX12_tokenizeProof 355 = .ok (.invokevirtual 308, 3) := by decide +kernel
theorem dX12_tokenizeProof_358 : decode cX12_tokenizeProof 358 = .ok (.aload_n 0, 1) := by decide +kernel
theorem dX12_tokenizeProof_359 : decode cX12_tokenizeProof 359 = .ok (.getfield 289, 3) := by decide +kernel
theorem dX12_tokenizeProof_362 : decode cX12_tokenizeProof 362 = .ok (.istore_n 2, 1) := by decide +kernel
theorem dX12_tokenizeProof_363 : decode cX12_tokenizeProof 363 = .ok (.iload_n 2, 1) := by decide +kernel
theorem dX12_tokenizeProof_364 : decode cX12_tokenizeProof 364 = .ok (.aload_n 0, 1) := by decide +kernel
theorem dX12_tokenizeProof_365 : decode cX12_tokenizeProof 365 = .ok (.getfield 289, 3) := by decide +kernel
theorem dX12_tokenizeProof_368 : decode cX12_tokenizeProof 368 = .ok (.iconst 3, 1) := by decide +kernel
theorem dX12_tokenizeProof_369 : decode cX12_tokenizeProof 369 = .ok (.iadd, 1) := by decide +kernel
theorem dX12_tokenizeProof_370 : decode cX12_tokenizeProof 370 = .ok (.if_icmp .ge 16, 3) := by decide +kernel
theorem dX12_tokenizeProof_373 : decode cX12_tokenizeProof 373 = .ok (.aload_n 0, 1) := by decide +kernel
theorem dX12_tokenizeProof_374 : decode cX12_tokenizeProof 374 = .ok (.getfield 47, 3) := by decide +kernel
theorem dX12_tokenizeProof_377 : decode cX12_tokenizeProof 377 = .ok (.iload_n 2, 1) := by decide +kernel
theorem dX12_tokenizeProof_378 : decode cX12_tokenizeProof 378 = .ok (.iconst 5, 1) := by decide +kernel
theorem dX12_tokenizeProof_379 : decode cX12_tokenizeProof 379 = .ok (.iastore, 1) := by decide +kernel
theorem dX12_tokenizeProof_380 : decode cX12_tokenizeProof 380 = .ok (.iinc 2 1, 3) := by decide +kernel
theorem dX12_tokenizeProof_383 : decode cX12_tokenizeProof 383 = .ok (.goto (-20), 3) := by decide +kernel
theorem dX12_tokenizeProof_386 : decode cX12_tokenizeProof 386 = .ok (.return_, 1) := by decide +kernel
theorem dX12_treesRead_0 : decode cX12_treesRead 0 = .ok (.iconst 1, 1) := by decide +kernel
theorem dX12_treesRead_1 : decode cX12_treesRead 1 = .ok (.istore_n 1, 1) := by decide +kernel
theorem dX12_treesRead_2 : decode cX12_treesRead 2 = .ok (.iload_n 1, 1) := by decide +kernel
theorem dX12_treesRead_3 : decode cX12_treesRead 3 = .ok (.ifCond .le 149, 3) := by decide +kernel
theorem dX12_treesRead_6 : decode cX12_treesRead 6 = .ok (.aload_n 0, 1) := by decide +kernel
theorem dX12_treesRead_7 : decode cX12_treesRead 7 = .ok (.getfield 270, 3) := by decide +kernel
theorem dX12_treesRead_10 : decode cX12_treesRead 10 = .ok (.ifCond .ne 142, 3) := by decide +kernel
theorem dX12_treesRead_13 : decode cX12_treesRead 13 = .ok (.aload_n 0, 1) := by decide +kernel
theorem dX12_treesRead_14 : decode cX12_treesRead 14 = .ok (.getfield 47, 3) := by decide +kernel
theorem dX12_treesRead_17 : decode cX12_treesRead 17 = .ok (.aload_n 0, 1) := by decide +kernel
theorem dX12_treesRead_18 : decode cX12_treesRead 18 = .ok (.getfield 315, 3) := by decide +kernel
theorem dX12_treesRead_21 : decode cX12_treesRead 21 = .ok (.iaload, 1) := by decide +kernel
theorem dX12_treesRead_22 : decode cX12_treesRead 22 = .ok (.iconst 3, 1) := by decide +kernel
theorem dX12_treesRead_23 : decode cX12_treesRead 23 = .ok (.if_icmp .ne 15, 3) := by decide +kernel
theorem dX12_treesRead_26 : decode cX12_treesRead 26 = .ok (.aload_n 0, 1) := by decide +kernel
theorem dX12_treesRead_27 : decode cX12_treesRead 27 = .ok (.getfield 56, 3) := by decide +kernel
theorem dX12_treesRead_30 : decode cX12_treesRead 30 = .ok (.aload_n 0, 1) := by decide +kernel
theorem dX12_treesRead_31 : decode cX12_treesRead 31 = .ok (.getfield 315, 3) := by decide +kernel
theorem dX12_treesRead_34 : decode cX12_treesRead 34 = .ok (.iaload, 1) := by decide +kernel
theorem dX12_treesRead_35 : decode cX12_treesRead 35 = .ok (.goto 4, 3) := by decide +kernel
theorem dX12_treesRead_38 : decode cX12_treesRead 38 = .ok (.iconst (-1), 1) := by decide +kernel
theorem dX12_treesRead_39 : decode cX12_treesRead 39 = .ok (.istore_n 2, 1) := by decide +kernel
theorem dX12_treesRead_40 : decode cX12_treesRead 40 = .ok (.iload_n 2, 1) := by decide +kernel
theorem dX12_treesRead_41 : decode cX12_treesRead 41 = .ok (.iconst 5, 1) := by decide +kernel
theorem dX12_treesRead_42 : decode cX12_treesRead 42 = .ok (.if_icmp .ge 13, 3) := by decide +kernel
theorem dX12_treesRead_45 : decode cX12_treesRead 45 = .ok (.aload_n 0, 1) := by decide +kernel
theorem dX12_treesRead_46 : decode cX12_treesRead 46 = .ok (.iconst 1, 1) := by decide +kernel
theorem dX12_treesRead_47 : decode cX12_treesRead 47 = .ok (.aload_n 0, 1) := by decide +kernel
theorem dX12_treesRead_48 : decode cX12_treesRead 48 = .ok (.getfield 315, 3) := by decide +kernel
theorem dX12_treesRead_51 : decode cX12_treesRead 51 = .ok (.invokevirtual 321, 3) := by decide +kernel
theorem dX12_treesRead_54 : decode cX12_treesRead 54 = .ok (.return_, 1) := by decide +kernel
theorem dX12_treesRead_55 : decode cX12_treesRead 55 = .ok (.aload_n 0, 1) := by decide +kernel
theorem dX12_treesRead_56 : decode cX12_treesRead 56 = .ok (.dup, 1) := by decide +kernel
theorem dX12_treesRead_57 : decode cX12_treesRead 57 = .ok (.getfield 315, 3) := by decide +kernel
theorem dX12_treesRead_60 : decode cX12_treesRead 60 = .ok (.iconst 1, 1) := by decide +kernel
theorem dX12_treesRead_61 : decode cX12_treesRead 61 = .ok (.iadd, 1) := by decide +kernel
theorem dX12_treesRead_62 : decode cX12_treesRead 62 = .ok (.putfield 315, 3) := by decide +kernel
theorem dX12_treesRead_65 : decode cX12_treesRead 65 = .ok (.iload_n 2, 1) := by decide +kernel
theorem dX12_treesRead_66 : decode cX12_treesRead 66 = .ok (.iconst 5, 1) := by decide +kernel
theorem dX12_treesRead_67 : decode cX12_treesRead 67 = .ok (.if_icmp .ne 19, 3) := by decide +kernel
theorem dX12_treesRead_70 : decode cX12_treesRead 70 = .ok (.aload_n 0, 1) := by decide +kernel
theorem dX12_treesRead_71 : decode cX12_treesRead 71 = .ok (.iconst 2, 1) := by decide +kernel
theorem dX12_treesRead_72 : decode cX12_treesRead 72 = .ok (.invokevirtual 328, 3) := by decide +kernel
theorem dX12_treesRead_75 : decode cX12_treesRead 75 = .ok (.aload_n 0, 1) := by decide +kernel
theorem dX12_treesRead_76 : decode cX12_treesRead 76 = .ok (.iconst 2, 1) := by decide +kernel
theorem dX12_treesRead_77 : decode cX12_treesRead 77 = .ok (.invokevirtual 328, 3) := by decide +kernel
theorem dX12_treesRead_80 : decode cX12_treesRead 80 = .ok (.iinc 1 1, 3) := by decide +kernel
theorem dX12_treesRead_83 : decode cX12_treesRead 83 = .ok (.goto (-81), 3) := by decide +kernel
theorem dX12_treesRead_86 : decode cX12_treesRead 86 = .ok (.aload_n 0, 1) := by decide +kernel
theorem dX12_treesRead_87 : decode cX12_treesRead 87 = .ok (.invokevirtual 691, 3) := by decide +kernel
theorem dX12_treesRead_90 : decode cX12_treesRead 90 = .ok (.aload_n 0, 1) := by decide +kernel
theorem dX12_treesRead_91 : decode cX12_treesRead 91 = .ok (.getfield 270, 3) := by decide +kernel
theorem dX12_treesRead_94 : decode cX12_treesRead 94 = .ok (.ifCond .ne 40, 3) := by decide +kernel
theorem dX12_treesRead_97 : decode cX12_treesRead 97 = .ok (.aload_n 0, 1) := by decide +kernel
theorem dX12_treesRead_98 : decode cX12_treesRead 98 = .ok (.getfield 47, 3) := by decide +kernel
theorem dX12_treesRead_101 : decode cX12_treesRead 101 = .ok (.aload_n 0, 1) := by decide +kernel
theorem dX12_treesRead_102 : decode cX12_treesRead 102 = .ok (.getfield 315, 3) := by decide +kernel
theorem dX12_treesRead_105 : decode cX12_treesRead 105 = .ok (.iaload, 1) := by decide +kernel
theorem dX12_treesRead_106 : decode cX12_treesRead 106 = .ok (.iconst 2, 1) := by decide +kernel
theorem dX12_treesRead_107 : decode cX12_treesRead 107 = .ok (.if_icmp .ne 27, 3) := by decide +kernel
theorem dX12_treesRead_110 : decode cX12_treesRead 110 = .ok (.aload_n 0, 1) := by decide +kernel
theorem dX12_treesRead_111 : decode cX12_treesRead 111 = .ok (.dup, 1) := by decide +kernel
theorem dX12_treesRead_112 : decode cX12_treesRead 112 = .ok (.getfield 315, 3) := by decide +kernel
theorem dX12_treesRead_115 : decode cX12_treesRead 115 = .ok (.iconst 1, 1) := by decide +kernel
theorem dX12_treesRead_116 : decode cX12_treesRead 116 = .ok (.iadd, 1) := by decide +kernel
theorem dX12_treesRead_117 : decode cX12_treesRead 117 = .ok (.putfield 315, 3) := by decide +kernel
theorem dX12_treesRead_120 : decode cX12_treesRead 120 = .ok (.aload_n 0, 1) := by decide +kernel
theorem dX12_treesRead_121 : decode cX12_treesRead 121 = .ok (.bipush 58, 2) := by decide +kernel
theorem dX12_treesRead_123 : decode cX12_treesRead 123 = .ok (.invokevirtual 331, 3) := by decide +kernel
theorem dX12_treesRead_126 : decode cX12_treesRead 126 = .ok (.aload_n 0, 1) := by decide +kernel
theorem dX12_treesRead_127 : decode cX12_treesRead 127 = .ok (.iconst 2, 1) := by decide +kernel
theorem dX12_treesRead_128 : decode cX12_treesRead 128 = .ok (.invokevirtual 328, 3) := by decide +kernel
theorem dX12_treesRead_131 : decode cX12_treesRead 131 = .ok (.goto (-41), 3) := by decide +kernel
theorem dX12_treesRead_134 : decode cX12_treesRead 134 = .ok (.aload_n 0, 1) := by decide +kernel
theorem dX12_treesRead_135 : decode cX12_treesRead 135 = .ok (.bipush 59, 2) := by decide +kernel
theorem dX12_treesRead_137 : decode cX12_treesRead 137 = .ok (.invokevirtual 331, 3) := by decide +kernel
theorem dX12_treesRead_140 : decode cX12_treesRead 140 = .ok (.iload_n 2, 1) := by decide +kernel
theorem dX12_treesRead_141 : decode cX12_treesRead 141 = .ok (.bipush 6, 2) := by decide +kernel
theorem dX12_treesRead_143 : decode cX12_treesRead 143 = .ok (.if_icmp .eq 6, 3) := by decide +kernel
theorem dX12_treesRead_146 : decode cX12_treesRead 146 = .ok (.iinc 1 (-1), 3) := by decide +kernel
theorem dX12_treesRead_149 : decode cX12_treesRead 149 = .ok (.goto (-147), 3) := by decide +kernel
theorem dX12_treesRead_152 : decode cX12_treesRead 152 = .ok (.return_, 1) := by decide +kernel
theorem dX12_wantAbove_0 : decode cX12_wantAbove 0 = .ok (.aload_n 0, 1) := by decide +kernel
theorem dX12_wantAbove_1 : decode cX12_wantAbove 1 = .ok (.getfield 270, 3) := by decide +kernel
theorem dX12_wantAbove_4 : decode cX12_wantAbove 4 = .ok (.ifCond .ne 37, 3) := by decide +kernel
theorem dX12_wantAbove_7 : decode cX12_wantAbove 7 = .ok (.aload_n 0, 1) := by decide +kernel
theorem dX12_wantAbove_8 : decode cX12_wantAbove 8 = .ok (.getfield 47, 3) := by decide +kernel
theorem dX12_wantAbove_11 : decode cX12_wantAbove 11 = .ok (.aload_n 0, 1) := by decide +kernel
theorem dX12_wantAbove_12 : decode cX12_wantAbove 12 = .ok (.getfield 315, 3) := by decide +kernel
theorem dX12_wantAbove_15 : decode cX12_wantAbove 15 = .ok (.iaload, 1) := by decide +kernel
theorem dX12_wantAbove_16 : decode cX12_wantAbove 16 = .ok (.iconst 2, 1) := by decide +kernel
theorem dX12_wantAbove_17 : decode cX12_wantAbove 17 = .ok (.if_icmp .ne 15, 3) := by decide +kernel
theorem dX12_wantAbove_20 : decode cX12_wantAbove 20 = .ok (.aload_n 0, 1) := by decide +kernel
theorem dX12_wantAbove_21 : decode cX12_wantAbove 21 = .ok (.getfield 56, 3) := by decide +kernel
theorem dX12_wantAbove_24 : decode cX12_wantAbove 24 = .ok (.aload_n 0, 1) := by decide +kernel
theorem dX12_wantAbove_25 : decode cX12_wantAbove 25 = .ok (.getfield 315, 3) := by decide +kernel
theorem dX12_wantAbove_28 : decode cX12_wantAbove 28 = .ok (.iaload, 1) := by decide +kernel
theorem dX12_wantAbove_29 : decode cX12_wantAbove 29 = .ok (.ifCond .gt 12, 3) := by decide +kernel
theorem dX12_wantAbove_32 : decode cX12_wantAbove 32 = .ok (.aload_n 0, 1) := by decide +kernel
theorem dX12_wantAbove_33 : decode cX12_wantAbove 33 = .ok (.iconst 1, 1) := by decide +kernel
theorem dX12_wantAbove_34 : decode cX12_wantAbove 34 = .ok (.aload_n 0, 1) := by decide +kernel
theorem dX12_wantAbove_35 : decode cX12_wantAbove 35 = .ok (.getfield 315, 3) := by decide +kernel
theorem dX12_wantAbove_38 : decode cX12_wantAbove 38 = .ok (.invokevirtual 321, 3) := by decide +kernel
theorem dX12_wantAbove_41 : decode cX12_wantAbove 41 = .ok (.aload_n 0, 1) := by decide +kernel
theorem dX12_wantAbove_42 : decode cX12_wantAbove 42 = .ok (.dup, 1) := by decide +kernel
theorem dX12_wantAbove_43 : decode cX12_wantAbove 43 = .ok (.getfield 315, 3) := by decide +kernel
theorem dX12_wantAbove_46 : decode cX12_wantAbove 46 = .ok (.iconst 1, 1) := by decide +kernel
theorem dX12_wantAbove_47 : decode cX12_wantAbove 47 = .ok (.iadd, 1) := by decide +kernel
theorem dX12_wantAbove_48 : decode cX12_wantAbove 48 = .ok (.putfield 315, 3) := by decide +kernel
theorem dX12_wantAbove_51 : decode cX12_wantAbove 51 = .ok (.return_, 1) := by decide +kernel
theorem w_184 : Cond.selects RX12 yX12_wantAbove yX12_wantAbove ∈ tb := sel_12 (q := (yX12_wantAbove, 105)) 8 (by decide +kernel)
theorem w_185 : Cond.selects RX12 yX12_pointRead yX12_pointRead ∈ tb := sel_12 (q := (yX12_pointRead, 105)) 9 (by decide +kernel)
theorem w_186 : Cond.selects RX12 yX12_treesRead yX12_treesRead ∈ tb := sel_12 (q := (yX12_treesRead, 105)) 10 (by decide +kernel)
theorem w_2725 : Cond.methodLink RX12 691 yX12_wantAbove ∈ tb := tbc_11 122 (by decide +kernel) rfl
theorem w_2727 : Cond.instanceMethod yX12_wantAbove ∈ tb := tbc_11 124 (by decide +kernel) rfl
theorem w_2728 : Cond.code yX12_wantAbove cX12_wantAbove 1 none ∈ tb := tbc_11 125 (by decide +kernel) rfl
theorem w_2729 : Cond.methodLink RX12 694 yX12_pointRead ∈ tb := tbc_11 126 (by decide +kernel) rfl
theorem w_2731 : Cond.instanceMethod yX12_pointRead ∈ tb := tbc_11 128 (by decide +kernel) rfl
theorem w_2732 : Cond.code yX12_pointRead cX12_pointRead 2 none ∈ tb := tbc_11 129 (by decide +kernel) rfl
theorem w_2733 : Cond.methodLink RX12 697 yX12_treesRead ∈ tb := tbc_11 130 (by decide +kernel) rfl
theorem w_2735 : Cond.instanceMethod yX12_treesRead ∈ tb := tbc_11 132 (by decide +kernel) rfl
theorem w_2736 : Cond.code yX12_treesRead cX12_treesRead 3 none ∈ tb := tbc_11 133 (by decide +kernel) rfl
section RW81
variable {p : Program} {l : Launch} {e : Env} {R : Room} {s : State} {m : MethodId} {args : Array Value} {below : List Frame} {meth : Method} {c : Code} {H : Heap} {locs : List Loc} {cells slots : Nat} {Q : State → Prop}
variable {cc : ByteArray} {pc nL : Nat} {ls : Array Slot} {rest st0 : List Value} {G : sG} {n : Nat} {S : sS}
theorem c_X12_691 (Cx : sC G p m c cc nL s args RX12) {rm : Room} {mc ms : Nat} (h1 : rm.cells = mc) (h2 : rm.slots = ms) (h3 : rm.frames + 1 ≤ R.frames ∧ 8 + (1 + 11) + rm.locals ≤ R.locals) : CallW R s args RX12 RX12 691 yX12_wantAbove cX12_wantAbove 1 none (.code yX12_wantAbove cX12_wantAbove 1 none :: tb) rm mc ms 0 :=
  sCw Cx 0 w_2725 w_2727 w_184 w_217 w_2728 (by decide +kernel) h1 h2 h3
theorem c_X12_694 (Cx : sC G p m c cc nL s args RX12) {rm : Room} {mc ms : Nat} (h1 : rm.cells = mc) (h2 : rm.slots = ms) (h3 : rm.frames + 1 ≤ R.frames ∧ 8 + (2 + 11) + rm.locals ≤ R.locals) : CallW R s args RX12 RX12 694 yX12_pointRead cX12_pointRead 2 none (.code yX12_pointRead cX12_pointRead 2 none :: tb) rm mc ms 0 :=
  sCw Cx 0 w_2729 w_2731 w_185 w_217 w_2732 (by decide +kernel) h1 h2 h3
theorem c_X12_697 (Cx : sC G p m c cc nL s args RX12) {rm : Room} {mc ms : Nat} (h1 : rm.cells = mc) (h2 : rm.slots = ms) (h3 : rm.frames + 1 ≤ R.frames ∧ 8 + (3 + 11) + rm.locals ≤ R.locals) : CallW R s args RX12 RX12 697 yX12_treesRead cX12_treesRead 3 none (.code yX12_treesRead cX12_treesRead 3 none :: tb) rm mc ms 0 :=
  sCw Cx 0 w_2733 w_2735 w_186 w_217 w_2736 (by decide +kernel) h1 h2 h3
end RW81
