theorem dX12_expression_0 : decode cX12_expression 0 = .ok (.aload_n 0, 1) := by decide +kernel
theorem dX12_expression_1 : decode cX12_expression 1 = .ok (.iload_n 1, 1) := by decide +kernel
theorem dX12_expression_2 : decode cX12_expression 2 = .ok (.invokevirtual 423, 3) := by decide +kernel
theorem dX12_expression_5 : decode cX12_expression 5 = .ok (.iload_n 1, 1) := by decide +kernel
theorem dX12_expression_6 : decode cX12_expression 6 = .ok (.bipush 12, 2) := by decide +kernel
theorem dX12_expression_8 : decode cX12_expression 8 = .ok (.iadd, 1) := by decide +kernel
theorem dX12_expression_9 : decode cX12_expression 9 = .ok (.iconst 1, 1) := by decide +kernel
theorem dX12_expression_10 : decode cX12_expression 10 = .ok (.iadd, 1) := by decide +kernel
theorem dX12_expression_11 : decode cX12_expression 11 = .ok (.istore_n 2, 1) := by decide +kernel
theorem dX12_expression_12 : decode cX12_expression 12 = .ok (.aload_n 0, 1) := by decide +kernel
theorem dX12_expression_13 : decode cX12_expression 13 = .ok (.getfield 270, 3) := by decide +kernel
theorem dX12_expression_16 : decode cX12_expression 16 = .ok (.ifCond .ne 127, 3) := by decide +kernel
theorem dX12_expression_19 : decode cX12_expression 19 = .ok (.aload_n 0, 1) := by decide +kernel
theorem dX12_expression_20 : decode cX12_expression 20 = .ok (.bipush 43, 2) := by decide +kernel
theorem dX12_expression_22 : decode cX12_expression 22 = .ok (.invokevirtual 318, 3) := by decide +kernel
theorem dX12_expression_25 : decode cX12_expression 25 = .ok (.ifCond .ne 12, 3) := by decide +kernel
theorem dX12_expression_28 : decode cX12_expression 28 = .ok (.aload_n 0, 1) := by decide +kernel
theorem dX12_expression_29 : decode cX12_expression 29 = .ok (.bipush 45, 2) := by decide +kernel
theorem dX12_expression_31 : decode cX12_expression 31 = .ok (.invokevirtual 318, 3) := by decide +kernel
theorem dX12_expression_34 : decode cX12_expression 34 = .ok (.ifCond .eq 109, 3) := by decide +kernel
theorem dX12_expression_37 : decode cX12_expression 37 = .ok (.aload_n 0, 1) := by decide +kernel
theorem dX12_expression_38 : decode cX12_expression 38 = .ok (.getfield 315, 3) := by decide +kernel
theorem dX12_expression_41 : decode cX12_expression 41 = .ok (.istore_n 3, 1) := by decide +kernel
theorem dX12_expression_42 : decode cX12_expression 42 = .ok (.aload_n 0, 1) := by decide +kernel
theorem dX12_expression_43 : decode cX12_expression 43 = .ok (.dup, 1) := by decide +kernel
theorem dX12_expression_44 : decode cX12_expression 44 = .ok (.getfield 315, 3) := by decide +kernel
theorem dX12_expression_47 : decode cX12_expression 47 = .ok (.iconst 1, 1) := by decide +kernel
theorem dX12_expression_48 : decode cX12_expression 48 = .ok (.iadd, 1) := by decide +kernel
theorem dX12_expression_49 : decode cX12_expression 49 = .ok (.putfield 315, 3) := by decide +kernel
theorem dX12_expression_52 : decode cX12_expression 52 = .ok (.aload_n 0, 1) := by decide +kernel
theorem dX12_expression_53 : decode cX12_expression 53 = .ok (.iload_n 2, 1) := by decide +kernel
theorem dX12_expression_54 : decode cX12_expression 54 = .ok (.invokevirtual 423, 3) := by decide +kernel
theorem dX12_expression_57 : decode cX12_expression 57 = .ok (.iconst 0, 1) := by decide +kernel
theorem dX12_expression_58 : decode cX12_expression 58 = .ok (.istore 4, 2) := by decide +kernel
theorem dX12_expression_60 : decode cX12_expression 60 = .ok (.iload 4, 2) := by decide +kernel
theorem dX12_expression_62 : decode cX12_expression 62 = .ok (.bipush 12, 2) := by decide +kernel
theorem dX12_expression_64 : decode cX12_expression 64 = .ok (.if_icmp .gt 54, 3) := by decide +kernel
theorem dX12_expression_67 : decode cX12_expression 67 = .ok (.aload_n 0, 1) := by decide +kernel
theorem dX12_expression_68 : decode cX12_expression 68 = .ok (.getfield 88, 3) := by decide +kernel
theorem dX12_expression_71 : decode cX12_expression 71 = .ok (.iload_n 1, 1) := by decide +kernel
theorem dX12_expression_72 : decode cX12_expression 72 = .ok (.iload 4, 2) := by decide +kernel
theorem dX12_expression_74 : decode cX12_expression 74 = .ok (.iadd, 1) := by decide +kernel
theorem dX12_expression_75 : decode cX12_expression 75 = .ok (.dup2, 1) := by decide +kernel
theorem dX12_expression_76 : decode cX12_expression 76 = .ok (.laload, 1) := by decide +kernel
theorem dX12_expression_77 : decode cX12_expression 77 = .ok (.aload_n 0, 1) := by decide +kernel
theorem dX12_expression_78 : decode cX12_expression 78 = .ok (.getfield 56, 3) := by decide +kernel
theorem dX12_expression_81 : decode cX12_expression 81 = .ok (.iload_n 3, 1) := by decide +kernel
theorem dX12_expression_82 : decode cX12_expression 82 = .ok (.iaload, 1) := by decide +kernel
theorem dX12_expression_83 : decode cX12_expression 83 = .ok (.bipush 43, 2) := by decide +kernel
theorem dX12_expression_85 : decode cX12_expression 85 = .ok (.if_icmp .ne 15, 3) := by decide +kernel
theorem dX12_expression_88 : decode cX12_expression 88 = .ok (.aload_n 0, 1) := by decide +kernel
theorem dX12_expression_89 : decode cX12_expression 89 = .ok (.getfield 88, 3) := by decide +kernel
theorem dX12_expression_92 : decode cX12_expression 92 = .ok (.iload_n 2, 1) := by decide +kernel
theorem dX12_expression_93 : decode cX12_expression 93 = .ok (.iload 4, 2) := by decide +kernel
theorem dX12_expression_95 : decode cX12_expression 95 = .ok (.iadd, 1) := by decide +kernel
theorem dX12_expression_96 : decode cX12_expression 96 = .ok (.laload, 1) := by decide +kernel
theorem dX12_expression_97 : decode cX12_expression 97 = .ok (.goto 13, 3) := by decide +kernel
theorem dX12_expression_100 : decode cX12_expression 100 = .ok (.aload_n 0, 1) := by decide +kernel
theorem dX12_expression_101 : decode cX12_expression 101 = .ok (.getfield 88, 3) := by decide +kernel
theorem dX12_expression_104 : decode cX12_expression 104 = .ok (.iload_n 2, 1) := by decide +kernel
theorem dX12_expression_105 : decode cX12_expression 105 = .ok (.iload 4, 2) := by decide +kernel
theorem dX12_expression_107 : decode cX12_expression 107 = .ok (.iadd, 1) := by decide +kernel
theorem dX12_expression_108 : decode cX12_expression 108 = .ok (.laload, 1) := by decide +kernel
theorem dX12_expression_109 : decode cX12_expression 109 = .ok (.lneg, 1) := by decide +kernel
theorem dX12_expression_110 : decode cX12_expression 110 = .ok (.ladd, 1) := by decide +kernel
theorem dX12_expression_111 : decode cX12_expression 111 = .ok (.lastore, 1) := by decide +kernel
theorem dX12_expression_112 : decode cX12_expression 112 = .ok (.iinc 4 1, 3) := by decide +kernel
theorem dX12_expression_115 : decode cX12_expression 115 = .ok (.goto (-55), 3) := by decide +kernel
theorem dX12_expression_118 : decode cX12_expression 118 = .ok (.aload_n 0, 1) := by decide +kernel
theorem dX12_expression_119 : decode cX12_expression 119 = .ok (.getfield 270, 3) := by decide +kernel
theorem dX12_expression_122 : decode cX12_expression 122 = .ok (.ifCond .ne 18, 3) := by decide +kernel
theorem dX12_expression_125 : decode cX12_expression 125 = .ok (.aload_n 0, 1) := by decide +kernel
theorem dX12_expression_126 : decode cX12_expression 126 = .ok (.iload_n 1, 1) := by decide +kernel
theorem dX12_expression_127 : decode cX12_expression 127 = .ok (.invokevirtual 416, 3) := by decide +kernel
theorem dX12_expression_130 : decode cX12_expression 130 = .ok (.ifCond .eq 10, 3) := by decide +kernel
theorem dX12_expression_133 : decode cX12_expression 133 = .ok (.aload_n 0, 1) := by decide +kernel
theorem dX12_expression_134 : decode cX12_expression 134 = .ok (.bipush 6, 2) := by decide +kernel
theorem dX12_expression_136 : decode cX12_expression 136 = .ok (.iload_n 3, 1) := by decide +kernel
theorem dX12_expression_137 : decode cX12_expression 137 = .ok (.invokevirtual 321, 3) := by decide +kernel
theorem dX12_expression_140 : decode cX12_expression 140 = .ok (.goto (-128), 3) := by decide +kernel
theorem dX12_expression_143 : decode cX12_expression 143 = .ok (.return_, 1) := by decide +kernel
theorem dX12_factor_0 : decode cX12_factor 0 = .ok (.aload_n 0, 1) := by decide +kernel
theorem dX12_factor_1 : decode cX12_factor 1 = .ok (.getfield 270, 3) := by decide +kernel
theorem dX12_factor_4 : decode cX12_factor 4 = .ok (.ifCond .eq 4, 3) := by decide +kernel
theorem dX12_factor_7 : decode cX12_factor 7 = .ok (.return_, 1) := by decide +kernel
theorem dX12_factor_8 : decode cX12_factor 8 = .ok (.aload_n 0, 1) := by decide +kernel
theorem dX12_factor_9 : decode cX12_factor 9 = .ok (.dup, 1) := by decide +kernel
theorem dX12_factor_10 : decode cX12_factor 10 = .ok (.getfield 376, 3) := by decide +kernel
theorem dX12_factor_13 : decode cX12_factor 13 = .ok (.iconst 1, 1) := by decide +kernel
theorem dX12_factor_14 : decode cX12_factor 14 = .ok (.iadd, 1) := by decide +kernel
theorem dX12_factor_15 : decode cX12_factor 15 = .ok (.putfield 376, 3) := by decide +kernel
theorem dX12_factor_18 : decode cX12_factor 18 = .ok (.aload_n 0, 1) := by decide +kernel
theorem dX12_factor_19 : decode cX12_factor 19 = .ok (.getfield 376, 3) := by decide +kernel
theorem dX12_factor_22 : decode cX12_factor 22 = .ok (.sipush 20000, 3) := by decide +kernel
theorem dX12_factor_25 : decode cX12_factor 25 = .ok (.if_icmp .le 14, 3) := by decide +kernel
theorem dX12_factor_28 : decode cX12_factor 28 = .ok (.aload_n 0, 1) := by decide +kernel
theorem dX12_factor_29 : decode cX12_factor 29 = .ok (.bipush 7, 2) := by decide +kernel
theorem dX12_factor_31 : decode cX12_factor 31 = .ok (.aload_n 0, 1) := by decide +kernel
theorem dX12_factor_32 : decode cX12_factor 32 = .ok (.getfield 315, 3) := by decide +kernel
theorem dX12_factor_35 : decode cX12_factor 35 = .ok (.invokevirtual 321, 3) := by decide +kernel
theorem dX12_factor_38 : decode cX12_factor 38 = .ok (.return_, 1) := by decide +kernel
theorem dX12_factor_39 : decode cX12_factor 39 = .ok (.aload_n 0, 1) := by decide +kernel
theorem dX12_factor_40 : decode cX12_factor 40 = .ok (.bipush 45, 2) := by decide +kernel
theorem dX12_factor_42 : decode cX12_factor 42 = .ok (.invokevirtual 318, 3) := by decide +kernel
theorem dX12_factor_45 : decode cX12_factor 45 = .ok (.ifCond .eq 52, 3) := by decide +kernel
theorem dX12_factor_48 : decode cX12_factor 48 = .ok (.aload_n 0, 1) := by decide +kernel
theorem dX12_factor_49 : decode cX12_factor 49 = .ok (.dup, 1) := by decide +kernel
theorem dX12_factor_50 : decode cX12_factor 50 = .ok (.getfield 315, 3) := by decide +kernel
theorem dX12_factor_53 : decode cX12_factor 53 = .ok (.iconst 1, 1) := by decide +kernel
theorem dX12_factor_54 : decode cX12_factor 54 = .ok (.iadd, 1) := by decide +kernel
theorem dX12_factor_55 : decode cX12_factor 55 = .ok (.putfield 315, 3) := by decide +kernel
theorem dX12_factor_58 : decode cX12_factor 58 = .ok (.aload_n 0, 1) := by decide +kernel
theorem dX12_factor_59 : decode cX12_factor 59 = .ok (.iload_n 1, 1) := by decide +kernel
theorem dX12_factor_60 : decode cX12_factor 60 = .ok (.invokevirtual 426, 3) := by decide +kernel
theorem dX12_factor_63 : decode cX12_factor 63 = .ok (.iconst 0, 1) := by decide +kernel
theorem dX12_factor_64 : decode cX12_factor 64 = .ok (.istore_n 2, 1) := by decide +kernel
theorem dX12_factor_65 : decode cX12_factor 65 = .ok (.iload_n 2, 1) := by decide +kernel
theorem dX12_factor_66 : decode cX12_factor 66 = .ok (.bipush 12, 2) := by decide +kernel
theorem dX12_factor_68 : decode cX12_factor 68 = .ok (.if_icmp .gt 26, 3) := by decide +kernel
theorem dX12_factor_71 : decode cX12_factor 71 = .ok (.aload_n 0, 1) := by decide +kernel
theorem dX12_factor_72 : decode cX12_factor 72 = .ok (.getfield 88, 3) := by decide +kernel
theorem dX12_factor_75 : decode cX12_factor 75 = .ok (.iload_n 1, 1) := by decide +kernel
theorem dX12_factor_76 : decode cX12_factor 76 = .ok (.iload_n 2, 1) := by decide +kernel
theorem dX12_factor_77 : decode cX12_factor 77 = .ok (.iadd, 1) := by decide +kernel
theorem dX12_factor_78 : decode cX12_factor 78 = .ok (.aload_n 0, 1) := by decide +kernel
theorem dX12_factor_79 : decode cX12_factor 79 = .ok (.getfield 88, 3) := by decide +kernel
theorem dX12_factor_82 : decode cX12_factor 82 = .ok (.iload_n 1, 1) := by decide +kernel
theorem dX12_factor_83 : decode cX12_factor 83 = .ok (.iload_n 2, 1) := by decide +kernel
theorem dX12_factor_84 : decode cX12_factor 84 = .ok (.iadd, 1) := by decide +kernel
theorem dX12_factor_85 : decode cX12_factor 85 = .ok (.laload, 1) := by decide +kernel
theorem dX12_factor_86 : decode cX12_factor 86 = .ok (.lneg, 1) := by decide +kernel
theorem dX12_factor_87 : decode cX12_factor 87 = .ok (.lastore, 1) := by decide +kernel
theorem dX12_factor_88 : decode cX12_factor 88 = .ok (.iinc 2 1, 3) := by decide +kernel
theorem dX12_factor_91 : decode cX12_factor 91 = .ok (.goto (-26), 3) := by decide +kernel
theorem dX12_factor_94 : decode cX12_factor 94 = .ok (.goto 103, 3) := by decide +kernel
theorem dX12_factor_97 : decode cX12_factor 97 = .ok (.aload_n 0, 1) := by decide +kernel
theorem dX12_factor_98 : decode cX12_factor 98 = .ok (.getfield 47, 3) := by decide +kernel
theorem dX12_factor_101 : decode cX12_factor 101 = .ok (.aload_n 0, 1) := by decide +kernel
theorem dX12_factor_102 : decode cX12_factor 102 = .ok (.getfield 315, 3) := by decide +kernel
theorem dX12_factor_105 : decode cX12_factor 105 = .ok (.iaload, 1) := by decide +kernel
theorem dX12_factor_106 : decode cX12_factor 106 = .ok (.iconst 2, 1) := by decide +kernel
theorem dX12_factor_107 : decode cX12_factor 107 = .ok (.if_icmp .ne 31, 3) := by decide +kernel
theorem dX12_factor_110 : decode cX12_factor 110 = .ok (.aload_n 0, 1) := by decide +kernel
theorem dX12_factor_111 : decode cX12_factor 111 = .ok (.iload_n 1, 1) := by decide +kernel
theorem dX12_factor_112 : decode cX12_factor 112 = .ok (.aload_n 0, 1) := by decide +kernel
theorem dX12_factor_113 : decode cX12_factor 113 = .ok (.getfield 56, 3) := by decide +kernel
theorem dX12_factor_116 : decode cX12_factor 116 = .ok (.aload_n 0, 1) := by decide +kernel
theorem dX12_factor_117 : decode cX12_factor 117 = .ok (.getfield 315, 3) := by decide +kernel
theorem dX12_factor_120 : decode cX12_factor 120 = .ok (.iaload, 1) := by decide +kernel
theorem dX12_factor_121 : decode cX12_factor 121 = .ok (.i2l, 1) := by decide +kernel
theorem dX12_factor_122 : decode cX12_factor 122 = .ok (.invokevirtual 431, 3) := by decide +kernel
theorem dX12_factor_125 : decode cX12_factor 125 = .ok (.aload_n 0, 1) := by decide +kernel
theorem dX12_factor_126 : decode cX12_factor 126 = .ok (.dup, 1) := by decide +kernel
theorem dX12_factor_127 : decode cX12_factor 127 = .ok (.getfield 315, 3) := by decide +kernel
theorem dX12_factor_130 : decode cX12_factor 130 = .ok (.iconst 1, 1) := by decide +kernel
theorem dX12_factor_131 : decode cX12_factor 131 = .ok (.iadd, 1) := by decide +kernel
theorem dX12_factor_132 : decode cX12_factor 132 = .ok (.putfield 315, 3) := by decide +kernel
theorem dX12_factor_135 : decode cX12_factor 135 = .ok (.goto 62, 3) := by decide +kernel
theorem dX12_factor_138 : decode cX12_factor 138 = .ok (.aload_n 0, 1) := by decide +kernel
theorem dX12_factor_139 : decode cX12_factor 139 = .ok (.bipush 40, 2) := by decide +kernel
theorem dX12_factor_141 : decode cX12_factor 141 = .ok (.invokevirtual 318, 3) := by decide +kernel
theorem dX12_factor_144 : decode cX12_factor 144 = .ok (.ifCond .eq 31, 3) := by decide +kernel
theorem dX12_factor_147 : decode cX12_factor 147 = .ok (.aload_n 0, 1) := by decide +kernel
theorem dX12_factor_148 : decode cX12_factor 148 = .ok (.dup, 1) := by decide +kernel
theorem dX12_factor_149 : decode cX12_factor 149 = .ok (.getfield 315, 3) := by decide +kernel
theorem dX12_factor_152 : decode cX12_factor 152 = .ok (.iconst 1, 1) := by decide +kernel
theorem dX12_factor_153 : decode cX12_factor 153 = .ok (.iadd, 1) := by decide +kernel
theorem dX12_factor_154 : decode cX12_factor 154 = .ok (.putfield 315, 3) := by decide +kernel
theorem dX12_factor_157 : decode cX12_factor 157 = .ok (.aload_n 0, 1) := by decide +kernel
theorem dX12_factor_158 : decode cX12_factor 158 = .ok (.iload_n 1, 1) := by decide +kernel
theorem dX12_factor_159 : decode cX12_factor 159 = .ok (.invokevirtual 398, 3) := by decide +kernel
theorem dX12_factor_162 : decode cX12_factor 162 = .ok (.aload_n 0, 1) := by decide +kernel
theorem dX12_factor_163 : decode cX12_factor 163 = .ok (.dup, 1) := by decide +kernel
theorem dX12_factor_164 : decode cX12_factor 164 = .ok (.getfield 315, 3) := by decide +kernel
theorem dX12_factor_167 : decode cX12_factor 167 = .ok (.iconst 1, 1) := by decide +kernel
theorem dX12_factor_168 : decode cX12_factor 168 = .ok (.iadd, 1) := by decide +kernel
theorem dX12_factor_169 : decode cX12_factor 169 = .ok (.putfield 315, 3) := by decide +kernel
theorem dX12_factor_172 : decode cX12_factor 172 = .ok (.goto 25, 3) := by decide +kernel
theorem dX12_factor_175 : decode cX12_factor 175 = .ok (.aload_n 0, 1) := by decide +kernel
theorem dX12_factor_176 : decode cX12_factor 176 = .ok (.bipush 7, 2) := by decide +kernel
theorem dX12_factor_178 : decode cX12_factor 178 = .ok (.invokevirtual 325, 3) := by decide +kernel
theorem dX12_factor_181 : decode cX12_factor 181 = .ok (.ifCond .eq 11, 3) := by decide +kernel
theorem dX12_factor_184 : decode cX12_factor 184 = .ok (.aload_n 0, 1) := by decide +kernel
theorem dX12_factor_185 : decode cX12_factor 185 = .ok (.iload_n 1, 1) := by decide +kernel
theorem dX12_factor_186 : decode cX12_factor 186 = .ok (.invokevirtual 435, 3) := by decide +kernel
theorem dX12_factor_189 : decode cX12_factor 189 = .ok (.goto 8, 3) := by decide +kernel
theorem dX12_factor_192 : decode cX12_factor 192 = .ok (.aload_n 0, 1) := by decide +kernel
theorem dX12_factor_193 : decode cX12_factor 193 = .ok (.iload_n 1, 1) := by decide +kernel
theorem dX12_factor_194 : decode cX12_factor 194 = .ok (.invokevirtual 438, 3) := by decide +kernel
theorem dX12_factor_197 : decode cX12_factor 197 = .ok (.return_, 1) := by decide +kernel
theorem dX12_product_0 : decode cX12_product 0 = .ok (.aload_n 0, 1) := by decide +kernel
theorem dX12_product_1 : decode cX12_product 1 = .ok (.iload_n 1, 1) := by decide +kernel
theorem dX12_product_2 : decode cX12_product 2 = .ok (.invokevirtual 426, 3) := by decide +kernel
theorem dX12_product_5 : decode cX12_product 5 = .ok (.iload_n 1, 1) := by decide +kernel
theorem dX12_product_6 : decode cX12_product 6 = .ok (.bipush 12, 2) := by decide +kernel
theorem dX12_product_8 : decode cX12_product 8 = .ok (.iadd, 1) := by decide +kernel
theorem dX12_product_9 : decode cX12_product 9 = .ok (.iconst 1, 1) := by decide +kernel
theorem dX12_product_10 : decode cX12_product 10 = .ok (.iadd, 1) := by decide +kernel
theorem dX12_product_11 : decode cX12_product 11 = .ok (.istore_n 2, 1) := by decide +kernel
theorem dX12_product_12 : decode cX12_product 12 = .ok (.aload_n 0, 1) := by decide +kernel
theorem dX12_product_13 : decode cX12_product 13 = .ok (.getfield 270, 3) := by decide +kernel
theorem dX12_product_16 : decode cX12_product 16 = .ok (.ifCond .ne 161, 3) := by decide +kernel
theorem dX12_product_19 : decode cX12_product 19 = .ok (.aload_n 0, 1) := by decide +kernel
theorem dX12_product_20 : decode cX12_product 20 = .ok (.bipush 42, 2) := by decide +kernel
theorem dX12_product_22 : decode cX12_product 22 = .ok (.invokevirtual 318, 3) := by decide +kernel
theorem dX12_product_25 : decode cX12_product 25 = .ok (.ifCond .eq 152, 3) := by decide +kernel
theorem dX12_product_28 : decode cX12_product 28 = .ok (.aload_n 0, 1) := by decide +kernel
theorem dX12_product_29 : decode cX12_product 29 = .ok (.getfield 315, 3) := by decide +kernel
theorem dX12_product_32 : decode cX12_product 32 = .ok (.istore_n 3, 1) := by decide +kernel
theorem dX12_product_33 : decode cX12_product 33 = .ok (.aload_n 0, 1) := by decide +kernel
theorem dX12_product_34 : decode cX12_product 34 = .ok (.dup, 1) := by decide +kernel
theorem dX12_product_35 : decode cX12_product 35 = .ok (.getfield 315, 3) := by decide +kernel
theorem dX12_product_38 : decode cX12_product 38 = .ok (.iconst 1, 1) := by decide +kernel
theorem dX12_product_39 : decode cX12_product 39 = .ok (.iadd, 1) := by decide +kernel
theorem dX12_product_40 : decode cX12_product 40 = .ok (.putfield 315, 3) := by decide +kernel
theorem dX12_product_43 : decode cX12_product 43 = .ok (.aload_n 0, 1) := by decide +kernel
theorem dX12_product_44 : decode cX12_product 44 = .ok (.iload_n 2, 1) := by decide +kernel
theorem dX12_product_45 : decode cX12_product 45 = .ok (.invokevirtual 426, 3) := by decide +kernel
theorem dX12_product_48 : decode cX12_product 48 = .ok (.aload_n 0, 1) := by decide +kernel
theorem dX12_product_49 : decode cX12_product 49 = .ok (.getfield 270, 3) := by decide +kernel
theorem dX12_product_52 : decode cX12_product 52 = .ok (.ifCond .eq 4, 3) := by decide +kernel
theorem dX12_product_55 : decode cX12_product 55 = .ok (.return_, 1) := by decide +kernel
theorem dX12_product_56 : decode cX12_product 56 = .ok (.aload_n 0, 1) := by decide +kernel
theorem dX12_product_57 : decode cX12_product 57 = .ok (.iload_n 1, 1) := by decide +kernel
theorem dX12_product_58 : decode cX12_product 58 = .ok (.invokevirtual 428, 3) := by decide +kernel
theorem dX12_product_61 : decode cX12_product 61 = .ok (.istore 4, 2) := by decide +kernel
theorem dX12_product_63 : decode cX12_product 63 = .ok (.iload 4, 2) := by decide +kernel
theorem dX12_product_65 : decode cX12_product 65 = .ok (.ifCond .eq 18, 3) := by decide +kernel
theorem dX12_product_68 : decode cX12_product 68 = .ok (.aload_n 0, 1) := by decide +kernel
theorem dX12_product_69 : decode cX12_product 69 = .ok (.iload_n 2, 1) := by decide +kernel
theorem dX12_product_70 : decode cX12_product 70 = .ok (.invokevirtual 428, 3) := by decide +kernel
theorem dX12_product_73 : decode cX12_product 73 = .ok (.ifCond .eq 10, 3) := by decide +kernel
theorem dX12_product_76 : decode cX12_product 76 = .ok (.aload_n 0, 1) := by decide +kernel
theorem dX12_product_77 : decode cX12_product 77 = .ok (.iconst 4, 1) := by decide +kernel
theorem dX12_product_78 : decode cX12_product 78 = .ok (.iload_n 3, 1) := by decide +kernel
theorem dX12_product_79 : decode cX12_product 79 = .ok (.invokevirtual 321, 3) := by decide +kernel
theorem dX12_product_82 : decode cX12_product 82 = .ok (.return_, 1) := by decide +kernel
theorem dX12_product_83 : decode cX12_product 83 = .ok (.iload 4, 2) := by decide +kernel
theorem dX12_product_85 : decode cX12_product 85 = .ok (.ifCond .eq 12, 3) := by decide +kernel
theorem dX12_product_88 : decode cX12_product 88 = .ok (.aload_n 0, 1) := by decide +kernel
theorem dX12_product_89 : decode cX12_product 89 = .ok (.getfield 88, 3) := by decide +kernel
theorem dX12_product_92 : decode cX12_product 92 = .ok (.iload_n 2, 1) := by decide +kernel
theorem dX12_product_93 : decode cX12_product 93 = .ok (.laload, 1) := by decide +kernel
theorem dX12_product_94 : decode cX12_product 94 = .ok (.goto 9, 3) := by decide +kernel
theorem dX12_product_97 : decode cX12_product 97 = .ok (.aload_n 0, 1) := by decide +kernel
theorem dX12_product_98 : decode cX12_product 98 = .ok (.getfield 88, 3) := by decide +kernel
theorem dX12_product_101 : decode cX12_product 101 = .ok (.iload_n 1, 1) := by decide +kernel
theorem dX12_product_102 : decode cX12_product 102 = .ok (.laload, 1) := by decide +kernel
theorem dX12_product_103 : decode cX12_product 103 = .ok (.lstore 5, 2) := by decide +kernel
theorem dX12_product_105 : decode cX12_product 105 = .ok (.iconst 0, 1) := by decide +kernel
theorem dX12_product_106 : decode cX12_product 106 = .ok (.istore 7, 2) := by decide +kernel
theorem dX12_product_108 : decode cX12_product 108 = .ok (.iload 7, 2) := by decide +kernel
theorem dX12_product_110 : decode cX12_product 110 = .ok (.bipush 12, 2) := by decide +kernel
theorem dX12_product_112 : decode cX12_product 112 = .ok (.if_icmp .gt 47, 3) := by decide +kernel
theorem dX12_product_115 : decode cX12_product 115 = .ok (.aload_n 0, 1) := by decide +kernel
theorem dX12_product_116 : decode cX12_product 116 = .ok (.getfield 88, 3) := by decide +kernel
theorem dX12_product_119 : decode cX12_product 119 = .ok (.iload_n 1, 1) := by decide +kernel
theorem dX12_product_120 : decode cX12_product 120 = .ok (.iload 7, 2) := by decide +kernel
theorem dX12_product_122 : decode cX12_product 122 = .ok (.iadd, 1) := by decide +kernel
theorem dX12_product_123 : decode cX12_product 123 = .ok (.lload 5, 2) := by decide +kernel
theorem dX12_product_125 : decode cX12_product 125 = .ok (.iload 4, 2) := by decide +kernel
theorem dX12_product_127 : decode cX12_product 127 = .ok (.ifCond .eq 15, 3) := by decide +kernel
theorem dX12_product_130 : decode cX12_product 130 = .ok (.aload_n 0, 1) := by decide +kernel
theorem dX12_product_131 : decode cX12_product 131 = .ok (.getfield 88, 3) := by decide +kernel
theorem dX12_product_134 : decode cX12_product 134 = .ok (.iload_n 1, 1) := by decide +kernel
theorem dX12_product_135 : decode cX12_product 135 = .ok (.iload 7, 2) := by decide +kernel
theorem dX12_product_137 : decode cX12_product 137 = .ok (.iadd, 1) := by decide +kernel
theorem dX12_product_138 : decode cX12_product 138 = .ok (.laload, 1) := by decide +kernel
theorem dX12_product_139 : decode cX12_product 139 = .ok (.goto 12, 3) := by decide +kernel
theorem dX12_product_142 : decode cX12_product 142 = .ok (.aload_n 0, 1) := by decide +kernel
theorem dX12_product_143 : decode cX12_product 143 = .ok (.getfield 88, 3) := by decide +kernel
theorem dX12_product_146 : decode cX12_product 146 = .ok (.iload_n 2, 1) := by decide +kernel
theorem dX12_product_147 : decode cX12_product 147 = .ok (.iload 7, 2) := by decide +kernel
theorem dX12_product_149 : decode cX12_product 149 = .ok (.iadd, 1) := by decide +kernel
theorem dX12_product_150 : decode cX12_product 150 = .ok (.laload, 1) := by decide +kernel
theorem dX12_product_151 : decode cX12_product 151 = .ok (.lmul, 1) := by decide +kernel
theorem dX12_product_152 : decode cX12_product 152 = .ok (.lastore, 1) := by decide +kernel
theorem dX12_product_153 : decode cX12_product 153 = .ok (.iinc 7 1, 3) := by decide +kernel
theorem dX12_product_156 : decode cX12_product 156 = .ok (.goto (-48), 3) := by decide +kernel
theorem dX12_product_159 : decode cX12_product 159 = .ok (.aload_n 0, 1) := by decide +kernel
theorem dX12_product_160 : decode cX12_product 160 = .ok (.iload_n 1, 1) := by decide +kernel
theorem dX12_product_161 : decode cX12_product 161 = .ok (.invokevirtual 416, 3) := by decide +kernel
theorem dX12_product_164 : decode cX12_product 164 = .ok (.ifCond .eq 10, 3) := by decide +kernel
theorem dX12_product_167 : decode cX12_product 167 = .ok (.aload_n 0, 1) := by decide +kernel
theorem dX12_product_168 : decode cX12_product 168 = .ok (.bipush 6, 2) := by decide +kernel
theorem dX12_product_170 : decode cX12_product 170 = .ok (.iload_n 3, 1) := by decide +kernel
theorem dX12_product_171 : decode cX12_product 171 = .ok (.invokevirtual 321, 3) := by decide +kernel
theorem dX12_product_174 : decode cX12_product 174 = .ok (.goto (-162), 3) := by decide +kernel
theorem dX12_product_177 : decode cX12_product 177 = .ok (.return_, 1) := by decide +kernel
theorem dX12_sum_0 : decode cX12_sum 0 = .ok (.aload_n 0, 1) := by decide +kernel
theorem dX12_sum_1 : decode cX12_sum 1 = .ok (.getfield 315, 3) := by decide +kernel
theorem dX12_sum_4 : decode cX12_sum 4 = .ok (.istore_n 2, 1) := by decide +kernel
theorem dX12_sum_5 : decode cX12_sum 5 = .ok (.aload_n 0, 1) := by decide +kernel
theorem dX12_sum_6 : decode cX12_sum 6 = .ok (.dup, 1) := by decide +kernel
theorem dX12_sum_7 : decode cX12_sum 7 = .ok (.getfield 315, 3) := by decide +kernel
theorem dX12_sum_10 : decode cX12_sum 10 = .ok (.iconst 1, 1) := by decide +kernel
theorem dX12_sum_11 : decode cX12_sum 11 = .ok (.iadd, 1) := by decide +kernel
theorem dX12_sum_12 : decode cX12_sum 12 = .ok (.putfield 315, 3) := by decide +kernel
theorem dX12_sum_15 : decode cX12_sum 15 = .ok (.aload_n 0, 1) := by decide +kernel
theorem dX12_sum_16 : decode cX12_sum 16 = .ok (.aload_n 0, 1) := by decide +kernel
theorem dX12_sum_17 : decode cX12_sum 17 = .ok (.getfield 315, 3) := by decide +kernel
theorem dX12_sum_20 : decode cX12_sum 20 = .ok (.iconst 5, 1) := by decide +kernel
theorem dX12_sum_21 : decode cX12_sum 21 = .ok (.invokevirtual 404, 3) := by decide +kernel
theorem dX12_sum_24 : decode cX12_sum 24 = .ok (.istore_n 3, 1) := by decide +kernel
theorem dX12_sum_25 : decode cX12_sum 25 = .ok (.aload_n 0, 1) := by decide +kernel
theorem dX12_sum_26 : decode cX12_sum 26 = .ok (.getfield 270, 3) := by decide +kernel
theorem dX12_sum_29 : decode cX12_sum 29 = .ok (.ifCond .eq 4, 3) := by decide +kernel
theorem dX12_sum_32 : decode cX12_sum 32 = .ok (.return_, 1) := by decide +kernel
theorem dX12_sum_33 : decode cX12_sum 33 = .ok (.aload_n 0, 1) := by decide +kernel
theorem dX12_sum_34 : decode cX12_sum 34 = .ok (.dup, 1) := by decide +kernel
theorem dX12_sum_35 : decode cX12_sum 35 = .ok (.getfield 315, 3) := by decide +kernel
theorem dX12_sum_38 : decode cX12_sum 38 = .ok (.iconst 2, 1) := by decide +kernel
theorem dX12_sum_39 : decode cX12_sum 39 = .ok (.iadd, 1) := by decide +kernel
theorem dX12_sum_40 : decode cX12_sum 40 = .ok (.putfield 315, 3) := by decide +kernel
theorem dX12_sum_43 : decode cX12_sum 43 = .ok (.aload_n 0, 1) := by decide +kernel
theorem dX12_sum_44 : decode cX12_sum 44 = .ok (.invokevirtual 364, 3) := by decide +kernel
theorem dX12_sum_47 : decode cX12_sum 47 = .ok (.istore 4, 2) := by decide +kernel
theorem dX12_sum_49 : decode cX12_sum 49 = .ok (.aload_n 0, 1) := by decide +kernel
theorem dX12_sum_50 : decode cX12_sum 50 = .ok (.getfield 270, 3) := by decide +kernel
theorem dX12_sum_53 : decode cX12_sum 53 = .ok (.ifCond .eq 4, 3) := by decide +kernel
theorem dX12_sum_56 : decode cX12_sum 56 = .ok (.return_, 1) := by decide +kernel
theorem dX12_sum_57 : decode cX12_sum 57 = .ok (.aload_n 0, 1) := by decide +kernel
theorem dX12_sum_58 : decode cX12_sum 58 = .ok (.dup, 1) := by decide +kernel
theorem dX12_sum_59 : decode cX12_sum 59 = .ok (.getfield 315, 3) := by decide +kernel
theorem dX12_sum_62 : decode cX12_sum 62 = .ok (.iconst 1, 1) := by decide +kernel
theorem dX12_sum_63 : decode cX12_sum 63 = .ok (.iadd, 1) := by decide +kernel
theorem dX12_sum_64 : decode cX12_sum 64 = .ok (.putfield 315, 3) := by decide +kernel
theorem dX12_sum_67 : decode cX12_sum 67 = .ok (.aload_n 0, 1) := by decide +kernel
theorem dX12_sum_68 : decode cX12_sum 68 = .ok (.getfield 315, 3) := by decide +kernel
theorem dX12_sum_71 : decode cX12_sum 71 = .ok (.istore 5, 2) := by decide +kernel
theorem dX12_sum_73 : decode cX12_sum 73 = .ok (.iload_n 1, 1) := by decide +kernel
theorem dX12_sum_74 : decode cX12_sum 74 = .ok (.bipush 12, 2) := by decide +kernel
theorem dX12_sum_76 : decode cX12_sum 76 = .ok (.iadd, 1) := by decide +kernel
theorem dX12_sum_77 : decode cX12_sum 77 = .ok (.iconst 1, 1) := by decide +kernel
theorem dX12_sum_78 : decode cX12_sum 78 = .ok (.iadd, 1) := by decide +kernel
theorem dX12_sum_79 : decode cX12_sum 79 = .ok (.istore 6, 2) := by decide +kernel
theorem dX12_sum_81 : decode cX12_sum 81 = .ok (.aload_n 0, 1) := by decide +kernel
theorem dX12_sum_82 : decode cX12_sum 82 = .ok (.iload_n 1, 1) := by decide +kernel
theorem dX12_sum_83 : decode cX12_sum 83 = .ok (.lconst 0, 1) := by decide +kernel
theorem dX12_sum_84 : decode cX12_sum 84 = .ok (.invokevirtual 431, 3) := by decide +kernel
theorem dX12_sum_87 : decode cX12_sum 87 = .ok (.aload_n 0, 1) := by decide +kernel
theorem dX12_sum_88 : decode cX12_sum 88 = .ok (.getfield 65, 3) := by decide +kernel
theorem dX12_sum_91 : decode cX12_sum 91 = .ok (.iload 4, 2) := by decide +kernel
theorem dX12_sum_93 : decode cX12_sum 93 = .ok (.iaload, 1) := by decide +kernel
theorem dX12_sum_94 : decode cX12_sum 94 = .ok (.istore 7, 2) := by decide +kernel
theorem dX12_sum_96 : decode cX12_sum 96 = .ok (.iload 7, 2) := by decide +kernel
theorem dX12_sum_98 : decode cX12_sum 98 = .ok (.aload_n 0, 1) := by decide +kernel
theorem dX12_sum_99 : decode cX12_sum 99 = .ok (.getfield 68, 3) := by decide +kernel
theorem dX12_sum_102 : decode cX12_sum 102 = .ok (.iload 4, 2) := by decide +kernel
theorem dX12_sum_104 : decode cX12_sum 104 = .ok (.iaload, 1) := by decide +kernel
theorem dX12_sum_105 : decode cX12_sum 105 = .ok (.if_icmp .gt 96, 3) := by decide +kernel
theorem dX12_sum_108 : decode cX12_sum 108 = .ok (.aload_n 0, 1) := by decide +kernel
theorem dX12_sum_109 : decode cX12_sum 109 = .ok (.getfield 270, 3) := by decide +kernel
theorem dX12_sum_112 : decode cX12_sum 112 = .ok (.ifCond .ne 89, 3) := by decide +kernel
theorem dX12_sum_115 : decode cX12_sum 115 = .ok (.aload_n 0, 1) := by decide +kernel
theorem dX12_sum_116 : decode cX12_sum 116 = .ok (.getfield 71, 3) := by decide +kernel
theorem dX12_sum_119 : decode cX12_sum 119 = .ok (.iload_n 3, 1) := by decide +kernel
theorem dX12_sum_120 : decode cX12_sum 120 = .ok (.iload 7, 2) := by decide +kernel
theorem dX12_sum_122 : decode cX12_sum 122 = .ok (.iastore, 1) := by decide +kernel
theorem dX12_sum_123 : decode cX12_sum 123 = .ok (.aload_n 0, 1) := by decide +kernel
theorem dX12_sum_124 : decode cX12_sum 124 = .ok (.iload 5, 2) := by decide +kernel
theorem dX12_sum_126 : decode cX12_sum 126 = .ok (.putfield 315, 3) := by decide +kernel
theorem dX12_sum_129 : decode cX12_sum 129 = .ok (.aload_n 0, 1) := by decide +kernel
theorem dX12_sum_130 : decode cX12_sum 130 = .ok (.iload 6, 2) := by decide +kernel
theorem dX12_sum_132 : decode cX12_sum 132 = .ok (.invokevirtual 398, 3) := by decide +kernel
theorem dX12_sum_135 : decode cX12_sum 135 = .ok (.iconst 0, 1) := by decide +kernel
theorem dX12_sum_136 : decode cX12_sum 136 = .ok (.istore 8, 2) := by decide +kernel
theorem dX12_sum_138 : decode cX12_sum 138 = .ok (.iload 8, 2) := by decide +kernel
theorem dX12_sum_140 : decode cX12_sum 140 = .ok (.bipush 12, 2) := by decide +kernel
theorem dX12_sum_142 : decode cX12_sum 142 = .ok (.if_icmp .gt 31, 3) := by decide +kernel
theorem dX12_sum_145 : decode cX12_sum 145 = .ok (.aload_n 0, 1) := by decide +kernel
theorem dX12_sum_146 : decode cX12_sum 146 = .ok (.getfield 88, 3) := by decide +kernel
theorem dX12_sum_149 : decode cX12_sum 149 = .ok (.iload_n 1, 1) := by decide +kernel
theorem dX12_sum_150 : decode cX12_sum 150 = .ok (.iload 8, 2) := by decide +kernel
theorem dX12_sum_152 : decode cX12_sum 152 = .ok (.iadd, 1) := by decide +kernel
theorem dX12_sum_153 : decode cX12_sum 153 = .ok (.dup2, 1) := by decide +kernel
theorem dX12_sum_154 : decode cX12_sum 154 = .ok (.laload, 1) := by decide +kernel
theorem dX12_sum_155 : decode cX12_sum 155 = .ok (.aload_n 0, 1) := by decide +kernel
theorem dX12_sum_156 : decode cX12_sum 156 = .ok (.getfield 88, 3) := by decide +kernel
theorem dX12_sum_159 : decode cX12_sum 159 = .ok (.iload 6, 2) := by decide +kernel
theorem dX12_sum_161 : decode cX12_sum 161 = .ok (.iload 8, 2) := by decide +kernel
theorem dX12_sum_163 : decode cX12_sum 163 = .ok (.iadd, 1) := by decide +kernel
theorem dX12_sum_164 : decode cX12_sum 164 = .ok (.laload, 1) := by decide +kernel
theorem dX12_sum_165 : decode cX12_sum 165 = .ok (.ladd, 1) := by decide +kernel
theorem dX12_sum_166 : decode cX12_sum 166 = .ok (.lastore, 1) := by decide +kernel
theorem dX12_sum_167 : decode cX12_sum 167 = .ok (.iinc 8 1, 3) := by decide +kernel
theorem dX12_sum_170 : decode cX12_sum 170 = .ok (.goto (-32), 3) := by decide +kernel
theorem dX12_sum_173 : decode cX12_sum 173 = .ok (.aload_n 0, 1) := by decide +kernel
theorem dX12_sum_174 : decode cX12_sum 174 = .ok (.getfield 270, 3) := by decide +kernel
theorem dX12_sum_177 : decode cX12_sum 177 = .ok (.ifCond .ne 18, 3) := by decide +kernel
theorem dX12_sum_180 : decode cX12_sum 180 = .ok (.aload_n 0, 1) := by decide +kernel
theorem dX12_sum_181 : decode cX12_sum 181 = .ok (.iload_n 1, 1) := by decide +kernel
theorem dX12_sum_182 : decode cX12_sum 182 = .ok (.invokevirtual 416, 3) := by decide +kernel
theorem dX12_sum_185 : decode cX12_sum 185 = .ok (.ifCond .eq 10, 3) := by decide +kernel
theorem dX12_sum_188 : decode cX12_sum 188 = .ok (.aload_n 0, 1) := by decide +kernel
theorem dX12_sum_189 : decode cX12_sum 189 = .ok (.bipush 6, 2) := by decide +kernel
theorem dX12_sum_191 : decode cX12_sum 191 = .ok (.iload_n 2, 1) := by decide +kernel
theorem dX12_sum_192 : decode cX12_sum 192 = .ok (.invokevirtual 321, 3) := by decide +kernel
theorem dX12_sum_195 : decode cX12_sum 195 = .ok (.iinc 7 1, 3) := by decide +kernel
theorem dX12_sum_198 : decode cX12_sum 198 = .ok (.goto (-102), 3) := by decide +kernel
theorem dX12_sum_201 : decode cX12_sum 201 = .ok (.aload_n 0, 1) := by decide +kernel
theorem dX12_sum_202 : decode cX12_sum 202 = .ok (.dup, 1) := by decide +kernel
theorem dX12_sum_203 : decode cX12_sum 203 = .ok (.getfield 358, 3) := by decide +kernel
theorem dX12_sum_206 : decode cX12_sum 206 = .ok (.iconst 1, 1) := by decide +kernel
theorem dX12_sum_207 : decode cX12_sum 207 = .ok (.isub, 1) := by decide +kernel
theorem dX12_sum_208 : decode cX12_sum 208 = .ok (.putfield 358, 3) := by decide +kernel
theorem dX12_sum_211 : decode cX12_sum 211 = .ok (.aload_n 0, 1) := by decide +kernel
theorem dX12_sum_212 : decode cX12_sum 212 = .ok (.dup, 1) := by decide +kernel
theorem dX12_sum_213 : decode cX12_sum 213 = .ok (.getfield 315, 3) := by decide +kernel
theorem dX12_sum_216 : decode cX12_sum 216 = .ok (.iconst 1, 1) := by decide +kernel
theorem dX12_sum_217 : decode cX12_sum 217 = .ok (.iadd, 1) := by decide +kernel
theorem dX12_sum_218 : decode cX12_sum 218 = .ok (.putfield 315, 3) := by decide +kernel
theorem dX12_sum_221 : decode cX12_sum 221 = .ok (.return_, 1) := by decide +kernel
theorem w_125 : Cond.selects RX12 yX12_add_ yX12_add_ ∈ tb := sel_8 (q := (yX12_add_, 105)) 13 (by decide +kernel)
theorem w_129 : Cond.selects RX12 yX12_setHere yX12_setHere ∈ tb := sel_9 (q := (yX12_setHere, 105)) 1 (by decide +kernel)
theorem w_132 : Cond.selects RX12 yX12_expression yX12_expression ∈ tb := sel_9 (q := (yX12_expression, 105)) 4 (by decide +kernel)
theorem w_133 : Cond.selects RX12 yX12_product yX12_product ∈ tb := sel_9 (q := (yX12_product, 105)) 5 (by decide +kernel)
theorem w_134 : Cond.selects RX12 yX12_factor yX12_factor ∈ tb := sel_9 (q := (yX12_factor, 105)) 6 (by decide +kernel)
theorem w_136 : Cond.selects RX12 yX12_sum yX12_sum ∈ tb := sel_9 (q := (yX12_sum, 105)) 8 (by decide +kernel)
theorem w_137 : Cond.selects RX12 yX12_isGreat yX12_isGreat ∈ tb := sel_9 (q := (yX12_isGreat, 105)) 9 (by decide +kernel)
theorem w_138 : Cond.selects RX12 yX12_named yX12_named ∈ tb := sel_9 (q := (yX12_named, 105)) 10 (by decide +kernel)
theorem w_140 : Cond.selects RX12 yX12_hasVariables yX12_hasVariables ∈ tb := sel_9 (q := (yX12_hasVariables, 105)) 12 (by decide +kernel)
theorem w_2003 : Cond.fieldLink RX12 376 (TX12 42).1 (TX12 42).2.1 (TX12 42).2.2.1 ∈ tb := tbc_8 120 (by decide +kernel) rfl
theorem w_2386 : Cond.methodLink RX12 404 yX12_add_ ∈ tb := tbc_10 23 (by decide +kernel) rfl
theorem w_2388 : Cond.instanceMethod yX12_add_ ∈ tb := tbc_10 25 (by decide +kernel) rfl
theorem w_2389 : Cond.code yX12_add_ cX12_add_ 3 (some .int) ∈ tb := tbc_10 26 (by decide +kernel) rfl
theorem w_2402 : Cond.methodLink RX12 364 yX12_setHere ∈ tb := tbc_10 39 (by decide +kernel) rfl
theorem w_2404 : Cond.instanceMethod yX12_setHere ∈ tb := tbc_10 41 (by decide +kernel) rfl
theorem w_2405 : Cond.code yX12_setHere cX12_setHere 2 (some .int) ∈ tb := tbc_10 42 (by decide +kernel) rfl
theorem w_2414 : Cond.methodLink RX12 398 yX12_expression ∈ tb := tbc_10 51 (by decide +kernel) rfl
theorem w_2416 : Cond.instanceMethod yX12_expression ∈ tb := tbc_10 53 (by decide +kernel) rfl
theorem w_2417 : Cond.code yX12_expression cX12_expression 5 none ∈ tb := tbc_10 54 (by decide +kernel) rfl
theorem w_2418 : Cond.methodLink RX12 423 yX12_product ∈ tb := tbc_10 55 (by decide +kernel) rfl
theorem w_2420 : Cond.instanceMethod yX12_product ∈ tb := tbc_10 57 (by decide +kernel) rfl
theorem w_2421 : Cond.code yX12_product cX12_product 8 none ∈ tb := tbc_10 58 (by decide +kernel) rfl
theorem w_2422 : Cond.methodLink RX12 426 yX12_factor ∈ tb := tbc_10 59 (by decide +kernel) rfl
theorem w_2424 : Cond.instanceMethod yX12_factor ∈ tb := tbc_10 61 (by decide +kernel) rfl
theorem w_2425 : Cond.code yX12_factor cX12_factor 3 none ∈ tb := tbc_10 62 (by decide +kernel) rfl
theorem w_2430 : Cond.methodLink RX12 435 yX12_sum ∈ tb := tbc_10 67 (by decide +kernel) rfl
theorem w_2432 : Cond.instanceMethod yX12_sum ∈ tb := tbc_10 69 (by decide +kernel) rfl
theorem w_2433 : Cond.code yX12_sum cX12_sum 9 none ∈ tb := tbc_10 70 (by decide +kernel) rfl
theorem w_2434 : Cond.methodLink RX12 416 yX12_isGreat ∈ tb := tbc_10 71 (by decide +kernel) rfl
theorem w_2436 : Cond.instanceMethod yX12_isGreat ∈ tb := tbc_10 73 (by decide +kernel) rfl
theorem w_2437 : Cond.code yX12_isGreat cX12_isGreat 3 (some .boolean) ∈ tb := tbc_10 74 (by decide +kernel) rfl
theorem w_2440 : Cond.methodLink RX12 438 yX12_named ∈ tb := tbc_10 77 (by decide +kernel) rfl
theorem w_2442 : Cond.instanceMethod yX12_named ∈ tb := tbc_10 79 (by decide +kernel) rfl
theorem w_2443 : Cond.code yX12_named cX12_named 10 none ∈ tb := tbc_10 80 (by decide +kernel) rfl
theorem w_2448 : Cond.methodLink RX12 428 yX12_hasVariables ∈ tb := tbc_10 85 (by decide +kernel) rfl
theorem w_2450 : Cond.instanceMethod yX12_hasVariables ∈ tb := tbc_10 87 (by decide +kernel) rfl
theorem w_2451 : Cond.code yX12_hasVariables cX12_hasVariables 3 (some .boolean) ∈ tb := tbc_10 88 (by decide +kernel) rfl
section RW75
variable {p : Program} {l : Launch} {e : Env} {R : Room} {s : State} {m : MethodId} {args : Array Value} {below : List Frame} {meth : Method} {c : Code} {H : Heap} {locs : List Loc} {cells slots : Nat} {Q : State → Prop}
variable {cc : ByteArray} {pc nL : Nat} {ls : Array Slot} {rest st0 : List Value} {G : sG} {n : Nat} {S : sS}
theorem c_X12_404 (Cx : sC G p m c cc nL s args RX12) {rm : Room} {mc ms : Nat} (h1 : rm.cells = mc) (h2 : rm.slots = ms) (h3 : rm.frames + 1 ≤ R.frames ∧ 8 + (3 + 11) + rm.locals ≤ R.locals) : CallW R s args RX12 RX12 404 yX12_add_ cX12_add_ 3 (some .int) (.code yX12_add_ cX12_add_ 3 (some .int) :: tb) rm mc ms 2 :=
  sCw Cx 2 w_2386 w_2388 w_125 w_217 w_2389 (by decide +kernel) h1 h2 h3
theorem c_X12_364 (Cx : sC G p m c cc nL s args RX12) {rm : Room} {mc ms : Nat} (h1 : rm.cells = mc) (h2 : rm.slots = ms) (h3 : rm.frames + 1 ≤ R.frames ∧ 8 + (2 + 11) + rm.locals ≤ R.locals) : CallW R s args RX12 RX12 364 yX12_setHere cX12_setHere 2 (some .int) (.code yX12_setHere cX12_setHere 2 (some .int) :: tb) rm mc ms 0 :=
  sCw Cx 0 w_2402 w_2404 w_129 w_217 w_2405 (by decide +kernel) h1 h2 h3
theorem c_X12_398 (Cx : sC G p m c cc nL s args RX12) {rm : Room} {mc ms : Nat} (h1 : rm.cells = mc) (h2 : rm.slots = ms) (h3 : rm.frames + 1 ≤ R.frames ∧ 8 + (5 + 11) + rm.locals ≤ R.locals) : CallW R s args RX12 RX12 398 yX12_expression cX12_expression 5 none (.code yX12_expression cX12_expression 5 none :: tb) rm mc ms 1 :=
  sCw Cx 1 w_2414 w_2416 w_132 w_217 w_2417 (by decide +kernel) h1 h2 h3
theorem c_X12_416 (Cx : sC G p m c cc nL s args RX12) {rm : Room} {mc ms : Nat} (h1 : rm.cells = mc) (h2 : rm.slots = ms) (h3 : rm.frames + 1 ≤ R.frames ∧ 8 + (3 + 11) + rm.locals ≤ R.locals) : CallW R s args RX12 RX12 416 yX12_isGreat cX12_isGreat 3 (some .boolean) (.code yX12_isGreat cX12_isGreat 3 (some .boolean) :: tb) rm mc ms 1 :=
  sCw Cx 1 w_2434 w_2436 w_137 w_217 w_2437 (by decide +kernel) h1 h2 h3
theorem g_X12_376 (Cx : sC G p m c cc nL s args RX12) (hW : sW G n S H) {k : Nat} (hk : k < n) (ht : tau k = .inl 12) {v : Int} (hv : S.1 k 42 = v) (hdg : decode cc pc = .ok (.getfield 376, 3)) (kk : W p l e R s m args below meth c H locs cells slots Q (F0 m (pc + 3) ls (.int (iv v) :: rest))) : W p l e R s m args below meth c H locs cells slots Q (F0 m pc ls (.ref (G.2.2.1 + k) :: rest)) :=
  sGet Cx inX12 rfl 42 (by decide) w_2003 hW hk ht (congrArg (fun z => Value.int (iv z)) hv) hdg kk
theorem p_X12_376 (Cx : sC G p m c cc nL s args RX12) (hW : sW G n S H) (hL : sL G locs) {k : Nat} (hk : k < n) (ht : tau k = .inl 12) {v : Int} (hdg : decode cc pc = .ok (.putfield 376, 3)) (kk : ∀ (H1 : Heap) (locs1 : List Loc), sW G n (uF S k 42 v) H1 → sL G locs1 → W p l e R s m args below meth c H1 locs1 cells slots Q (F0 m (pc + 3) ls rest)) : W p l e R s m args below meth c H locs cells slots Q (F0 m pc ls (.int (iv v) :: .ref (G.2.2.1 + k) :: rest)) :=
  sPut Cx inX12 tyX12 tyX12_ok nmX12 rfl 42 (by decide) w_2003 rfl hW hL hk ht rfl rfl (fun _ h => uF_same h) (fun _ h => uF_off h) (congrArg (fun z => Value.int (iv z)) uF_on) hdg kk
theorem c_X12_438 (Cx : sC G p m c cc nL s args RX12) {rm : Room} {mc ms : Nat} (h1 : rm.cells = mc) (h2 : rm.slots = ms) (h3 : rm.frames + 1 ≤ R.frames ∧ 8 + (10 + 11) + rm.locals ≤ R.locals) : CallW R s args RX12 RX12 438 yX12_named cX12_named 10 none (.code yX12_named cX12_named 10 none :: tb) rm mc ms 1 :=
  sCw Cx 1 w_2440 w_2442 w_138 w_217 w_2443 (by decide +kernel) h1 h2 h3
theorem c_X12_435 (Cx : sC G p m c cc nL s args RX12) {rm : Room} {mc ms : Nat} (h1 : rm.cells = mc) (h2 : rm.slots = ms) (h3 : rm.frames + 1 ≤ R.frames ∧ 8 + (9 + 11) + rm.locals ≤ R.locals) : CallW R s args RX12 RX12 435 yX12_sum cX12_sum 9 none (.code yX12_sum cX12_sum 9 none :: tb) rm mc ms 1 :=
  sCw Cx 1 w_2430 w_2432 w_136 w_217 w_2433 (by decide +kernel) h1 h2 h3
theorem c_X12_426 (Cx : sC G p m c cc nL s args RX12) {rm : Room} {mc ms : Nat} (h1 : rm.cells = mc) (h2 : rm.slots = ms) (h3 : rm.frames + 1 ≤ R.frames ∧ 8 + (3 + 11) + rm.locals ≤ R.locals) : CallW R s args RX12 RX12 426 yX12_factor cX12_factor 3 none (.code yX12_factor cX12_factor 3 none :: tb) rm mc ms 1 :=
  sCw Cx 1 w_2422 w_2424 w_134 w_217 w_2425 (by decide +kernel) h1 h2 h3
theorem c_X12_428 (Cx : sC G p m c cc nL s args RX12) {rm : Room} {mc ms : Nat} (h1 : rm.cells = mc) (h2 : rm.slots = ms) (h3 : rm.frames + 1 ≤ R.frames ∧ 8 + (3 + 11) + rm.locals ≤ R.locals) : CallW R s args RX12 RX12 428 yX12_hasVariables cX12_hasVariables 3 (some .boolean) (.code yX12_hasVariables cX12_hasVariables 3 (some .boolean) :: tb) rm mc ms 1 :=
  sCw Cx 1 w_2448 w_2450 w_140 w_217 w_2451 (by decide +kernel) h1 h2 h3
theorem c_X12_423 (Cx : sC G p m c cc nL s args RX12) {rm : Room} {mc ms : Nat} (h1 : rm.cells = mc) (h2 : rm.slots = ms) (h3 : rm.frames + 1 ≤ R.frames ∧ 8 + (8 + 11) + rm.locals ≤ R.locals) : CallW R s args RX12 RX12 423 yX12_product cX12_product 8 none (.code yX12_product cX12_product 8 none :: tb) rm mc ms 1 :=
  sCw Cx 1 w_2418 w_2420 w_133 w_217 w_2421 (by decide +kernel) h1 h2 h3
end RW75
