theorem dX9_expression_0 : decode cX9_expression 0 = .ok (.iload_n 1, 1) := by decide +kernel
theorem dX9_expression_1 : decode cX9_expression 1 = .ok (.bipush 30, 2) := by decide +kernel
theorem dX9_expression_3 : decode cX9_expression 3 = .ok (.if_icmp .lt 13, 3) := by decide +kernel
theorem dX9_expression_6 : decode cX9_expression 6 = .ok (.aload_n 0, 1) := by decide +kernel
theorem dX9_expression_7 : decode cX9_expression 7 = .ok (.iconst 1, 1) := by decide +kernel
theorem dX9_expression_8 : decode cX9_expression 8 = .ok (.aload_n 0, 1) := by decide +kernel
theorem dX9_expression_9 : decode cX9_expression 9 = .ok (.getfield 89, 3) := by decide +kernel
theorem dX9_expression_12 : decode cX9_expression 12 = .ok (.invokevirtual 132, 3) := by decide +kernel
theorem dX9_expression_15 : decode cX9_expression 15 = .ok (.ireturn, 1) := by decide +kernel
theorem dX9_expression_16 : decode cX9_expression 16 = .ok (.aload_n 0, 1) := by decide +kernel
theorem dX9_expression_17 : decode cX9_expression 17 = .ok (.iload_n 1, 1) := by decide +kernel
theorem dX9_expression_18 : decode cX9_expression 18 = .ok (.invokevirtual 208, 3) := by decide +kernel
theorem dX9_expression_21 : decode cX9_expression 21 = .ok (.ifCond .ne 5, 3) := by decide +kernel
theorem dX9_expression_24 : decode cX9_expression 24 = .ok (.iconst 0, 1) := by decide +kernel
theorem dX9_expression_25 : decode cX9_expression 25 = .ok (.ireturn, 1) := by decide +kernel
theorem dX9_expression_26 : decode cX9_expression 26 = .ok (.aload_n 0, 1) := by decide +kernel
theorem dX9_expression_27 : decode cX9_expression 27 = .ok (.getfield 31, 3) := by decide +kernel
theorem dX9_expression_30 : decode cX9_expression 30 = .ok (.iload_n 1, 1) := by decide +kernel
theorem dX9_expression_31 : decode cX9_expression 31 = .ok (.aaload, 1) := by decide +kernel
theorem dX9_expression_32 : decode cX9_expression 32 = .ok (.astore_n 2, 1) := by decide +kernel
theorem dX9_expression_33 : decode cX9_expression 33 = .ok (.aload_n 0, 1) := by decide +kernel
theorem dX9_expression_34 : decode cX9_expression 34 = .ok (.getfield 34, 3) := by decide +kernel
theorem dX9_expression_37 : decode cX9_expression 37 = .ok (.iload_n 1, 1) := by decide +kernel
theorem dX9_expression_38 : decode cX9_expression 38 = .ok (.aaload, 1) := by decide +kernel
theorem dX9_expression_39 : decode cX9_expression 39 = .ok (.iconst 0, 1) := by decide +kernel
theorem dX9_expression_40 : decode cX9_expression 40 = .ok (.aload_n 2, 1) := by decide +kernel
theorem dX9_expression_41 : decode cX9_expression 41 = .ok (.iconst 0, 1) := by decide +kernel
theorem dX9_expression_42 : decode cX9_expression 42 = .ok (.bipush 13, 2) := by decide +kernel
theorem dX9_expression_44 : decode cX9_expression 44 = .ok (.invokestatic 179, 3) := by decide +kernel
theorem dX9_expression_47 : decode cX9_expression 47 = .ok (.iconst 0, 1) := by decide +kernel
theorem dX9_expression_48 : decode cX9_expression 48 = .ok (.istore_n 3, 1) := by decide +kernel
theorem dX9_expression_49 : decode cX9_expression 49 = .ok (.iload_n 3, 1) := by decide +kernel
theorem dX9_expression_50 : decode cX9_expression 50 = .ok (.aload_n 0, 1) := by decide +kernel
theorem dX9_expression_51 : decode cX9_expression 51 = .ok (.getfield 14, 3) := by decide +kernel
theorem dX9_expression_54 : decode cX9_expression 54 = .ok (.invokevirtual 92, 3) := by decide +kernel
theorem dX9_expression_57 : decode cX9_expression 57 = .ok (.if_icmp .ge 100, 3) := by decide +kernel
theorem dX9_expression_60 : decode cX9_expression 60 = .ok (.aload_n 0, 1) := by decide +kernel
theorem dX9_expression_61 : decode cX9_expression 61 = .ok (.getfield 89, 3) := by decide +kernel
theorem dX9_expression_64 : decode cX9_expression 64 = .ok (.istore 4, 2) := by decide +kernel
theorem dX9_expression_66 : decode cX9_expression 66 = .ok (.aload_n 0, 1) := by decide +kernel
theorem dX9_expression_67 : decode cX9_expression 67 = .ok (.getfield 14, 3) := by decide +kernel
theorem dX9_expression_70 : decode cX9_expression 70 = .ok (.iload 4, 2) := by decide +kernel
theorem dX9_expression_72 : decode cX9_expression 72 = .ok (.invokevirtual 95, 3) := by decide +kernel
theorem dX9_expression_75 : decode cX9_expression 75 = .ok (.istore 5, 2) := by decide +kernel
theorem dX9_expression_77 : decode cX9_expression 77 = .ok (.iload 5, 2) := by decide +kernel
theorem dX9_expression_79 : decode cX9_expression 79 = .ok (.bipush 21, 2) := by decide +kernel
theorem dX9_expression_81 : decode cX9_expression 81 = .ok (.if_icmp .eq 12, 3) := by decide +kernel
theorem dX9_expression_84 : decode cX9_expression 84 = .ok (.iload 5, 2) := by decide +kernel
theorem dX9_expression_86 : decode cX9_expression 86 = .ok (.bipush 22, 2) := by decide +kernel
theorem dX9_expression_88 : decode cX9_expression 88 = .ok (.if_icmp .eq 5, 3) := by decide +kernel
theorem dX9_expression_91 : decode cX9_expression 91 = .ok (.iconst 1, 1) := by decide +kernel
theorem dX9_expression_92 : decode cX9_expression 92 = .ok (.ireturn, 1) := by decide +kernel
theorem dX9_expression_93 : decode cX9_expression 93 = .ok (.aload_n 0, 1) := by decide +kernel
theorem dX9_expression_94 : decode cX9_expression 94 = .ok (.dup, 1) := by decide +kernel
theorem dX9_expression_95 : decode cX9_expression 95 = .ok (.getfield 89, 3) := by decide +kernel
theorem dX9_expression_98 : decode cX9_expression 98 = .ok (.iconst 1, 1) := by decide +kernel
theorem dX9_expression_99 : decode cX9_expression 99 = .ok (.iadd, 1) := by decide +kernel
theorem dX9_expression_100 : decode cX9_expression 100 = .ok (.putfield 89, 3) := by decide +kernel
theorem dX9_expression_103 : decode cX9_expression 103 = .ok (.aload_n 0, 1) := by decide +kernel
theorem dX9_expression_104 : decode cX9_expression 104 = .ok (.iload_n 1, 1) := by decide +kernel
theorem dX9_expression_105 : decode cX9_expression 105 = .ok (.invokevirtual 208, 3) := by decide +kernel
theorem dX9_expression_108 : decode cX9_expression 108 = .ok (.ifCond .ne 5, 3) := by decide +kernel
theorem dX9_expression_111 : decode cX9_expression 111 = .ok (.iconst 0, 1) := by decide +kernel
theorem dX9_expression_112 : decode cX9_expression 112 = .ok (.ireturn, 1) := by decide +kernel
theorem dX9_expression_113 : decode cX9_expression 113 = .ok (.aload_n 2, 1) := by decide +kernel
theorem dX9_expression_114 : decode cX9_expression 114 = .ok (.aload_n 0, 1) := by decide +kernel
theorem dX9_expression_115 : decode cX9_expression 115 = .ok (.getfield 34, 3) := by decide +kernel
theorem dX9_expression_118 : decode cX9_expression 118 = .ok (.iload_n 1, 1) := by decide +kernel
theorem dX9_expression_119 : decode cX9_expression 119 = .ok (.aaload, 1) := by decide +kernel
theorem dX9_expression_120 : decode cX9_expression 120 = .ok (.iload 5, 2) := by decide +kernel
theorem dX9_expression_122 : decode cX9_expression 122 = .ok (.bipush 21, 2) := by decide +kernel
theorem dX9_expression_124 : decode cX9_expression 124 = .ok (.if_icmp .ne 7, 3) := by decide +kernel
theorem dX9_expression_127 : decode cX9_expression 127 = .ok (.iconst 1, 1) := by decide +kernel
theorem dX9_expression_128 : decode cX9_expression 128 = .ok (.goto 4, 3) := by decide +kernel
theorem dX9_expression_131 : decode cX9_expression 131 = .ok (.iconst (-1), 1) := by decide +kernel
theorem dX9_expression_132 : decode cX9_expression 132 = .ok (.invokestatic 185, 3) := by decide +kernel
theorem dX9_expression_135 : decode cX9_expression 135 = .ok (.aload_n 2, 1) := by decide +kernel
theorem dX9_expression_136 : decode cX9_expression 136 = .ok (.invokestatic 189, 3) := by decide +kernel
theorem dX9_expression_139 : decode cX9_expression 139 = .ok (.ifCond .eq 12, 3) := by decide +kernel
theorem dX9_expression_142 : decode cX9_expression 142 = .ok (.aload_n 0, 1) := by decide +kernel
theorem dX9_expression_143 : decode cX9_expression 143 = .ok (.bipush 6, 2) := by decide +kernel
theorem dX9_expression_145 : decode cX9_expression 145 = .ok (.iload 4, 2) := by decide +kernel
theorem dX9_expression_147 : decode cX9_expression 147 = .ok (.invokevirtual 132, 3) := by decide +kernel
theorem dX9_expression_150 : decode cX9_expression 150 = .ok (.ireturn, 1) := by decide +kernel
theorem dX9_expression_151 : decode cX9_expression 151 = .ok (.iinc 3 1, 3) := by decide +kernel
theorem dX9_expression_154 : decode cX9_expression 154 = .ok (.goto (-105), 3) := by decide +kernel
theorem dX9_expression_157 : decode cX9_expression 157 = .ok (.iconst 1, 1) := by decide +kernel
theorem dX9_expression_158 : decode cX9_expression 158 = .ok (.ireturn, 1) := by decide +kernel
theorem dX9_factor_0 : decode cX9_factor 0 = .ok (.iload_n 1, 1) := by decide +kernel
theorem dX9_factor_1 : decode cX9_factor 1 = .ok (.bipush 30, 2) := by decide +kernel
theorem dX9_factor_3 : decode cX9_factor 3 = .ok (.if_icmp .lt 13, 3) := by decide +kernel
theorem dX9_factor_6 : decode cX9_factor 6 = .ok (.aload_n 0, 1) := by decide +kernel
theorem dX9_factor_7 : decode cX9_factor 7 = .ok (.iconst 1, 1) := by decide +kernel
theorem dX9_factor_8 : decode cX9_factor 8 = .ok (.aload_n 0, 1) := by decide +kernel
theorem dX9_factor_9 : decode cX9_factor 9 = .ok (.getfield 89, 3) := by decide +kernel
theorem dX9_factor_12 : decode cX9_factor 12 = .ok (.invokevirtual 132, 3) := by decide +kernel
theorem dX9_factor_15 : decode cX9_factor 15 = .ok (.ireturn, 1) := by decide +kernel
theorem dX9_factor_16 : decode cX9_factor 16 = .ok (.aload_n 0, 1) := by decide +kernel
theorem dX9_factor_17 : decode cX9_factor 17 = .ok (.getfield 14, 3) := by decide +kernel
theorem dX9_factor_20 : decode cX9_factor 20 = .ok (.aload_n 0, 1) := by decide +kernel
theorem dX9_factor_21 : decode cX9_factor 21 = .ok (.getfield 89, 3) := by decide +kernel
theorem dX9_factor_24 : decode cX9_factor 24 = .ok (.invokevirtual 95, 3) := by decide +kernel
theorem dX9_factor_27 : decode cX9_factor 27 = .ok (.istore_n 2, 1) := by decide +kernel
theorem dX9_factor_28 : decode cX9_factor 28 = .ok (.iconst (-1), 1) := by decide +kernel
theorem dX9_factor_29 : decode cX9_factor 29 = .ok (.istore_n 3, 1) := by decide +kernel
theorem dX9_factor_30 : decode cX9_factor 30 = .ok (.iload_n 2, 1) := by decide +kernel
theorem dX9_factor_31 : decode cX9_factor 31 = .ok (.iconst 2, 1) := by decide +kernel
theorem dX9_factor_32 : decode cX9_factor 32 = .ok (.if_icmp .ne 37, 3) := by decide +kernel
theorem dX9_factor_35 : decode cX9_factor 35 = .ok (.aload_n 0, 1) := by decide +kernel
theorem dX9_factor_36 : decode cX9_factor 36 = .ok (.aload_n 0, 1) := by decide +kernel
theorem dX9_factor_37 : decode cX9_factor 37 = .ok (.getfield 14, 3) := by decide +kernel
theorem dX9_factor_40 : decode cX9_factor 40 = .ok (.aload_n 0, 1) := by decide +kernel
theorem dX9_factor_41 : decode cX9_factor 41 = .ok (.getfield 89, 3) := by decide +kernel
theorem dX9_factor_44 : decode cX9_factor 44 = .ok (.invokevirtual 124, 3) := by decide +kernel
theorem dX9_factor_47 : decode cX9_factor 47 = .ok (.invokevirtual 128, 3) := by decide +kernel
theorem dX9_factor_50 : decode cX9_factor 50 = .ok (.istore_n 3, 1) := by decide +kernel
theorem dX9_factor_51 : decode cX9_factor 51 = .ok (.aload_n 0, 1) := by decide +kernel
theorem dX9_factor_52 : decode cX9_factor 52 = .ok (.iload_n 3, 1) := by decide +kernel
theorem dX9_factor_53 : decode cX9_factor 53 = .ok (.invokevirtual 221, 3) := by decide +kernel
theorem dX9_factor_56 : decode cX9_factor 56 = .ok (.ifCond .ne 13, 3) := by decide +kernel
theorem dX9_factor_59 : decode cX9_factor 59 = .ok (.aload_n 0, 1) := by decide +kernel
theorem dX9_factor_60 : decode cX9_factor 60 = .ok (.iconst 2, 1) := by decide +kernel
theorem dX9_factor_61 : decode cX9_factor 61 = .ok (.aload_n 0, 1) := by decide +kernel
theorem dX9_factor_62 : decode cX9_factor 62 = .ok (.getfield 89, 3) := by decide +kernel
theorem dX9_factor_65 : decode cX9_factor 65 = .ok (.invokevirtual 132, 3) := by decide +kernel
theorem dX9_factor_68 : decode cX9_factor 68 = .ok (.ireturn, 1) := by decide +kernel
theorem dX9_factor_69 : decode cX9_factor 69 = .ok (.aload_n 0, 1) := by decide +kernel
theorem dX9_factor_70 : decode cX9_factor 70 = .ok (.dup, 1) := by decide +kernel
theorem dX9_factor_71 : decode cX9_factor 71 = .ok (.getfield 86, 3) := by decide +kernel
theorem dX9_factor_74 : decode cX9_factor 74 = .ok (.iconst 1, 1) := by decide +kernel
theorem dX9_factor_75 : decode cX9_factor 75 = .ok (.iadd, 1) := by decide +kernel
theorem dX9_factor_76 : decode cX9_factor 76 = .ok (.putfield 86, 3) := by decide +kernel
theorem dX9_factor_79 : decode cX9_factor 79 = .ok (.aload_n 0, 1) := by decide +kernel
theorem dX9_factor_80 : decode cX9_factor 80 = .ok (.getfield 86, 3) := by decide +kernel
theorem dX9_factor_83 : decode cX9_factor 83 = .ok (.sipush 20000, 3) := by decide +kernel
theorem dX9_factor_86 : decode cX9_factor 86 = .ok (.if_icmp .le 14, 3) := by decide +kernel
theorem dX9_factor_89 : decode cX9_factor 89 = .ok (.aload_n 0, 1) := by decide +kernel
theorem dX9_factor_90 : decode cX9_factor 90 = .ok (.bipush 7, 2) := by decide +kernel
theorem dX9_factor_92 : decode cX9_factor 92 = .ok (.aload_n 0, 1) := by decide +kernel
theorem dX9_factor_93 : decode cX9_factor 93 = .ok (.getfield 89, 3) := by decide +kernel
theorem dX9_factor_96 : decode cX9_factor 96 = .ok (.invokevirtual 132, 3) := by decide +kernel
theorem dX9_factor_99 : decode cX9_factor 99 = .ok (.ireturn, 1) := by decide +kernel
theorem dX9_factor_100 : decode cX9_factor 100 = .ok (.aload_n 0, 1) := by decide +kernel
theorem dX9_factor_101 : decode cX9_factor 101 = .ok (.getfield 37, 3) := by decide +kernel
theorem dX9_factor_104 : decode cX9_factor 104 = .ok (.iload_n 1, 1) := by decide +kernel
theorem dX9_factor_105 : decode cX9_factor 105 = .ok (.aaload, 1) := by decide +kernel
theorem dX9_factor_106 : decode cX9_factor 106 = .ok (.lconst 0, 1) := by decide +kernel
theorem dX9_factor_107 : decode cX9_factor 107 = .ok (.invokestatic 224, 3) := by decide +kernel
theorem dX9_factor_110 : decode cX9_factor 110 = .ok (.iload_n 2, 1) := by decide +kernel
theorem dX9_factor_111 : decode cX9_factor 111 = .ok (.lookupswitch 66 #[(2, 41), (11, 60), (19, 54), (22, 48)], 41) := by decide +kernel
theorem dX9_factor_152 : decode cX9_factor 152 = .ok (.aload_n 0, 1) := by decide +kernel
theorem dX9_factor_153 : decode cX9_factor 153 = .ok (.iload_n 1, 1) := by decide +kernel
theorem dX9_factor_154 : decode cX9_factor 154 = .ok (.iload_n 3, 1) := by decide +kernel
theorem dX9_factor_155 : decode cX9_factor 155 = .ok (.invokevirtual 230, 3) := by decide +kernel
theorem dX9_factor_158 : decode cX9_factor 158 = .ok (.ireturn, 1) := by decide +kernel
theorem dX9_factor_159 : decode cX9_factor 159 = .ok (.aload_n 0, 1) := by decide +kernel
theorem dX9_factor_160 : decode cX9_factor 160 = .ok (.iload_n 1, 1) := by decide +kernel
theorem dX9_factor_161 : decode cX9_factor 161 = .ok (.invokevirtual 233, 3) := by decide +kernel
theorem dX9_factor_164 : decode cX9_factor 164 = .ok (.ireturn, 1) := by decide +kernel
theorem dX9_factor_165 : decode cX9_factor 165 = .ok (.aload_n 0, 1) := by decide +kernel
theorem dX9_factor_166 : decode cX9_factor 166 = .ok (.iload_n 1, 1) := by decide +kernel
theorem dX9_factor_167 : decode cX9_factor 167 = .ok (.invokevirtual 236, 3) := by decide +kernel
theorem dX9_factor_170 : decode cX9_factor 170 = .ok (.ireturn, 1) := by decide +kernel
theorem dX9_factor_171 : decode cX9_factor 171 = .ok (.aload_n 0, 1) := by decide +kernel
theorem dX9_factor_172 : decode cX9_factor 172 = .ok (.iload_n 1, 1) := by decide +kernel
theorem dX9_factor_173 : decode cX9_factor 173 = .ok (.invokevirtual 239, 3) := by decide +kernel
theorem dX9_factor_176 : decode cX9_factor 176 = .ok (.ireturn, 1) := by decide +kernel
theorem dX9_factor_177 : decode cX9_factor 177 = .ok (.aload_n 0, 1) := by decide +kernel
theorem dX9_factor_178 : decode cX9_factor 178 = .ok (.getfield 37, 3) := by decide +kernel
theorem dX9_factor_181 : decode cX9_factor 181 = .ok (.iload_n 1, 1) := by decide +kernel
theorem dX9_factor_182 : decode cX9_factor 182 = .ok (.aaload, 1) := by decide +kernel
theorem dX9_factor_183 : decode cX9_factor 183 = .ok (.iconst 0, 1) := by decide +kernel
theorem dX9_factor_184 : decode cX9_factor 184 = .ok (.aload_n 0, 1) := by decide +kernel
theorem dX9_factor_185 : decode cX9_factor 185 = .ok (.aload_n 0, 1) := by decide +kernel
theorem dX9_factor_186 : decode cX9_factor 186 = .ok (.getfield 89, 3) := by decide +kernel
theorem dX9_factor_189 : decode cX9_factor 189 = .ok (.invokevirtual 143, 3) := by decide +kernel
theorem dX9_factor_192 : decode cX9_factor 192 = .ok (.i2l, 1) := by decide +kernel
theorem dX9_factor_193 : decode cX9_factor 193 = .ok (.lastore, 1) := by decide +kernel
theorem dX9_factor_194 : decode cX9_factor 194 = .ok (.aload_n 0, 1) := by decide +kernel
theorem dX9_factor_195 : decode cX9_factor 195 = .ok (.dup, 1) := by decide +kernel
theorem dX9_factor_196 : decode cX9_factor 196 = .ok (.getfield 89, 3) := by decide +kernel
theorem dX9_factor_199 : decode cX9_factor 199 = .ok (.iconst 1, 1) := by decide +kernel
theorem dX9_factor_200 : decode cX9_factor 200 = .ok (.iadd, 1) := by decide +kernel
theorem dX9_factor_201 : decode cX9_factor 201 = .ok (.putfield 89, 3) := by decide +kernel
theorem dX9_factor_204 : decode cX9_factor 204 = .ok (.iconst 1, 1) := by decide +kernel
theorem dX9_factor_205 : decode cX9_factor 205 = .ok (.ireturn, 1) := by decide +kernel
theorem dX9_inner_0 : decode cX9_inner 0 = .ok (.aload_n 0, 1) := by decide +kernel
theorem dX9_inner_1 : decode cX9_inner 1 = .ok (.dup, 1) := by decide +kernel
theorem dX9_inner_2 : decode cX9_inner 2 = .ok (.getfield 89, 3) := by decide +kernel
theorem dX9_inner_5 : decode cX9_inner 5 = .ok (.iconst 1, 1) := by decide +kernel
theorem dX9_inner_6 : decode cX9_inner 6 = .ok (.iadd, 1) := by decide +kernel
theorem dX9_inner_7 : decode cX9_inner 7 = .ok (.putfield 89, 3) := by decide +kernel
theorem dX9_inner_10 : decode cX9_inner 10 = .ok (.aload_n 0, 1) := by decide +kernel
theorem dX9_inner_11 : decode cX9_inner 11 = .ok (.iload_n 1, 1) := by decide +kernel
theorem dX9_inner_12 : decode cX9_inner 12 = .ok (.iconst 1, 1) := by decide +kernel
theorem dX9_inner_13 : decode cX9_inner 13 = .ok (.iadd, 1) := by decide +kernel
theorem dX9_inner_14 : decode cX9_inner 14 = .ok (.invokevirtual 166, 3) := by decide +kernel
theorem dX9_inner_17 : decode cX9_inner 17 = .ok (.ifCond .ne 5, 3) := by decide +kernel
theorem dX9_inner_20 : decode cX9_inner 20 = .ok (.iconst 0, 1) := by decide +kernel
theorem dX9_inner_21 : decode cX9_inner 21 = .ok (.ireturn, 1) := by decide +kernel
theorem dX9_inner_22 : decode cX9_inner 22 = .ok (.aload_n 0, 1) := by decide +kernel
theorem dX9_inner_23 : decode cX9_inner 23 = .ok (.getfield 37, 3) := by decide +kernel
theorem dX9_inner_26 : decode cX9_inner 26 = .ok (.iload_n 1, 1) := by decide +kernel
theorem dX9_inner_27 : decode cX9_inner 27 = .ok (.aaload, 1) := by decide +kernel
theorem dX9_inner_28 : decode cX9_inner 28 = .ok (.aload_n 0, 1) := by decide +kernel
theorem dX9_inner_29 : decode cX9_inner 29 = .ok (.getfield 31, 3) := by decide +kernel
theorem dX9_inner_32 : decode cX9_inner 32 = .ok (.iload_n 1, 1) := by decide +kernel
theorem dX9_inner_33 : decode cX9_inner 33 = .ok (.iconst 1, 1) := by decide +kernel
theorem dX9_inner_34 : decode cX9_inner 34 = .ok (.iadd, 1) := by decide +kernel
theorem dX9_inner_35 : decode cX9_inner 35 = .ok (.aaload, 1) := by decide +kernel
theorem dX9_inner_36 : decode cX9_inner 36 = .ok (.iconst 1, 1) := by decide +kernel
theorem dX9_inner_37 : decode cX9_inner 37 = .ok (.invokestatic 185, 3) := by decide +kernel
theorem dX9_inner_40 : decode cX9_inner 40 = .ok (.aload_n 0, 1) := by decide +kernel
theorem dX9_inner_41 : decode cX9_inner 41 = .ok (.dup, 1) := by decide +kernel
theorem dX9_inner_42 : decode cX9_inner 42 = .ok (.getfield 89, 3) := by decide +kernel
theorem dX9_inner_45 : decode cX9_inner 45 = .ok (.iconst 1, 1) := by decide +kernel
theorem dX9_inner_46 : decode cX9_inner 46 = .ok (.iadd, 1) := by decide +kernel
theorem dX9_inner_47 : decode cX9_inner 47 = .ok (.putfield 89, 3) := by decide +kernel
theorem dX9_inner_50 : decode cX9_inner 50 = .ok (.iconst 1, 1) := by decide +kernel
theorem dX9_inner_51 : decode cX9_inner 51 = .ok (.ireturn, 1) := by decide +kernel
theorem dX9_negated_0 : decode cX9_negated 0 = .ok (.aload_n 0, 1) := by decide +kernel
theorem dX9_negated_1 : decode cX9_negated 1 = .ok (.dup, 1) := by decide +kernel
theorem dX9_negated_2 : decode cX9_negated 2 = .ok (.getfield 89, 3) := by decide +kernel
theorem dX9_negated_5 : decode cX9_negated 5 = .ok (.iconst 1, 1) := by decide +kernel
theorem dX9_negated_6 : decode cX9_negated 6 = .ok (.iadd, 1) := by decide +kernel
theorem dX9_negated_7 : decode cX9_negated 7 = .ok (.putfield 89, 3) := by decide +kernel
theorem dX9_negated_10 : decode cX9_negated 10 = .ok (.aload_n 0, 1) := by decide +kernel
theorem dX9_negated_11 : decode cX9_negated 11 = .ok (.iload_n 1, 1) := by decide +kernel
theorem dX9_negated_12 : decode cX9_negated 12 = .ok (.iconst 1, 1) := by decide +kernel
theorem dX9_negated_13 : decode cX9_negated 13 = .ok (.iadd, 1) := by decide +kernel
theorem dX9_negated_14 : decode cX9_negated 14 = .ok (.invokevirtual 211, 3) := by decide +kernel
theorem dX9_negated_17 : decode cX9_negated 17 = .ok (.ifCond .ne 5, 3) := by decide +kernel
theorem dX9_negated_20 : decode cX9_negated 20 = .ok (.iconst 0, 1) := by decide +kernel
theorem dX9_negated_21 : decode cX9_negated 21 = .ok (.ireturn, 1) := by decide +kernel
theorem dX9_negated_22 : decode cX9_negated 22 = .ok (.aload_n 0, 1) := by decide +kernel
theorem dX9_negated_23 : decode cX9_negated 23 = .ok (.getfield 37, 3) := by decide +kernel
theorem dX9_negated_26 : decode cX9_negated 26 = .ok (.iload_n 1, 1) := by decide +kernel
theorem dX9_negated_27 : decode cX9_negated 27 = .ok (.aaload, 1) := by decide +kernel
theorem dX9_negated_28 : decode cX9_negated 28 = .ok (.aload_n 0, 1) := by decide +kernel
theorem dX9_negated_29 : decode cX9_negated 29 = .ok (.getfield 37, 3) := by decide +kernel
theorem dX9_negated_32 : decode cX9_negated 32 = .ok (.iload_n 1, 1) := by decide +kernel
theorem dX9_negated_33 : decode cX9_negated 33 = .ok (.iconst 1, 1) := by decide +kernel
theorem dX9_negated_34 : decode cX9_negated 34 = .ok (.iadd, 1) := by decide +kernel
theorem dX9_negated_35 : decode cX9_negated 35 = .ok (.aaload, 1) := by decide +kernel
theorem dX9_negated_36 : decode cX9_negated 36 = .ok (.iconst (-1), 1) := by decide +kernel
theorem dX9_negated_37 : decode cX9_negated 37 = .ok (.invokestatic 185, 3) := by decide +kernel
theorem dX9_negated_40 : decode cX9_negated 40 = .ok (.iconst 1, 1) := by decide +kernel
theorem dX9_negated_41 : decode cX9_negated 41 = .ok (.ireturn, 1) := by decide +kernel
theorem dX9_summed_0 : decode cX9_summed 0 = .ok (.aload_n 0, 1) := by decide +kernel
theorem dX9_summed_1 : decode cX9_summed 1 = .ok (.getfield 89, 3) := by decide +kernel
theorem dX9_summed_4 : decode cX9_summed 4 = .ok (.istore_n 2, 1) := by decide +kernel
theorem dX9_summed_5 : decode cX9_summed 5 = .ok (.aload_n 0, 1) := by decide +kernel
theorem dX9_summed_6 : decode cX9_summed 6 = .ok (.aload_n 0, 1) := by decide +kernel
theorem dX9_summed_7 : decode cX9_summed 7 = .ok (.getfield 14, 3) := by decide +kernel
theorem dX9_summed_10 : decode cX9_summed 10 = .ok (.aload_n 0, 1) := by decide +kernel
theorem dX9_summed_11 : decode cX9_summed 11 = .ok (.getfield 89, 3) := by decide +kernel
theorem dX9_summed_14 : decode cX9_summed 14 = .ok (.iconst 3, 1) := by decide +kernel
theorem dX9_summed_15 : decode cX9_summed 15 = .ok (.iadd, 1) := by decide +kernel
theorem dX9_summed_16 : decode cX9_summed 16 = .ok (.invokevirtual 124, 3) := by decide +kernel
theorem dX9_summed_19 : decode cX9_summed 19 = .ok (.invokevirtual 128, 3) := by decide +kernel
theorem dX9_summed_22 : decode cX9_summed 22 = .ok (.istore_n 3, 1) := by decide +kernel
theorem dX9_summed_23 : decode cX9_summed 23 = .ok (.aload_n 0, 1) := by decide +kernel
theorem dX9_summed_24 : decode cX9_summed 24 = .ok (.aload_n 0, 1) := by decide +kernel
theorem dX9_summed_25 : decode cX9_summed 25 = .ok (.getfield 89, 3) := by decide +kernel
theorem dX9_summed_28 : decode cX9_summed 28 = .ok (.iconst 1, 1) := by decide +kernel
theorem dX9_summed_29 : decode cX9_summed 29 = .ok (.iadd, 1) := by decide +kernel
theorem dX9_summed_30 : decode cX9_summed 30 = .ok (.iconst 2, 1) := by decide +kernel
theorem dX9_summed_31 : decode cX9_summed 31 = .ok (.invokevirtual 140, 3) := by decide +kernel
theorem dX9_summed_34 : decode cX9_summed 34 = .ok (.istore 4, 2) := by decide +kernel
theorem dX9_summed_36 : decode cX9_summed 36 = .ok (.iload 4, 2) := by decide +kernel
theorem dX9_summed_38 : decode cX9_summed 38 = .ok (.ifCond .ge 5, 3) := by decide +kernel
theorem dX9_summed_41 : decode cX9_summed 41 = .ok (.iconst 0, 1) := by decide +kernel
theorem dX9_summed_42 : decode cX9_summed 42 = .ok (.ireturn, 1) := by decide +kernel
theorem dX9_summed_43 : decode cX9_summed 43 = .ok (.aload_n 0, 1) := by decide +kernel
theorem dX9_summed_44 : decode cX9_summed 44 = .ok (.iload_n 3, 1) := by decide +kernel
theorem dX9_summed_45 : decode cX9_summed 45 = .ok (.bipush 6, 2) := by decide +kernel
theorem dX9_summed_47 : decode cX9_summed 47 = .ok (.invokevirtual 146, 3) := by decide +kernel
theorem dX9_summed_50 : decode cX9_summed 50 = .ok (.ifCond .ne 15, 3) := by decide +kernel
theorem dX9_summed_53 : decode cX9_summed 53 = .ok (.aload_n 0, 1) := by decide +kernel
theorem dX9_summed_54 : decode cX9_summed 54 = .ok (.iconst 2, 1) := by decide +kernel
theorem dX9_summed_55 : decode cX9_summed 55 = .ok (.aload_n 0, 1) := by decide +kernel
theorem dX9_summed_56 : decode cX9_summed 56 = .ok (.getfield 89, 3) := by decide +kernel
theorem dX9_summed_59 : decode cX9_summed 59 = .ok (.iconst 3, 1) := by decide +kernel
theorem dX9_summed_60 : decode cX9_summed 60 = .ok (.iadd, 1) := by decide +kernel
theorem dX9_summed_61 : decode cX9_summed 61 = .ok (.invokevirtual 132, 3) := by decide +kernel
theorem dX9_summed_64 : decode cX9_summed 64 = .ok (.ireturn, 1) := by decide +kernel
theorem dX9_summed_65 : decode cX9_summed 65 = .ok (.aload_n 0, 1) := by decide +kernel
theorem dX9_summed_66 : decode cX9_summed 66 = .ok (.iload_n 3, 1) := by decide +kernel
theorem dX9_summed_67 : decode cX9_summed 67 = .ok (.iconst 2, 1) := by decide +kernel
theorem dX9_summed_68 : decode cX9_summed 68 = .ok (.invokevirtual 120, 3) := by decide +kernel
theorem dX9_summed_71 : decode cX9_summed 71 = .ok (.istore 5, 2) := by decide +kernel
theorem dX9_summed_73 : decode cX9_summed 73 = .ok (.aload_n 0, 1) := by decide +kernel
theorem dX9_summed_74 : decode cX9_summed 74 = .ok (.iload_n 3, 1) := by decide +kernel
theorem dX9_summed_75 : decode cX9_summed 75 = .ok (.iconst 1, 1) := by decide +kernel
theorem dX9_summed_76 : decode cX9_summed 76 = .ok (.invokevirtual 120, 3) := by decide +kernel
theorem dX9_summed_79 : decode cX9_summed 79 = .ok (.istore 6, 2) := by decide +kernel
theorem dX9_summed_81 : decode cX9_summed 81 = .ok (.iload 6, 2) := by decide +kernel
theorem dX9_summed_83 : decode cX9_summed 83 = .ok (.iload 5, 2) := by decide +kernel
theorem dX9_summed_85 : decode cX9_summed 85 = .ok (.if_icmp .gt 75, 3) := by decide +kernel
theorem dX9_summed_88 : decode cX9_summed 88 = .ok (.aload_n 0, 1) := by decide +kernel
theorem dX9_summed_89 : decode cX9_summed 89 = .ok (.iload 4, 2) := by decide +kernel
theorem dX9_summed_91 : decode cX9_summed 91 = .ok (.iconst 1, 1) := by decide +kernel
theorem dX9_summed_92 : decode cX9_summed 92 = .ok (.iload 6, 2) := by decide +kernel
theorem dX9_summed_94 : decode cX9_summed 94 = .ok (.invokevirtual 136, 3) := by decide +kernel
theorem dX9_summed_97 : decode cX9_summed 97 = .ok (.aload_n 0, 1) := by decide +kernel
theorem dX9_summed_98 : decode cX9_summed 98 = .ok (.iload_n 2, 1) := by decide +kernel
theorem dX9_summed_99 : decode cX9_summed 99 = .ok (.iconst 5, 1) := by decide +kernel
theorem dX9_summed_100 : decode cX9_summed 100 = .ok (.iadd, 1) := by decide +kernel
theorem dX9_summed_101 : decode cX9_summed 101 = .ok (.putfield 89, 3) := by decide +kernel
theorem dX9_summed_104 : decode cX9_summed 104 = .ok (.aload_n 0, 1) := by decide +kernel
theorem dX9_summed_105 : decode cX9_summed 105 = .ok (.iload_n 1, 1) := by decide +kernel
theorem dX9_summed_106 : decode cX9_summed 106 = .ok (.iconst 1, 1) := by decide +kernel
theorem dX9_summed_107 : decode cX9_summed 107 = .ok (.iadd, 1) := by decide +kernel
theorem dX9_summed_108 : decode cX9_summed 108 = .ok (.invokevirtual 166, 3) := by decide +kernel
theorem dX9_summed_111 : decode cX9_summed 111 = .ok (.ifCond .ne 5, 3) := by decide +kernel
theorem dX9_summed_114 : decode cX9_summed 114 = .ok (.iconst 0, 1) := by decide +kernel
theorem dX9_summed_115 : decode cX9_summed 115 = .ok (.ireturn, 1) := by decide +kernel
theorem dX9_summed_116 : decode cX9_summed 116 = .ok (.aload_n 0, 1) := by decide +kernel
theorem dX9_summed_117 : decode cX9_summed 117 = .ok (.getfield 37, 3) := by decide +kernel
theorem dX9_summed_120 : decode cX9_summed 120 = .ok (.iload_n 1, 1) := by decide +kernel
theorem dX9_summed_121 : decode cX9_summed 121 = .ok (.aaload, 1) := by decide +kernel
theorem dX9_summed_122 : decode cX9_summed 122 = .ok (.aload_n 0, 1) := by decide +kernel
theorem dX9_summed_123 : decode cX9_summed 123 = .ok (.getfield 31, 3) := by decide +kernel
theorem dX9_summed_126 : decode cX9_summed 126 = .ok (.iload_n 1, 1) := by decide +kernel
theorem dX9_summed_127 : decode cX9_summed 127 = .ok (.iconst 1, 1) := by decide +kernel
theorem dX9_summed_128 : decode cX9_summed 128 = .ok (.iadd, 1) := by decide +kernel
theorem dX9_summed_129 : decode cX9_summed 129 = .ok (.aaload, 1) := by decide +kernel
theorem dX9_summed_130 : decode cX9_summed 130 = .ok (.iconst 1, 1) := by decide +kernel
theorem dX9_summed_131 : decode cX9_summed 131 = .ok (.invokestatic 185, 3) := by decide +kernel
theorem dX9_summed_134 : decode cX9_summed 134 = .ok (.aload_n 0, 1) := by decide +kernel
theorem dX9_summed_135 : decode cX9_summed 135 = .ok (.getfield 37, 3) := by decide +kernel
theorem dX9_summed_138 : decode cX9_summed 138 = .ok (.iload_n 1, 1) := by decide +kernel
theorem dX9_summed_139 : decode cX9_summed 139 = .ok (.aaload, 1) := by decide +kernel
theorem dX9_summed_140 : decode cX9_summed 140 = .ok (.invokestatic 189, 3) := by decide +kernel
theorem dX9_summed_143 : decode cX9_summed 143 = .ok (.ifCond .eq 11, 3) := by decide +kernel
theorem dX9_summed_146 : decode cX9_summed 146 = .ok (.aload_n 0, 1) := by decide +kernel
theorem dX9_summed_147 : decode cX9_summed 147 = .ok (.bipush 6, 2) := by decide +kernel
theorem dX9_summed_149 : decode cX9_summed 149 = .ok (.iload_n 2, 1) := by decide +kernel
theorem dX9_summed_150 : decode cX9_summed 150 = .ok (.invokevirtual 132, 3) := by decide +kernel
theorem dX9_summed_153 : decode cX9_summed 153 = .ok (.ireturn, 1) := by decide +kernel
theorem dX9_summed_154 : decode cX9_summed 154 = .ok (.iinc 6 1, 3) := by decide +kernel
theorem dX9_summed_157 : decode cX9_summed 157 = .ok (.goto (-76), 3) := by decide +kernel
theorem dX9_summed_160 : decode cX9_summed 160 = .ok (.aload_n 0, 1) := by decide +kernel
theorem dX9_summed_161 : decode cX9_summed 161 = .ok (.invokevirtual 176, 3) := by decide +kernel
theorem dX9_summed_164 : decode cX9_summed 164 = .ok (.aload_n 0, 1) := by decide +kernel
theorem dX9_summed_165 : decode cX9_summed 165 = .ok (.dup, 1) := by decide +kernel
theorem dX9_summed_166 : decode cX9_summed 166 = .ok (.getfield 89, 3) := by decide +kernel
theorem dX9_summed_169 : decode cX9_summed 169 = .ok (.iconst 1, 1) := by decide +kernel
theorem dX9_summed_170 : decode cX9_summed 170 = .ok (.iadd, 1) := by decide +kernel
theorem dX9_summed_171 : decode cX9_summed 171 = .ok (.putfield 89, 3) := by decide +kernel
theorem dX9_summed_174 : decode cX9_summed 174 = .ok (.iconst 1, 1) := by decide +kernel
theorem dX9_summed_175 : decode cX9_summed 175 = .ok (.ireturn, 1) := by decide +kernel
theorem dX9_term_0 : decode cX9_term 0 = .ok (.aload_n 0, 1) := by decide +kernel
theorem dX9_term_1 : decode cX9_term 1 = .ok (.iload_n 1, 1) := by decide +kernel
theorem dX9_term_2 : decode cX9_term 2 = .ok (.invokevirtual 211, 3) := by decide +kernel
theorem dX9_term_5 : decode cX9_term 5 = .ok (.ifCond .ne 5, 3) := by decide +kernel
theorem dX9_term_8 : decode cX9_term 8 = .ok (.iconst 0, 1) := by decide +kernel
theorem dX9_term_9 : decode cX9_term 9 = .ok (.ireturn, 1) := by decide +kernel
theorem dX9_term_10 : decode cX9_term 10 = .ok (.aload_n 0, 1) := by decide +kernel
theorem dX9_term_11 : decode cX9_term 11 = .ok (.getfield 34, 3) := by decide +kernel
theorem dX9_term_14 : decode cX9_term 14 = .ok (.iload_n 1, 1) := by decide +kernel
theorem dX9_term_15 : decode cX9_term 15 = .ok (.aaload, 1) := by decide +kernel
theorem dX9_term_16 : decode cX9_term 16 = .ok (.astore_n 2, 1) := by decide +kernel
theorem dX9_term_17 : decode cX9_term 17 = .ok (.aload_n 0, 1) := by decide +kernel
theorem dX9_term_18 : decode cX9_term 18 = .ok (.getfield 37, 3) := by decide +kernel
theorem dX9_term_21 : decode cX9_term 21 = .ok (.iload_n 1, 1) := by decide +kernel
theorem dX9_term_22 : decode cX9_term 22 = .ok (.aaload, 1) := by decide +kernel
theorem dX9_term_23 : decode cX9_term 23 = .ok (.iconst 0, 1) := by decide +kernel
theorem dX9_term_24 : decode cX9_term 24 = .ok (.aload_n 2, 1) := by decide +kernel
theorem dX9_term_25 : decode cX9_term 25 = .ok (.iconst 0, 1) := by decide +kernel
theorem dX9_term_26 : decode cX9_term 26 = .ok (.bipush 13, 2) := by decide +kernel
theorem dX9_term_28 : decode cX9_term 28 = .ok (.invokestatic 179, 3) := by decide +kernel
theorem dX9_term_31 : decode cX9_term 31 = .ok (.iconst 0, 1) := by decide +kernel
theorem dX9_term_32 : decode cX9_term 32 = .ok (.istore_n 3, 1) := by decide +kernel
theorem dX9_term_33 : decode cX9_term 33 = .ok (.iload_n 3, 1) := by decide +kernel
theorem dX9_term_34 : decode cX9_term 34 = .ok (.aload_n 0, 1) := by decide +kernel
theorem dX9_term_35 : decode cX9_term 35 = .ok (.getfield 14, 3) := by decide +kernel
theorem dX9_term_38 : decode cX9_term 38 = .ok (.invokevirtual 92, 3) := by decide +kernel
theorem dX9_term_41 : decode cX9_term 41 = .ok (.if_icmp .ge 104, 3) := by decide +kernel
theorem dX9_term_44 : decode cX9_term 44 = .ok (.aload_n 0, 1) := by decide +kernel
theorem dX9_term_45 : decode cX9_term 45 = .ok (.getfield 14, 3) := by decide +kernel
theorem dX9_term_48 : decode cX9_term 48 = .ok (.aload_n 0, 1) := by decide +kernel
theorem dX9_term_49 : decode cX9_term 49 = .ok (.getfield 89, 3) := by decide +kernel
theorem dX9_term_52 : decode cX9_term 52 = .ok (.invokevirtual 95, 3) := by decide +kernel
theorem dX9_term_55 : decode cX9_term 55 = .ok (.bipush 23, 2) := by decide +kernel
theorem dX9_term_57 : decode cX9_term 57 = .ok (.if_icmp .ne 88, 3) := by decide +kernel
theorem dX9_term_60 : decode cX9_term 60 = .ok (.aload_n 0, 1) := by decide +kernel
theorem dX9_term_61 : decode cX9_term 61 = .ok (.getfield 89, 3) := by decide +kernel
theorem dX9_term_64 : decode cX9_term 64 = .ok (.istore 4, 2) := by decide +kernel
theorem dX9_term_66 : decode cX9_term 66 = .ok (.aload_n 0, 1) := by decide +kernel
theorem dX9_term_67 : decode cX9_term 67 = .ok (.dup, 1) := by decide +kernel
theorem dX9_term_68 : decode cX9_term 68 = .ok (.getfield 89, 3) := by decide +kernel
theorem dX9_term_71 : decode cX9_term 71 = .ok (.iconst 1, 1) := by decide +kernel
theorem dX9_term_72 : decode cX9_term 72 = .ok (.iadd, 1) := by decide +kernel
theorem dX9_term_73 : decode cX9_term 73 = .ok (.putfield 89, 3) := by decide +kernel
theorem dX9_term_76 : decode cX9_term 76 = .ok (.aload_n 0, 1) := by decide +kernel
theorem dX9_term_77 : decode cX9_term 77 = .ok (.iload_n 1, 1) := by decide +kernel
theorem dX9_term_78 : decode cX9_term 78 = .ok (.invokevirtual 211, 3) := by decide +kernel
theorem dX9_term_81 : decode cX9_term 81 = .ok (.ifCond .ne 5, 3) := by decide +kernel
theorem dX9_term_84 : decode cX9_term 84 = .ok (.iconst 0, 1) := by decide +kernel
theorem dX9_term_85 : decode cX9_term 85 = .ok (.ireturn, 1) := by decide +kernel
theorem dX9_term_86 : decode cX9_term 86 = .ok (.aload_n 2, 1) := by decide +kernel
theorem dX9_term_87 : decode cX9_term 87 = .ok (.invokestatic 214, 3) := by decide +kernel
theorem dX9_term_90 : decode cX9_term 90 = .ok (.ifCond .eq 23, 3) := by decide +kernel
theorem dX9_term_93 : decode cX9_term 93 = .ok (.aload_n 0, 1) := by decide +kernel
theorem dX9_term_94 : decode cX9_term 94 = .ok (.getfield 37, 3) := by decide +kernel
theorem dX9_term_97 : decode cX9_term 97 = .ok (.iload_n 1, 1) := by decide +kernel
theorem dX9_term_98 : decode cX9_term 98 = .ok (.aaload, 1) := by decide +kernel
theorem dX9_term_99 : decode cX9_term 99 = .ok (.invokestatic 214, 3) := by decide +kernel
theorem dX9_term_102 : decode cX9_term 102 = .ok (.ifCond .eq 11, 3) := by decide +kernel
theorem dX9_term_105 : decode cX9_term 105 = .ok (.aload_n 0, 1) := by decide +kernel
theorem dX9_term_106 : decode cX9_term 106 = .ok (.iconst 4, 1) := by decide +kernel
theorem dX9_term_107 : decode cX9_term 107 = .ok (.iload 4, 2) := by decide +kernel
theorem dX9_term_109 : decode cX9_term 109 = .ok (.invokevirtual 132, 3) := by decide +kernel
theorem dX9_term_112 : decode cX9_term 112 = .ok (.ireturn, 1) := by decide +kernel
theorem dX9_term_113 : decode cX9_term 113 = .ok (.aload_n 2, 1) := by decide +kernel
theorem dX9_term_114 : decode cX9_term 114 = .ok (.aload_n 0, 1) := by decide +kernel
theorem dX9_term_115 : decode cX9_term 115 = .ok (.getfield 37, 3) := by decide +kernel
theorem dX9_term_118 : decode cX9_term 118 = .ok (.iload_n 1, 1) := by decide +kernel
theorem dX9_term_119 : decode cX9_term 119 = .ok (.aaload, 1) := by decide +kernel
theorem dX9_term_120 : decode cX9_term 120 = .ok (.invokestatic 217, 3) := by decide +kernel
theorem dX9_term_123 : decode cX9_term 123 = .ok (.aload_n 2, 1) := by decide +kernel
theorem dX9_term_124 : decode cX9_term 124 = .ok (.invokestatic 189, 3) := by decide +kernel
theorem dX9_term_127 : decode cX9_term 127 = .ok (.ifCond .eq 12, 3) := by decide +kernel
theorem dX9_term_130 : decode cX9_term 130 = .ok (.aload_n 0, 1) := by decide +kernel
theorem dX9_term_131 : decode cX9_term 131 = .ok (.bipush 6, 2) := by decide +kernel
theorem dX9_term_133 : decode cX9_term 133 = .ok (.iload 4, 2) := by decide +kernel
theorem dX9_term_135 : decode cX9_term 135 = .ok (.invokevirtual 132, 3) := by decide +kernel
theorem dX9_term_138 : decode cX9_term 138 = .ok (.ireturn, 1) := by decide +kernel
theorem dX9_term_139 : decode cX9_term 139 = .ok (.iinc 3 1, 3) := by decide +kernel
theorem dX9_term_142 : decode cX9_term 142 = .ok (.goto (-109), 3) := by decide +kernel
theorem dX9_term_145 : decode cX9_term 145 = .ok (.iconst 1, 1) := by decide +kernel
theorem dX9_term_146 : decode cX9_term 146 = .ok (.ireturn, 1) := by decide +kernel
theorem w_30 : Cond.selects RX9 yX9_expression yX9_expression ∈ tb := sel_2 (q := (yX9_expression, 17)) 14 (by decide +kernel)
theorem w_31 : Cond.selects RX9 yX9_term yX9_term ∈ tb := sel_2 (q := (yX9_term, 17)) 15 (by decide +kernel)
theorem w_32 : Cond.selects RX9 yX9_factor yX9_factor ∈ tb := sel_3 (q := (yX9_factor, 17)) 0 (by decide +kernel)
theorem w_33 : Cond.selects RX9 yX9_canBeFactor yX9_canBeFactor ∈ tb := sel_3 (q := (yX9_canBeFactor, 17)) 1 (by decide +kernel)
theorem w_34 : Cond.selects RX9 yX9_named yX9_named ∈ tb := sel_3 (q := (yX9_named, 17)) 2 (by decide +kernel)
theorem w_37 : Cond.selects RX9 yX9_negated yX9_negated ∈ tb := sel_3 (q := (yX9_negated, 17)) 5 (by decide +kernel)
theorem w_38 : Cond.selects RX9 yX9_inner yX9_inner ∈ tb := sel_3 (q := (yX9_inner, 17)) 6 (by decide +kernel)
theorem w_39 : Cond.selects RX9 yX9_summed yX9_summed ∈ tb := sel_3 (q := (yX9_summed, 17)) 7 (by decide +kernel)
theorem w_40 : Cond.selects RX9 yX9_forgetLast yX9_forgetLast ∈ tb := sel_3 (q := (yX9_forgetLast, 17)) 8 (by decide +kernel)
theorem w_333 : Cond.fieldLink RX9 31 (TX9 4).1 (TX9 4).2.1 (TX9 4).2.2.1 ∈ tb := tbc_1 130 (by decide +kernel) rfl
theorem w_334 : Cond.fieldLink RX9 34 (TX9 5).1 (TX9 5).2.1 (TX9 5).2.2.1 ∈ tb := tbc_1 131 (by decide +kernel) rfl
theorem w_341 : Cond.fieldLink RX9 86 (TX9 12).1 (TX9 12).2.1 (TX9 12).2.2.1 ∈ tb := tbc_1 138 (by decide +kernel) rfl
theorem w_1030 : Cond.methodLink RX9 166 yX9_expression ∈ tb := tbc_4 107 (by decide +kernel) rfl
theorem w_1032 : Cond.instanceMethod yX9_expression ∈ tb := tbc_4 109 (by decide +kernel) rfl
theorem w_1033 : Cond.code yX9_expression cX9_expression 6 (some .boolean) ∈ tb := tbc_4 110 (by decide +kernel) rfl
theorem w_1034 : Cond.methodLink RX9 208 yX9_term ∈ tb := tbc_4 111 (by decide +kernel) rfl
theorem w_1036 : Cond.instanceMethod yX9_term ∈ tb := tbc_4 113 (by decide +kernel) rfl
theorem w_1037 : Cond.code yX9_term cX9_term 5 (some .boolean) ∈ tb := tbc_4 114 (by decide +kernel) rfl
theorem w_1038 : Cond.methodLink RX9 211 yX9_factor ∈ tb := tbc_4 115 (by decide +kernel) rfl
theorem w_1040 : Cond.instanceMethod yX9_factor ∈ tb := tbc_4 117 (by decide +kernel) rfl
theorem w_1041 : Cond.code yX9_factor cX9_factor 4 (some .boolean) ∈ tb := tbc_4 118 (by decide +kernel) rfl
theorem w_1042 : Cond.methodLink RX9 221 yX9_canBeFactor ∈ tb := tbc_4 119 (by decide +kernel) rfl
theorem w_1044 : Cond.instanceMethod yX9_canBeFactor ∈ tb := tbc_4 121 (by decide +kernel) rfl
theorem w_1045 : Cond.code yX9_canBeFactor cX9_canBeFactor 2 (some .boolean) ∈ tb := tbc_4 122 (by decide +kernel) rfl
theorem w_1046 : Cond.methodLink RX9 224 yJ7_fill_d0a16 ∈ tb := tbc_4 123 (by decide +kernel) rfl
theorem w_1047 : Cond.static yJ7_fill_d0a16 ∈ tb := tbc_4 124 (by decide +kernel) rfl
theorem w_1048 : Cond.code yJ7_fill_d0a16 cJ7_fill_d0a16 5 none ∈ tb := tbc_4 125 (by decide +kernel) rfl
theorem w_1049 : Cond.methodLink RX9 230 yX9_named ∈ tb := tbc_4 126 (by decide +kernel) rfl
theorem w_1051 : Cond.instanceMethod yX9_named ∈ tb := tbc_4 128 (by decide +kernel) rfl
theorem w_1052 : Cond.code yX9_named cX9_named 11 (some .boolean) ∈ tb := tbc_4 129 (by decide +kernel) rfl
theorem w_1061 : Cond.methodLink RX9 233 yX9_negated ∈ tb := tbc_4 138 (by decide +kernel) rfl
theorem w_1063 : Cond.instanceMethod yX9_negated ∈ tb := tbc_4 140 (by decide +kernel) rfl
theorem w_1064 : Cond.code yX9_negated cX9_negated 2 (some .boolean) ∈ tb := tbc_4 141 (by decide +kernel) rfl
theorem w_1065 : Cond.methodLink RX9 185 yX9_addTo ∈ tb := tbc_4 142 (by decide +kernel) rfl
theorem w_1066 : Cond.static yX9_addTo ∈ tb := tbc_4 143 (by decide +kernel) rfl
theorem w_1067 : Cond.code yX9_addTo cX9_addTo 4 none ∈ tb := tbc_4 144 (by decide +kernel) rfl
theorem w_1068 : Cond.methodLink RX9 236 yX9_inner ∈ tb := tbc_4 145 (by decide +kernel) rfl
theorem w_1070 : Cond.instanceMethod yX9_inner ∈ tb := tbc_4 147 (by decide +kernel) rfl
theorem w_1071 : Cond.code yX9_inner cX9_inner 2 (some .boolean) ∈ tb := tbc_4 148 (by decide +kernel) rfl
theorem w_1072 : Cond.methodLink RX9 239 yX9_summed ∈ tb := tbc_4 149 (by decide +kernel) rfl
theorem w_1074 : Cond.instanceMethod yX9_summed ∈ tb := tbc_4 151 (by decide +kernel) rfl
theorem w_1075 : Cond.code yX9_summed cX9_summed 7 (some .boolean) ∈ tb := tbc_4 152 (by decide +kernel) rfl
theorem w_1076 : Cond.methodLink RX9 189 yX9_isGreat ∈ tb := tbc_4 153 (by decide +kernel) rfl
theorem w_1077 : Cond.static yX9_isGreat ∈ tb := tbc_4 154 (by decide +kernel) rfl
theorem w_1078 : Cond.code yX9_isGreat cX9_isGreat 2 (some .boolean) ∈ tb := tbc_4 155 (by decide +kernel) rfl
theorem w_1083 : Cond.methodLink RX9 176 yX9_forgetLast ∈ tb := tbc_4 160 (by decide +kernel) rfl
theorem w_1085 : Cond.instanceMethod yX9_forgetLast ∈ tb := tbc_4 162 (by decide +kernel) rfl
theorem w_1086 : Cond.code yX9_forgetLast cX9_forgetLast 1 none ∈ tb := tbc_4 163 (by decide +kernel) rfl
theorem w_1087 : Cond.methodLink RX9 179 arraycopyName ∈ tb := tbc_4 164 (by decide +kernel) rfl
theorem w_1090 : Cond.methodLink RX9 214 yX9_hasCoefficient ∈ tb := tbc_4 167 (by decide +kernel) rfl
theorem w_1091 : Cond.static yX9_hasCoefficient ∈ tb := tbc_4 168 (by decide +kernel) rfl
theorem w_1092 : Cond.code yX9_hasCoefficient cX9_hasCoefficient 2 (some .boolean) ∈ tb := tbc_4 169 (by decide +kernel) rfl
theorem w_1093 : Cond.methodLink RX9 217 yX9_multiply ∈ tb := tbc_4 170 (by decide +kernel) rfl
theorem w_1094 : Cond.static yX9_multiply ∈ tb := tbc_4 171 (by decide +kernel) rfl
theorem w_1095 : Cond.code yX9_multiply cX9_multiply 7 none ∈ tb := tbc_4 172 (by decide +kernel) rfl
section RW40
variable {p : Program} {l : Launch} {e : Env} {R : Room} {s : State} {m : MethodId} {args : Array Value} {below : List Frame} {meth : Method} {c : Code} {H : Heap} {locs : List Loc} {cells slots : Nat} {Q : State → Prop}
variable {cc : ByteArray} {pc nL : Nat} {ls : Array Slot} {rest st0 : List Value} {G : sG} {n : Nat} {S : sS}
theorem c_X9_211 (Cx : sC G p m c cc nL s args RX9) {rm : Room} {mc ms : Nat} (h1 : rm.cells = mc) (h2 : rm.slots = ms) (h3 : rm.frames + 1 ≤ R.frames ∧ 8 + (4 + 11) + rm.locals ≤ R.locals) : CallW R s args RX9 RX9 211 yX9_factor cX9_factor 4 (some .boolean) (.code yX9_factor cX9_factor 4 (some .boolean) :: tb) rm mc ms 1 :=
  sCw Cx 1 w_1038 w_1040 w_32 w_208 w_1041 (by decide +kernel) h1 h2 h3
theorem c_X9_185 (Cx : sC G p m c cc nL s args RX9) {rm : Room} {mc ms : Nat} (h1 : rm.cells = mc) (h2 : rm.slots = ms) (h3 : rm.frames + 1 ≤ R.frames ∧ 8 + (4 + 11) + rm.locals ≤ R.locals) : CallB R s args RX9 185 yX9_addTo cX9_addTo 4 none (.code yX9_addTo cX9_addTo 4 none :: tb) rm mc ms 3 ∧ (Cond.static yX9_addTo).before args s = true :=
  sCS Cx 3 w_1065 w_1066 w_208 w_1067 (by decide +kernel) h1 h2 h3
theorem c_X9_166 (Cx : sC G p m c cc nL s args RX9) {rm : Room} {mc ms : Nat} (h1 : rm.cells = mc) (h2 : rm.slots = ms) (h3 : rm.frames + 1 ≤ R.frames ∧ 8 + (6 + 11) + rm.locals ≤ R.locals) : CallW R s args RX9 RX9 166 yX9_expression cX9_expression 6 (some .boolean) (.code yX9_expression cX9_expression 6 (some .boolean) :: tb) rm mc ms 1 :=
  sCw Cx 1 w_1030 w_1032 w_30 w_208 w_1033 (by decide +kernel) h1 h2 h3
theorem g_X9_31 (Cx : sC G p m c cc nL s args RX9) (hW : sW G n S H) {k : Nat} (hk : k < n) (ht : tau k = .inl 9) {v : Value} (hv : S.2.2.2 k 4 = v) (hdg : decode cc pc = .ok (.getfield 31, 3)) (kk : W p l e R s m args below meth c H locs cells slots Q (F0 m (pc + 3) ls (v :: rest))) : W p l e R s m args below meth c H locs cells slots Q (F0 m pc ls (.ref (G.2.2.1 + k) :: rest)) :=
  sGet Cx inX9 rfl 4 (by decide) w_333 hW hk ht hv hdg kk
theorem c_X9_176 (Cx : sC G p m c cc nL s args RX9) {rm : Room} {mc ms : Nat} (h1 : rm.cells = mc) (h2 : rm.slots = ms) (h3 : rm.frames + 1 ≤ R.frames ∧ 8 + (1 + 11) + rm.locals ≤ R.locals) : CallW R s args RX9 RX9 176 yX9_forgetLast cX9_forgetLast 1 none (.code yX9_forgetLast cX9_forgetLast 1 none :: tb) rm mc ms 0 :=
  sCw Cx 0 w_1083 w_1085 w_40 w_208 w_1086 (by decide +kernel) h1 h2 h3
theorem c_X9_189 (Cx : sC G p m c cc nL s args RX9) {rm : Room} {mc ms : Nat} (h1 : rm.cells = mc) (h2 : rm.slots = ms) (h3 : rm.frames + 1 ≤ R.frames ∧ 8 + (2 + 11) + rm.locals ≤ R.locals) : CallB R s args RX9 189 yX9_isGreat cX9_isGreat 2 (some .boolean) (.code yX9_isGreat cX9_isGreat 2 (some .boolean) :: tb) rm mc ms 1 ∧ (Cond.static yX9_isGreat).before args s = true :=
  sCS Cx 1 w_1076 w_1077 w_208 w_1078 (by decide +kernel) h1 h2 h3
theorem g_X9_86 (Cx : sC G p m c cc nL s args RX9) (hW : sW G n S H) {k : Nat} (hk : k < n) (ht : tau k = .inl 9) {v : Int} (hv : S.1 k 12 = v) (hdg : decode cc pc = .ok (.getfield 86, 3)) (kk : W p l e R s m args below meth c H locs cells slots Q (F0 m (pc + 3) ls (.int (iv v) :: rest))) : W p l e R s m args below meth c H locs cells slots Q (F0 m pc ls (.ref (G.2.2.1 + k) :: rest)) :=
  sGet Cx inX9 rfl 12 (by decide) w_341 hW hk ht (congrArg (fun z => Value.int (iv z)) hv) hdg kk
theorem p_X9_86 (Cx : sC G p m c cc nL s args RX9) (hW : sW G n S H) (hL : sL G locs) {k : Nat} (hk : k < n) (ht : tau k = .inl 9) {v : Int} (hdg : decode cc pc = .ok (.putfield 86, 3)) (kk : ∀ (H1 : Heap) (locs1 : List Loc), sW G n (uF S k 12 v) H1 → sL G locs1 → W p l e R s m args below meth c H1 locs1 cells slots Q (F0 m (pc + 3) ls rest)) : W p l e R s m args below meth c H locs cells slots Q (F0 m pc ls (.int (iv v) :: .ref (G.2.2.1 + k) :: rest)) :=
  sPut Cx inX9 tyX9 tyX9_ok nmX9 rfl 12 (by decide) w_341 rfl hW hL hk ht rfl rfl (fun _ h => uF_same h) (fun _ h => uF_off h) (congrArg (fun z => Value.int (iv z)) uF_on) hdg kk
theorem c_X9_224 (Cx : sC G p m c cc nL s args RX9) {rm : Room} {mc ms : Nat} (h1 : rm.cells = mc) (h2 : rm.slots = ms) (h3 : rm.frames + 1 ≤ R.frames ∧ 8 + (5 + 11) + rm.locals ≤ R.locals) : CallB R s args RX9 224 yJ7_fill_d0a16 cJ7_fill_d0a16 5 none (.code yJ7_fill_d0a16 cJ7_fill_d0a16 5 none :: tb) rm mc ms 2 ∧ (Cond.static yJ7_fill_d0a16).before args s = true :=
  sCS Cx 2 w_1046 w_1047 w_223 w_1048 (by decide +kernel) h1 h2 h3
theorem c_X9_230 (Cx : sC G p m c cc nL s args RX9) {rm : Room} {mc ms : Nat} (h1 : rm.cells = mc) (h2 : rm.slots = ms) (h3 : rm.frames + 1 ≤ R.frames ∧ 8 + (11 + 11) + rm.locals ≤ R.locals) : CallW R s args RX9 RX9 230 yX9_named cX9_named 11 (some .boolean) (.code yX9_named cX9_named 11 (some .boolean) :: tb) rm mc ms 2 :=
  sCw Cx 2 w_1049 w_1051 w_34 w_208 w_1052 (by decide +kernel) h1 h2 h3
theorem c_X9_239 (Cx : sC G p m c cc nL s args RX9) {rm : Room} {mc ms : Nat} (h1 : rm.cells = mc) (h2 : rm.slots = ms) (h3 : rm.frames + 1 ≤ R.frames ∧ 8 + (7 + 11) + rm.locals ≤ R.locals) : CallW R s args RX9 RX9 239 yX9_summed cX9_summed 7 (some .boolean) (.code yX9_summed cX9_summed 7 (some .boolean) :: tb) rm mc ms 1 :=
  sCw Cx 1 w_1072 w_1074 w_39 w_208 w_1075 (by decide +kernel) h1 h2 h3
theorem c_X9_236 (Cx : sC G p m c cc nL s args RX9) {rm : Room} {mc ms : Nat} (h1 : rm.cells = mc) (h2 : rm.slots = ms) (h3 : rm.frames + 1 ≤ R.frames ∧ 8 + (2 + 11) + rm.locals ≤ R.locals) : CallW R s args RX9 RX9 236 yX9_inner cX9_inner 2 (some .boolean) (.code yX9_inner cX9_inner 2 (some .boolean) :: tb) rm mc ms 1 :=
  sCw Cx 1 w_1068 w_1070 w_38 w_208 w_1071 (by decide +kernel) h1 h2 h3
theorem c_X9_233 (Cx : sC G p m c cc nL s args RX9) {rm : Room} {mc ms : Nat} (h1 : rm.cells = mc) (h2 : rm.slots = ms) (h3 : rm.frames + 1 ≤ R.frames ∧ 8 + (2 + 11) + rm.locals ≤ R.locals) : CallW R s args RX9 RX9 233 yX9_negated cX9_negated 2 (some .boolean) (.code yX9_negated cX9_negated 2 (some .boolean) :: tb) rm mc ms 1 :=
  sCw Cx 1 w_1061 w_1063 w_37 w_208 w_1064 (by decide +kernel) h1 h2 h3
theorem c_X9_221 (Cx : sC G p m c cc nL s args RX9) {rm : Room} {mc ms : Nat} (h1 : rm.cells = mc) (h2 : rm.slots = ms) (h3 : rm.frames + 1 ≤ R.frames ∧ 8 + (2 + 11) + rm.locals ≤ R.locals) : CallW R s args RX9 RX9 221 yX9_canBeFactor cX9_canBeFactor 2 (some .boolean) (.code yX9_canBeFactor cX9_canBeFactor 2 (some .boolean) :: tb) rm mc ms 1 :=
  sCw Cx 1 w_1042 w_1044 w_33 w_208 w_1045 (by decide +kernel) h1 h2 h3
theorem g_X9_34 (Cx : sC G p m c cc nL s args RX9) (hW : sW G n S H) {k : Nat} (hk : k < n) (ht : tau k = .inl 9) {v : Value} (hv : S.2.2.2 k 5 = v) (hdg : decode cc pc = .ok (.getfield 34, 3)) (kk : W p l e R s m args below meth c H locs cells slots Q (F0 m (pc + 3) ls (v :: rest))) : W p l e R s m args below meth c H locs cells slots Q (F0 m pc ls (.ref (G.2.2.1 + k) :: rest)) :=
  sGet Cx inX9 rfl 5 (by decide) w_334 hW hk ht hv hdg kk
theorem c_X9_217 (Cx : sC G p m c cc nL s args RX9) {rm : Room} {mc ms : Nat} (h1 : rm.cells = mc) (h2 : rm.slots = ms) (h3 : rm.frames + 1 ≤ R.frames ∧ 8 + (7 + 11) + rm.locals ≤ R.locals) : CallB R s args RX9 217 yX9_multiply cX9_multiply 7 none (.code yX9_multiply cX9_multiply 7 none :: tb) rm mc ms 2 ∧ (Cond.static yX9_multiply).before args s = true :=
  sCS Cx 2 w_1093 w_1094 w_208 w_1095 (by decide +kernel) h1 h2 h3
theorem c_X9_214 (Cx : sC G p m c cc nL s args RX9) {rm : Room} {mc ms : Nat} (h1 : rm.cells = mc) (h2 : rm.slots = ms) (h3 : rm.frames + 1 ≤ R.frames ∧ 8 + (2 + 11) + rm.locals ≤ R.locals) : CallB R s args RX9 214 yX9_hasCoefficient cX9_hasCoefficient 2 (some .boolean) (.code yX9_hasCoefficient cX9_hasCoefficient 2 (some .boolean) :: tb) rm mc ms 1 ∧ (Cond.static yX9_hasCoefficient).before args s = true :=
  sCS Cx 1 w_1090 w_1091 w_208 w_1092 (by decide +kernel) h1 h2 h3
theorem c_X9_208 (Cx : sC G p m c cc nL s args RX9) {rm : Room} {mc ms : Nat} (h1 : rm.cells = mc) (h2 : rm.slots = ms) (h3 : rm.frames + 1 ≤ R.frames ∧ 8 + (5 + 11) + rm.locals ≤ R.locals) : CallW R s args RX9 RX9 208 yX9_term cX9_term 5 (some .boolean) (.code yX9_term cX9_term 5 (some .boolean) :: tb) rm mc ms 1 :=
  sCw Cx 1 w_1034 w_1036 w_31 w_208 w_1037 (by decide +kernel) h1 h2 h3
end RW40
