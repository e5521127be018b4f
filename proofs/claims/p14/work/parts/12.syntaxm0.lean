theorem dX8_declaration_0 : decode cX8_declaration 0 = .ok (.aload_n 0, 1) := by decide +kernel
theorem dX8_declaration_1 : decode cX8_declaration 1 = .ok (.aload_n 0, 1) := by decide +kernel
theorem dX8_declaration_2 : decode cX8_declaration 2 = .ok (.getfield 26, 3) := by decide +kernel
theorem dX8_declaration_5 : decode cX8_declaration 5 = .ok (.invokevirtual 98, 3) := by decide +kernel
theorem dX8_declaration_8 : decode cX8_declaration 8 = .ok (.istore_n 1, 1) := by decide +kernel
theorem dX8_declaration_9 : decode cX8_declaration 9 = .ok (.aload_n 0, 1) := by decide +kernel
theorem dX8_declaration_10 : decode cX8_declaration 10 = .ok (.dup, 1) := by decide +kernel
theorem dX8_declaration_11 : decode cX8_declaration 11 = .ok (.getfield 26, 3) := by decide +kernel
theorem dX8_declaration_14 : decode cX8_declaration 14 = .ok (.iconst 1, 1) := by decide +kernel
theorem dX8_declaration_15 : decode cX8_declaration 15 = .ok (.iadd, 1) := by decide +kernel
theorem dX8_declaration_16 : decode cX8_declaration 16 = .ok (.putfield 26, 3) := by decide +kernel
theorem dX8_declaration_19 : decode cX8_declaration 19 = .ok (.aload_n 0, 1) := by decide +kernel
theorem dX8_declaration_20 : decode cX8_declaration 20 = .ok (.iconst 2, 1) := by decide +kernel
theorem dX8_declaration_21 : decode cX8_declaration 21 = .ok (.invokevirtual 92, 3) := by decide +kernel
theorem dX8_declaration_24 : decode cX8_declaration 24 = .ok (.ifCond .ne 5, 3) := by decide +kernel
theorem dX8_declaration_27 : decode cX8_declaration 27 = .ok (.iconst 0, 1) := by decide +kernel
theorem dX8_declaration_28 : decode cX8_declaration 28 = .ok (.ireturn, 1) := by decide +kernel
theorem dX8_declaration_29 : decode cX8_declaration 29 = .ok (.iload_n 1, 1) := by decide +kernel
theorem dX8_declaration_30 : decode cX8_declaration 30 = .ok (.bipush 6, 2) := by decide +kernel
theorem dX8_declaration_32 : decode cX8_declaration 32 = .ok (.if_icmp .ne 52, 3) := by decide +kernel
theorem dX8_declaration_35 : decode cX8_declaration 35 = .ok (.aload_n 0, 1) := by decide +kernel
theorem dX8_declaration_36 : decode cX8_declaration 36 = .ok (.bipush 13, 2) := by decide +kernel
theorem dX8_declaration_38 : decode cX8_declaration 38 = .ok (.invokevirtual 92, 3) := by decide +kernel
theorem dX8_declaration_41 : decode cX8_declaration 41 = .ok (.ifCond .eq 41, 3) := by decide +kernel
theorem dX8_declaration_44 : decode cX8_declaration 44 = .ok (.aload_n 0, 1) := by decide +kernel
theorem dX8_declaration_45 : decode cX8_declaration 45 = .ok (.iconst 3, 1) := by decide +kernel
theorem dX8_declaration_46 : decode cX8_declaration 46 = .ok (.invokevirtual 92, 3) := by decide +kernel
theorem dX8_declaration_49 : decode cX8_declaration 49 = .ok (.ifCond .eq 33, 3) := by decide +kernel
theorem dX8_declaration_52 : decode cX8_declaration 52 = .ok (.aload_n 0, 1) := by decide +kernel
theorem dX8_declaration_53 : decode cX8_declaration 53 = .ok (.bipush 14, 2) := by decide +kernel
theorem dX8_declaration_55 : decode cX8_declaration 55 = .ok (.invokevirtual 92, 3) := by decide +kernel
theorem dX8_declaration_58 : decode cX8_declaration 58 = .ok (.ifCond .eq 24, 3) := by decide +kernel
theorem dX8_declaration_61 : decode cX8_declaration 61 = .ok (.aload_n 0, 1) := by decide +kernel
theorem dX8_declaration_62 : decode cX8_declaration 62 = .ok (.iconst 3, 1) := by decide +kernel
theorem dX8_declaration_63 : decode cX8_declaration 63 = .ok (.invokevirtual 92, 3) := by decide +kernel
theorem dX8_declaration_66 : decode cX8_declaration 66 = .ok (.ifCond .eq 16, 3) := by decide +kernel
theorem dX8_declaration_69 : decode cX8_declaration 69 = .ok (.aload_n 0, 1) := by decide +kernel
theorem dX8_declaration_70 : decode cX8_declaration 70 = .ok (.bipush 15, 2) := by decide +kernel
theorem dX8_declaration_72 : decode cX8_declaration 72 = .ok (.invokevirtual 92, 3) := by decide +kernel
theorem dX8_declaration_75 : decode cX8_declaration 75 = .ok (.ifCond .eq 7, 3) := by decide +kernel
theorem dX8_declaration_78 : decode cX8_declaration 78 = .ok (.iconst 1, 1) := by decide +kernel
theorem dX8_declaration_79 : decode cX8_declaration 79 = .ok (.goto 4, 3) := by decide +kernel
theorem dX8_declaration_82 : decode cX8_declaration 82 = .ok (.iconst 0, 1) := by decide +kernel
theorem dX8_declaration_83 : decode cX8_declaration 83 = .ok (.ireturn, 1) := by decide +kernel
theorem dX8_declaration_84 : decode cX8_declaration 84 = .ok (.aload_n 0, 1) := by decide +kernel
theorem dX8_declaration_85 : decode cX8_declaration 85 = .ok (.invokevirtual 101, 3) := by decide +kernel
theorem dX8_declaration_88 : decode cX8_declaration 88 = .ok (.ifCond .ne 5, 3) := by decide +kernel
theorem dX8_declaration_91 : decode cX8_declaration 91 = .ok (.iconst 0, 1) := by decide +kernel
theorem dX8_declaration_92 : decode cX8_declaration 92 = .ok (.ireturn, 1) := by decide +kernel
theorem dX8_declaration_93 : decode cX8_declaration 93 = .ok (.iload_n 1, 1) := by decide +kernel
theorem dX8_declaration_94 : decode cX8_declaration 94 = .ok (.bipush 8, 2) := by decide +kernel
theorem dX8_declaration_96 : decode cX8_declaration 96 = .ok (.if_icmp .ne 17, 3) := by decide +kernel
theorem dX8_declaration_99 : decode cX8_declaration 99 = .ok (.aload_n 0, 1) := by decide +kernel
theorem dX8_declaration_100 : decode cX8_declaration 100 = .ok (.bipush 9, 2) := by decide +kernel
theorem dX8_declaration_102 : decode cX8_declaration 102 = .ok (.invokevirtual 92, 3) := by decide +kernel
theorem dX8_declaration_105 : decode cX8_declaration 105 = .ok (.pop, 1) := by decide +kernel
theorem dX8_declaration_106 : decode cX8_declaration 106 = .ok (.aload_n 0, 1) := by decide +kernel
theorem dX8_declaration_107 : decode cX8_declaration 107 = .ok (.bipush 15, 2) := by decide +kernel
theorem dX8_declaration_109 : decode cX8_declaration 109 = .ok (.invokevirtual 92, 3) := by decide +kernel
theorem dX8_declaration_112 : decode cX8_declaration 112 = .ok (.ireturn, 1) := by decide +kernel
theorem dX8_declaration_113 : decode cX8_declaration 113 = .ok (.aload_n 0, 1) := by decide +kernel
theorem dX8_declaration_114 : decode cX8_declaration 114 = .ok (.bipush 13, 2) := by decide +kernel
theorem dX8_declaration_116 : decode cX8_declaration 116 = .ok (.invokevirtual 92, 3) := by decide +kernel
theorem dX8_declaration_119 : decode cX8_declaration 119 = .ok (.ifCond .eq 23, 3) := by decide +kernel
theorem dX8_declaration_122 : decode cX8_declaration 122 = .ok (.aload_n 0, 1) := by decide +kernel
theorem dX8_declaration_123 : decode cX8_declaration 123 = .ok (.invokevirtual 104, 3) := by decide +kernel
theorem dX8_declaration_126 : decode cX8_declaration 126 = .ok (.ifCond .eq 16, 3) := by decide +kernel
theorem dX8_declaration_129 : decode cX8_declaration 129 = .ok (.aload_n 0, 1) := by decide +kernel
theorem dX8_declaration_130 : decode cX8_declaration 130 = .ok (.bipush 15, 2) := by decide +kernel
theorem dX8_declaration_132 : decode cX8_declaration 132 = .ok (.invokevirtual 92, 3) := by decide +kernel
theorem dX8_declaration_135 : decode cX8_declaration 135 = .ok (.ifCond .eq 7, 3) := by decide +kernel
theorem dX8_declaration_138 : decode cX8_declaration 138 = .ok (.iconst 1, 1) := by decide +kernel
theorem dX8_declaration_139 : decode cX8_declaration 139 = .ok (.goto 4, 3) := by decide +kernel
theorem dX8_declaration_142 : decode cX8_declaration 142 = .ok (.iconst 0, 1) := by decide +kernel
theorem dX8_declaration_143 : decode cX8_declaration 143 = .ok (.ireturn, 1) := by decide +kernel
theorem dX8_expression_0 : decode cX8_expression 0 = .ok (.aload_n 0, 1) := by decide +kernel
theorem dX8_expression_1 : decode cX8_expression 1 = .ok (.iload_n 1, 1) := by decide +kernel
theorem dX8_expression_2 : decode cX8_expression 2 = .ok (.invokevirtual 107, 3) := by decide +kernel
theorem dX8_expression_5 : decode cX8_expression 5 = .ok (.ifCond .ne 5, 3) := by decide +kernel
theorem dX8_expression_8 : decode cX8_expression 8 = .ok (.iconst 0, 1) := by decide +kernel
theorem dX8_expression_9 : decode cX8_expression 9 = .ok (.ireturn, 1) := by decide +kernel
theorem dX8_expression_10 : decode cX8_expression 10 = .ok (.iconst 0, 1) := by decide +kernel
theorem dX8_expression_11 : decode cX8_expression 11 = .ok (.istore_n 2, 1) := by decide +kernel
theorem dX8_expression_12 : decode cX8_expression 12 = .ok (.iload_n 2, 1) := by decide +kernel
theorem dX8_expression_13 : decode cX8_expression 13 = .ok (.aload_n 0, 1) := by decide +kernel
theorem dX8_expression_14 : decode cX8_expression 14 = .ok (.getfield 22, 3) := by decide +kernel
theorem dX8_expression_17 : decode cX8_expression 17 = .ok (.if_icmp .ge 47, 3) := by decide +kernel
theorem dX8_expression_20 : decode cX8_expression 20 = .ok (.aload_n 0, 1) := by decide +kernel
theorem dX8_expression_21 : decode cX8_expression 21 = .ok (.bipush 21, 2) := by decide +kernel
theorem dX8_expression_23 : decode cX8_expression 23 = .ok (.invokevirtual 82, 3) := by decide +kernel
theorem dX8_expression_26 : decode cX8_expression 26 = .ok (.ifCond .ne 12, 3) := by decide +kernel
theorem dX8_expression_29 : decode cX8_expression 29 = .ok (.aload_n 0, 1) := by decide +kernel
theorem dX8_expression_30 : decode cX8_expression 30 = .ok (.bipush 22, 2) := by decide +kernel
theorem dX8_expression_32 : decode cX8_expression 32 = .ok (.invokevirtual 82, 3) := by decide +kernel
theorem dX8_expression_35 : decode cX8_expression 35 = .ok (.ifCond .eq 29, 3) := by decide +kernel
theorem dX8_expression_38 : decode cX8_expression 38 = .ok (.aload_n 0, 1) := by decide +kernel
theorem dX8_expression_39 : decode cX8_expression 39 = .ok (.dup, 1) := by decide +kernel
theorem dX8_expression_40 : decode cX8_expression 40 = .ok (.getfield 26, 3) := by decide +kernel
theorem dX8_expression_43 : decode cX8_expression 43 = .ok (.iconst 1, 1) := by decide +kernel
theorem dX8_expression_44 : decode cX8_expression 44 = .ok (.iadd, 1) := by decide +kernel
theorem dX8_expression_45 : decode cX8_expression 45 = .ok (.putfield 26, 3) := by decide +kernel
theorem dX8_expression_48 : decode cX8_expression 48 = .ok (.aload_n 0, 1) := by decide +kernel
theorem dX8_expression_49 : decode cX8_expression 49 = .ok (.iload_n 1, 1) := by decide +kernel
theorem dX8_expression_50 : decode cX8_expression 50 = .ok (.invokevirtual 107, 3) := by decide +kernel
theorem dX8_expression_53 : decode cX8_expression 53 = .ok (.ifCond .ne 5, 3) := by decide +kernel
theorem dX8_expression_56 : decode cX8_expression 56 = .ok (.iconst 0, 1) := by decide +kernel
theorem dX8_expression_57 : decode cX8_expression 57 = .ok (.ireturn, 1) := by decide +kernel
theorem dX8_expression_58 : decode cX8_expression 58 = .ok (.iinc 2 1, 3) := by decide +kernel
theorem dX8_expression_61 : decode cX8_expression 61 = .ok (.goto (-49), 3) := by decide +kernel
theorem dX8_expression_64 : decode cX8_expression 64 = .ok (.iconst 1, 1) := by decide +kernel
theorem dX8_expression_65 : decode cX8_expression 65 = .ok (.ireturn, 1) := by decide +kernel
theorem dX8_factor_0 : decode cX8_factor 0 = .ok (.iload_n 1, 1) := by decide +kernel
theorem dX8_factor_1 : decode cX8_factor 1 = .ok (.bipush 30, 2) := by decide +kernel
theorem dX8_factor_3 : decode cX8_factor 3 = .ok (.if_icmp .lt 5, 3) := by decide +kernel
theorem dX8_factor_6 : decode cX8_factor 6 = .ok (.iconst 0, 1) := by decide +kernel
theorem dX8_factor_7 : decode cX8_factor 7 = .ok (.ireturn, 1) := by decide +kernel
theorem dX8_factor_8 : decode cX8_factor 8 = .ok (.aload_n 0, 1) := by decide +kernel
theorem dX8_factor_9 : decode cX8_factor 9 = .ok (.aload_n 0, 1) := by decide +kernel
theorem dX8_factor_10 : decode cX8_factor 10 = .ok (.getfield 26, 3) := by decide +kernel
theorem dX8_factor_13 : decode cX8_factor 13 = .ok (.invokevirtual 98, 3) := by decide +kernel
theorem dX8_factor_16 : decode cX8_factor 16 = .ok (.lookupswitch 218 #[(2, 186), (3, 52), (11, 117), (19, 82), (22, 64)], 52) := by decide +kernel
theorem dX8_factor_68 : decode cX8_factor 68 = .ok (.aload_n 0, 1) := by decide +kernel
theorem dX8_factor_69 : decode cX8_factor 69 = .ok (.dup, 1) := by decide +kernel
theorem dX8_factor_70 : decode cX8_factor 70 = .ok (.getfield 26, 3) := by decide +kernel
theorem dX8_factor_73 : decode cX8_factor 73 = .ok (.iconst 1, 1) := by decide +kernel
theorem dX8_factor_74 : decode cX8_factor 74 = .ok (.iadd, 1) := by decide +kernel
theorem dX8_factor_75 : decode cX8_factor 75 = .ok (.putfield 26, 3) := by decide +kernel
theorem dX8_factor_78 : decode cX8_factor 78 = .ok (.iconst 1, 1) := by decide +kernel
theorem dX8_factor_79 : decode cX8_factor 79 = .ok (.ireturn, 1) := by decide +kernel
theorem dX8_factor_80 : decode cX8_factor 80 = .ok (.aload_n 0, 1) := by decide +kernel
theorem dX8_factor_81 : decode cX8_factor 81 = .ok (.dup, 1) := by decide +kernel
theorem dX8_factor_82 : decode cX8_factor 82 = .ok (.getfield 26, 3) := by decide +kernel
theorem dX8_factor_85 : decode cX8_factor 85 = .ok (.iconst 1, 1) := by decide +kernel
theorem dX8_factor_86 : decode cX8_factor 86 = .ok (.iadd, 1) := by decide +kernel
theorem dX8_factor_87 : decode cX8_factor 87 = .ok (.putfield 26, 3) := by decide +kernel
theorem dX8_factor_90 : decode cX8_factor 90 = .ok (.aload_n 0, 1) := by decide +kernel
theorem dX8_factor_91 : decode cX8_factor 91 = .ok (.iload_n 1, 1) := by decide +kernel
theorem dX8_factor_92 : decode cX8_factor 92 = .ok (.iconst 1, 1) := by decide +kernel
theorem dX8_factor_93 : decode cX8_factor 93 = .ok (.iadd, 1) := by decide +kernel
theorem dX8_factor_94 : decode cX8_factor 94 = .ok (.invokevirtual 110, 3) := by decide +kernel
theorem dX8_factor_97 : decode cX8_factor 97 = .ok (.ireturn, 1) := by decide +kernel
theorem dX8_factor_98 : decode cX8_factor 98 = .ok (.aload_n 0, 1) := by decide +kernel
theorem dX8_factor_99 : decode cX8_factor 99 = .ok (.dup, 1) := by decide +kernel
theorem dX8_factor_100 : decode cX8_factor 100 = .ok (.getfield 26, 3) := by decide +kernel
theorem dX8_factor_103 : decode cX8_factor 103 = .ok (.iconst 1, 1) := by decide +kernel
theorem dX8_factor_104 : decode cX8_factor 104 = .ok (.iadd, 1) := by decide +kernel
theorem dX8_factor_105 : decode cX8_factor 105 = .ok (.putfield 26, 3) := by decide +kernel
theorem dX8_factor_108 : decode cX8_factor 108 = .ok (.aload_n 0, 1) := by decide +kernel
theorem dX8_factor_109 : decode cX8_factor 109 = .ok (.iload_n 1, 1) := by decide +kernel
theorem dX8_factor_110 : decode cX8_factor 110 = .ok (.iconst 1, 1) := by decide +kernel
theorem dX8_factor_111 : decode cX8_factor 111 = .ok (.iadd, 1) := by decide +kernel
theorem dX8_factor_112 : decode cX8_factor 112 = .ok (.invokevirtual 89, 3) := by decide +kernel
theorem dX8_factor_115 : decode cX8_factor 115 = .ok (.ifCond .eq 16, 3) := by decide +kernel
theorem dX8_factor_118 : decode cX8_factor 118 = .ok (.aload_n 0, 1) := by decide +kernel
theorem dX8_factor_119 : decode cX8_factor 119 = .ok (.bipush 20, 2) := by decide +kernel
theorem dX8_factor_121 : decode cX8_factor 121 = .ok (.invokevirtual 92, 3) := by decide +kernel
theorem dX8_factor_124 : decode cX8_factor 124 = .ok (.ifCond .eq 7, 3) := by decide +kernel
theorem dX8_factor_127 : decode cX8_factor 127 = .ok (.iconst 1, 1) := by decide +kernel
theorem dX8_factor_128 : decode cX8_factor 128 = .ok (.goto 4, 3) := by decide +kernel
theorem dX8_factor_131 : decode cX8_factor 131 = .ok (.iconst 0, 1) := by decide +kernel
theorem dX8_factor_132 : decode cX8_factor 132 = .ok (.ireturn, 1) := by decide +kernel
theorem dX8_factor_133 : decode cX8_factor 133 = .ok (.aload_n 0, 1) := by decide +kernel
theorem dX8_factor_134 : decode cX8_factor 134 = .ok (.dup, 1) := by decide +kernel
theorem dX8_factor_135 : decode cX8_factor 135 = .ok (.getfield 26, 3) := by decide +kernel
theorem dX8_factor_138 : decode cX8_factor 138 = .ok (.iconst 1, 1) := by decide +kernel
theorem dX8_factor_139 : decode cX8_factor 139 = .ok (.iadd, 1) := by decide +kernel
theorem dX8_factor_140 : decode cX8_factor 140 = .ok (.putfield 26, 3) := by decide +kernel
theorem dX8_factor_143 : decode cX8_factor 143 = .ok (.aload_n 0, 1) := by decide +kernel
theorem dX8_factor_144 : decode cX8_factor 144 = .ok (.iconst 2, 1) := by decide +kernel
theorem dX8_factor_145 : decode cX8_factor 145 = .ok (.invokevirtual 92, 3) := by decide +kernel
theorem dX8_factor_148 : decode cX8_factor 148 = .ok (.ifCond .eq 52, 3) := by decide +kernel
theorem dX8_factor_151 : decode cX8_factor 151 = .ok (.aload_n 0, 1) := by decide +kernel
theorem dX8_factor_152 : decode cX8_factor 152 = .ok (.bipush 12, 2) := by decide +kernel
theorem dX8_factor_154 : decode cX8_factor 154 = .ok (.invokevirtual 92, 3) := by decide +kernel
theorem dX8_factor_157 : decode cX8_factor 157 = .ok (.ifCond .eq 43, 3) := by decide +kernel
theorem dX8_factor_160 : decode cX8_factor 160 = .ok (.aload_n 0, 1) := by decide +kernel
theorem dX8_factor_161 : decode cX8_factor 161 = .ok (.iconst 2, 1) := by decide +kernel
theorem dX8_factor_162 : decode cX8_factor 162 = .ok (.invokevirtual 92, 3) := by decide +kernel
theorem dX8_factor_165 : decode cX8_factor 165 = .ok (.ifCond .eq 35, 3) := by decide +kernel
theorem dX8_factor_168 : decode cX8_factor 168 = .ok (.aload_n 0, 1) := by decide +kernel
theorem dX8_factor_169 : decode cX8_factor 169 = .ok (.bipush 19, 2) := by decide +kernel
theorem dX8_factor_171 : decode cX8_factor 171 = .ok (.invokevirtual 92, 3) := by decide +kernel
theorem dX8_factor_174 : decode cX8_factor 174 = .ok (.ifCond .eq 26, 3) := by decide +kernel
theorem dX8_factor_177 : decode cX8_factor 177 = .ok (.aload_n 0, 1) := by decide +kernel
theorem dX8_factor_178 : decode cX8_factor 178 = .ok (.iload_n 1, 1) := by decide +kernel
theorem dX8_factor_179 : decode cX8_factor 179 = .ok (.iconst 1, 1) := by decide +kernel
theorem dX8_factor_180 : decode cX8_factor 180 = .ok (.iadd, 1) := by decide +kernel
theorem dX8_factor_181 : decode cX8_factor 181 = .ok (.invokevirtual 89, 3) := by decide +kernel
theorem dX8_factor_184 : decode cX8_factor 184 = .ok (.ifCond .eq 16, 3) := by decide +kernel
theorem dX8_factor_187 : decode cX8_factor 187 = .ok (.aload_n 0, 1) := by decide +kernel
theorem dX8_factor_188 : decode cX8_factor 188 = .ok (.bipush 20, 2) := by decide +kernel
theorem dX8_factor_190 : decode cX8_factor 190 = .ok (.invokevirtual 92, 3) := by decide +kernel
theorem dX8_factor_193 : decode cX8_factor 193 = .ok (.ifCond .eq 7, 3) := by decide +kernel
theorem dX8_factor_196 : decode cX8_factor 196 = .ok (.iconst 1, 1) := by decide +kernel
theorem dX8_factor_197 : decode cX8_factor 197 = .ok (.goto 4, 3) := by decide +kernel
theorem dX8_factor_200 : decode cX8_factor 200 = .ok (.iconst 0, 1) := by decide +kernel
theorem dX8_factor_201 : decode cX8_factor 201 = .ok (.ireturn, 1) := by decide +kernel
theorem dX8_factor_202 : decode cX8_factor 202 = .ok (.aload_n 0, 1) := by decide +kernel
theorem dX8_factor_203 : decode cX8_factor 203 = .ok (.dup, 1) := by decide +kernel
theorem dX8_factor_204 : decode cX8_factor 204 = .ok (.getfield 26, 3) := by decide +kernel
theorem dX8_factor_207 : decode cX8_factor 207 = .ok (.iconst 1, 1) := by decide +kernel
theorem dX8_factor_208 : decode cX8_factor 208 = .ok (.iadd, 1) := by decide +kernel
theorem dX8_factor_209 : decode cX8_factor 209 = .ok (.putfield 26, 3) := by decide +kernel
theorem dX8_factor_212 : decode cX8_factor 212 = .ok (.aload_n 0, 1) := by decide +kernel
theorem dX8_factor_213 : decode cX8_factor 213 = .ok (.bipush 17, 2) := by decide +kernel
theorem dX8_factor_215 : decode cX8_factor 215 = .ok (.invokevirtual 92, 3) := by decide +kernel
theorem dX8_factor_218 : decode cX8_factor 218 = .ok (.ifCond .eq 10, 3) := by decide +kernel
theorem dX8_factor_221 : decode cX8_factor 221 = .ok (.aload_n 0, 1) := by decide +kernel
theorem dX8_factor_222 : decode cX8_factor 222 = .ok (.invokevirtual 113, 3) := by decide +kernel
theorem dX8_factor_225 : decode cX8_factor 225 = .ok (.ifCond .eq 7, 3) := by decide +kernel
theorem dX8_factor_228 : decode cX8_factor 228 = .ok (.iconst 1, 1) := by decide +kernel
theorem dX8_factor_229 : decode cX8_factor 229 = .ok (.goto 4, 3) := by decide +kernel
theorem dX8_factor_232 : decode cX8_factor 232 = .ok (.iconst 0, 1) := by decide +kernel
theorem dX8_factor_233 : decode cX8_factor 233 = .ok (.ireturn, 1) := by decide +kernel
theorem dX8_factor_234 : decode cX8_factor 234 = .ok (.iconst 0, 1) := by decide +kernel
theorem dX8_factor_235 : decode cX8_factor 235 = .ok (.ireturn, 1) := by decide +kernel
theorem dX8_indexes_0 : decode cX8_indexes 0 = .ok (.aload_n 0, 1) := by decide +kernel
theorem dX8_indexes_1 : decode cX8_indexes 1 = .ok (.bipush 17, 2) := by decide +kernel
theorem dX8_indexes_3 : decode cX8_indexes 3 = .ok (.invokevirtual 92, 3) := by decide +kernel
theorem dX8_indexes_6 : decode cX8_indexes 6 = .ok (.ifCond .ne 5, 3) := by decide +kernel
theorem dX8_indexes_9 : decode cX8_indexes 9 = .ok (.iconst 1, 1) := by decide +kernel
theorem dX8_indexes_10 : decode cX8_indexes 10 = .ok (.ireturn, 1) := by decide +kernel
theorem dX8_indexes_11 : decode cX8_indexes 11 = .ok (.aload_n 0, 1) := by decide +kernel
theorem dX8_indexes_12 : decode cX8_indexes 12 = .ok (.iconst 2, 1) := by decide +kernel
theorem dX8_indexes_13 : decode cX8_indexes 13 = .ok (.invokevirtual 92, 3) := by decide +kernel
theorem dX8_indexes_16 : decode cX8_indexes 16 = .ok (.ifCond .ne 5, 3) := by decide +kernel
theorem dX8_indexes_19 : decode cX8_indexes 19 = .ok (.iconst 0, 1) := by decide +kernel
theorem dX8_indexes_20 : decode cX8_indexes 20 = .ok (.ireturn, 1) := by decide +kernel
theorem dX8_indexes_21 : decode cX8_indexes 21 = .ok (.aload_n 0, 1) := by decide +kernel
theorem dX8_indexes_22 : decode cX8_indexes 22 = .ok (.bipush 16, 2) := by decide +kernel
theorem dX8_indexes_24 : decode cX8_indexes 24 = .ok (.invokevirtual 92, 3) := by decide +kernel
theorem dX8_indexes_27 : decode cX8_indexes 27 = .ok (.ifCond .eq 13, 3) := by decide +kernel
theorem dX8_indexes_30 : decode cX8_indexes 30 = .ok (.aload_n 0, 1) := by decide +kernel
theorem dX8_indexes_31 : decode cX8_indexes 31 = .ok (.iconst 2, 1) := by decide +kernel
theorem dX8_indexes_32 : decode cX8_indexes 32 = .ok (.invokevirtual 92, 3) := by decide +kernel
theorem dX8_indexes_35 : decode cX8_indexes 35 = .ok (.ifCond .ne 5, 3) := by decide +kernel
theorem dX8_indexes_38 : decode cX8_indexes 38 = .ok (.iconst 0, 1) := by decide +kernel
theorem dX8_indexes_39 : decode cX8_indexes 39 = .ok (.ireturn, 1) := by decide +kernel
theorem dX8_indexes_40 : decode cX8_indexes 40 = .ok (.aload_n 0, 1) := by decide +kernel
theorem dX8_indexes_41 : decode cX8_indexes 41 = .ok (.bipush 18, 2) := by decide +kernel
theorem dX8_indexes_43 : decode cX8_indexes 43 = .ok (.invokevirtual 92, 3) := by decide +kernel
theorem dX8_indexes_46 : decode cX8_indexes 46 = .ok (.ireturn, 1) := by decide +kernel
theorem dX8_is_0 : decode cX8_is 0 = .ok (.aload_n 0, 1) := by decide +kernel
theorem dX8_is_1 : decode cX8_is 1 = .ok (.getfield 26, 3) := by decide +kernel
theorem dX8_is_4 : decode cX8_is 4 = .ok (.aload_n 0, 1) := by decide +kernel
theorem dX8_is_5 : decode cX8_is 5 = .ok (.getfield 22, 3) := by decide +kernel
theorem dX8_is_8 : decode cX8_is 8 = .ok (.if_icmp .ge 20, 3) := by decide +kernel
theorem dX8_is_11 : decode cX8_is 11 = .ok (.aload_n 0, 1) := by decide +kernel
theorem dX8_is_12 : decode cX8_is 12 = .ok (.getfield 11, 3) := by decide +kernel
theorem dX8_is_15 : decode cX8_is 15 = .ok (.aload_n 0, 1) := by decide +kernel
theorem dX8_is_16 : decode cX8_is 16 = .ok (.getfield 26, 3) := by decide +kernel
theorem dX8_is_19 : decode cX8_is 19 = .ok (.iaload, 1) := by decide +kernel
theorem dX8_is_20 : decode cX8_is 20 = .ok (.iload_n 1, 1) := by decide +kernel
theorem dX8_is_21 : decode cX8_is 21 = .ok (.if_icmp .ne 7, 3) := by decide +kernel
theorem dX8_is_24 : decode cX8_is 24 = .ok (.iconst 1, 1) := by decide +kernel
theorem dX8_is_25 : decode cX8_is 25 = .ok (.goto 4, 3) := by decide +kernel
theorem dX8_is_28 : decode cX8_is 28 = .ok (.iconst 0, 1) := by decide +kernel
theorem dX8_is_29 : decode cX8_is 29 = .ok (.ireturn, 1) := by decide +kernel
theorem dX8_isProgram_0 : decode cX8_isProgram 0 = .ok (.aload_n 0, 1) := by decide +kernel
theorem dX8_isProgram_1 : decode cX8_isProgram 1 = .ok (.iconst 0, 1) := by decide +kernel
theorem dX8_isProgram_2 : decode cX8_isProgram 2 = .ok (.putfield 26, 3) := by decide +kernel
theorem dX8_isProgram_5 : decode cX8_isProgram 5 = .ok (.iconst 0, 1) := by decide +kernel
theorem dX8_isProgram_6 : decode cX8_isProgram 6 = .ok (.istore_n 1, 1) := by decide +kernel
theorem dX8_isProgram_7 : decode cX8_isProgram 7 = .ok (.iload_n 1, 1) := by decide +kernel
theorem dX8_isProgram_8 : decode cX8_isProgram 8 = .ok (.aload_n 0, 1) := by decide +kernel
theorem dX8_isProgram_9 : decode cX8_isProgram 9 = .ok (.getfield 22, 3) := by decide +kernel
theorem dX8_isProgram_12 : decode cX8_isProgram 12 = .ok (.if_icmp .ge 45, 3) := by decide +kernel
theorem dX8_isProgram_15 : decode cX8_isProgram 15 = .ok (.aload_n 0, 1) := by decide +kernel
theorem dX8_isProgram_16 : decode cX8_isProgram 16 = .ok (.bipush 6, 2) := by decide +kernel
theorem dX8_isProgram_18 : decode cX8_isProgram 18 = .ok (.invokevirtual 82, 3) := by decide +kernel
theorem dX8_isProgram_21 : decode cX8_isProgram 21 = .ok (.ifCond .ne 21, 3) := by decide +kernel
theorem dX8_isProgram_24 : decode cX8_isProgram 24 = .ok (.aload_n 0, 1) := by decide +kernel
theorem dX8_isProgram_25 : decode cX8_isProgram 25 = .ok (.bipush 7, 2) := by decide +kernel
theorem dX8_isProgram_27 : decode cX8_isProgram 27 = .ok (.invokevirtual 82, 3) := by decide +kernel
theorem dX8_isProgram_30 : decode cX8_isProgram 30 = .ok (.ifCond .ne 12, 3) := by decide +kernel
theorem dX8_isProgram_33 : decode cX8_isProgram 33 = .ok (.aload_n 0, 1) := by decide +kernel
theorem dX8_isProgram_34 : decode cX8_isProgram 34 = .ok (.bipush 8, 2) := by decide +kernel
theorem dX8_isProgram_36 : decode cX8_isProgram 36 = .ok (.invokevirtual 82, 3) := by decide +kernel
theorem dX8_isProgram_39 : decode cX8_isProgram 39 = .ok (.ifCond .eq 18, 3) := by decide +kernel
theorem dX8_isProgram_42 : decode cX8_isProgram 42 = .ok (.aload_n 0, 1) := by decide +kernel
theorem dX8_isProgram_43 : decode cX8_isProgram 43 = .ok (.invokevirtual 85, 3) := by decide +kernel
theorem dX8_isProgram_46 : decode cX8_isProgram 46 = .ok (.ifCond .ne 5, 3) := by decide +kernel
theorem dX8_isProgram_49 : decode cX8_isProgram 49 = .ok (.iconst 0, 1) := by decide +kernel
theorem dX8_isProgram_50 : decode cX8_isProgram 50 = .ok (.ireturn, 1) := by decide +kernel
theorem dX8_isProgram_51 : decode cX8_isProgram 51 = .ok (.iinc 1 1, 3) := by decide +kernel
theorem dX8_isProgram_54 : decode cX8_isProgram 54 = .ok (.goto (-47), 3) := by decide +kernel
theorem dX8_isProgram_57 : decode cX8_isProgram 57 = .ok (.aload_n 0, 1) := by decide +kernel
theorem dX8_isProgram_58 : decode cX8_isProgram 58 = .ok (.iconst 4, 1) := by decide +kernel
theorem dX8_isProgram_59 : decode cX8_isProgram 59 = .ok (.invokevirtual 82, 3) := by decide +kernel
theorem dX8_isProgram_62 : decode cX8_isProgram 62 = .ok (.ifCond .ne 13, 3) := by decide +kernel
theorem dX8_isProgram_65 : decode cX8_isProgram 65 = .ok (.aload_n 0, 1) := by decide +kernel
theorem dX8_isProgram_66 : decode cX8_isProgram 66 = .ok (.iconst 5, 1) := by decide +kernel
theorem dX8_isProgram_67 : decode cX8_isProgram 67 = .ok (.invokevirtual 82, 3) := by decide +kernel
theorem dX8_isProgram_70 : decode cX8_isProgram 70 = .ok (.ifCond .ne 5, 3) := by decide +kernel
theorem dX8_isProgram_73 : decode cX8_isProgram 73 = .ok (.iconst 0, 1) := by decide +kernel
theorem dX8_isProgram_74 : decode cX8_isProgram 74 = .ok (.ireturn, 1) := by decide +kernel
theorem dX8_isProgram_75 : decode cX8_isProgram 75 = .ok (.aload_n 0, 1) := by decide +kernel
theorem dX8_isProgram_76 : decode cX8_isProgram 76 = .ok (.dup, 1) := by decide +kernel
theorem dX8_isProgram_77 : decode cX8_isProgram 77 = .ok (.getfield 26, 3) := by decide +kernel
theorem dX8_isProgram_80 : decode cX8_isProgram 80 = .ok (.iconst 1, 1) := by decide +kernel
theorem dX8_isProgram_81 : decode cX8_isProgram 81 = .ok (.iadd, 1) := by decide +kernel
theorem dX8_isProgram_82 : decode cX8_isProgram 82 = .ok (.putfield 26, 3) := by decide +kernel
theorem dX8_isProgram_85 : decode cX8_isProgram 85 = .ok (.aload_n 0, 1) := by decide +kernel
theorem dX8_isProgram_86 : decode cX8_isProgram 86 = .ok (.iconst 0, 1) := by decide +kernel
theorem dX8_isProgram_87 : decode cX8_isProgram 87 = .ok (.invokevirtual 89, 3) := by decide +kernel
theorem dX8_isProgram_90 : decode cX8_isProgram 90 = .ok (.ifCond .eq 12, 3) := by decide +kernel
theorem dX8_isProgram_93 : decode cX8_isProgram 93 = .ok (.aload_n 0, 1) := by decide +kernel
theorem dX8_isProgram_94 : decode cX8_isProgram 94 = .ok (.bipush 15, 2) := by decide +kernel
theorem dX8_isProgram_96 : decode cX8_isProgram 96 = .ok (.invokevirtual 92, 3) := by decide +kernel
theorem dX8_isProgram_99 : decode cX8_isProgram 99 = .ok (.ifCond .ne 5, 3) := by decide +kernel
theorem dX8_isProgram_102 : decode cX8_isProgram 102 = .ok (.iconst 0, 1) := by decide +kernel
theorem dX8_isProgram_103 : decode cX8_isProgram 103 = .ok (.ireturn, 1) := by decide +kernel
theorem dX8_isProgram_104 : decode cX8_isProgram 104 = .ok (.iconst 0, 1) := by decide +kernel
theorem dX8_isProgram_105 : decode cX8_isProgram 105 = .ok (.istore_n 1, 1) := by decide +kernel
theorem dX8_isProgram_106 : decode cX8_isProgram 106 = .ok (.iload_n 1, 1) := by decide +kernel
theorem dX8_isProgram_107 : decode cX8_isProgram 107 = .ok (.aload_n 0, 1) := by decide +kernel
theorem dX8_isProgram_108 : decode cX8_isProgram 108 = .ok (.getfield 22, 3) := by decide +kernel
theorem dX8_isProgram_111 : decode cX8_isProgram 111 = .ok (.if_icmp .ge 27, 3) := by decide +kernel
theorem dX8_isProgram_114 : decode cX8_isProgram 114 = .ok (.aload_n 0, 1) := by decide +kernel
theorem dX8_isProgram_115 : decode cX8_isProgram 115 = .ok (.bipush 10, 2) := by decide +kernel
theorem dX8_isProgram_117 : decode cX8_isProgram 117 = .ok (.invokevirtual 82, 3) := by decide +kernel
theorem dX8_isProgram_120 : decode cX8_isProgram 120 = .ok (.ifCond .eq 18, 3) := by decide +kernel
theorem dX8_isProgram_123 : decode cX8_isProgram 123 = .ok (.aload_n 0, 1) := by decide +kernel
theorem dX8_isProgram_124 : decode cX8_isProgram 124 = .ok (.invokevirtual 95, 3) := by decide +kernel
theorem dX8_isProgram_127 : decode cX8_isProgram 127 = .ok (.ifCond .ne 5, 3) := by decide +kernel
theorem dX8_isProgram_130 : decode cX8_isProgram 130 = .ok (.iconst 0, 1) := by decide +kernel
theorem dX8_isProgram_131 : decode cX8_isProgram 131 = .ok (.ireturn, 1) := by decide +kernel
theorem dX8_isProgram_132 : decode cX8_isProgram 132 = .ok (.iinc 1 1, 3) := by decide +kernel
theorem dX8_isProgram_135 : decode cX8_isProgram 135 = .ok (.goto (-29), 3) := by decide +kernel
theorem dX8_isProgram_138 : decode cX8_isProgram 138 = .ok (.aload_n 0, 1) := by decide +kernel
theorem dX8_isProgram_139 : decode cX8_isProgram 139 = .ok (.iconst 0, 1) := by decide +kernel
theorem dX8_isProgram_140 : decode cX8_isProgram 140 = .ok (.invokevirtual 82, 3) := by decide +kernel
theorem dX8_isProgram_143 : decode cX8_isProgram 143 = .ok (.ireturn, 1) := by decide +kernel
theorem dX8_item_0 : decode cX8_item 0 = .ok (.aload_n 0, 1) := by decide +kernel
theorem dX8_item_1 : decode cX8_item 1 = .ok (.iconst 3, 1) := by decide +kernel
theorem dX8_item_2 : decode cX8_item 2 = .ok (.invokevirtual 92, 3) := by decide +kernel
theorem dX8_item_5 : decode cX8_item 5 = .ok (.ifCond .eq 5, 3) := by decide +kernel
theorem dX8_item_8 : decode cX8_item 8 = .ok (.iconst 1, 1) := by decide +kernel
theorem dX8_item_9 : decode cX8_item 9 = .ok (.ireturn, 1) := by decide +kernel
theorem dX8_item_10 : decode cX8_item 10 = .ok (.aload_n 0, 1) := by decide +kernel
theorem dX8_item_11 : decode cX8_item 11 = .ok (.iconst 2, 1) := by decide +kernel
theorem dX8_item_12 : decode cX8_item 12 = .ok (.invokevirtual 92, 3) := by decide +kernel
theorem dX8_item_15 : decode cX8_item 15 = .ok (.ifCond .ne 5, 3) := by decide +kernel
theorem dX8_item_18 : decode cX8_item 18 = .ok (.iconst 0, 1) := by decide +kernel
theorem dX8_item_19 : decode cX8_item 19 = .ok (.ireturn, 1) := by decide +kernel
theorem dX8_item_20 : decode cX8_item 20 = .ok (.aload_n 0, 1) := by decide +kernel
theorem dX8_item_21 : decode cX8_item 21 = .ok (.bipush 21, 2) := by decide +kernel
theorem dX8_item_23 : decode cX8_item 23 = .ok (.invokevirtual 82, 3) := by decide +kernel
theorem dX8_item_26 : decode cX8_item 26 = .ok (.ifCond .ne 12, 3) := by decide +kernel
theorem dX8_item_29 : decode cX8_item 29 = .ok (.aload_n 0, 1) := by decide +kernel
theorem dX8_item_30 : decode cX8_item 30 = .ok (.bipush 22, 2) := by decide +kernel
theorem dX8_item_32 : decode cX8_item 32 = .ok (.invokevirtual 82, 3) := by decide +kernel
theorem dX8_item_35 : decode cX8_item 35 = .ok (.ifCond .eq 19, 3) := by decide +kernel
theorem dX8_item_38 : decode cX8_item 38 = .ok (.aload_n 0, 1) := by decide +kernel
theorem dX8_item_39 : decode cX8_item 39 = .ok (.dup, 1) := by decide +kernel
theorem dX8_item_40 : decode cX8_item 40 = .ok (.getfield 26, 3) := by decide +kernel
theorem dX8_item_43 : decode cX8_item 43 = .ok (.iconst 1, 1) := by decide +kernel
theorem dX8_item_44 : decode cX8_item 44 = .ok (.iadd, 1) := by decide +kernel
theorem dX8_item_45 : decode cX8_item 45 = .ok (.putfield 26, 3) := by decide +kernel
theorem dX8_item_48 : decode cX8_item 48 = .ok (.aload_n 0, 1) := by decide +kernel
theorem dX8_item_49 : decode cX8_item 49 = .ok (.iconst 3, 1) := by decide +kernel
theorem dX8_item_50 : decode cX8_item 50 = .ok (.invokevirtual 92, 3) := by decide +kernel
theorem dX8_item_53 : decode cX8_item 53 = .ok (.ireturn, 1) := by decide +kernel
theorem dX8_item_54 : decode cX8_item 54 = .ok (.iconst 1, 1) := by decide +kernel
theorem dX8_item_55 : decode cX8_item 55 = .ok (.ireturn, 1) := by decide +kernel
theorem dX8_items_0 : decode cX8_items 0 = .ok (.aload_n 0, 1) := by decide +kernel
theorem dX8_items_1 : decode cX8_items 1 = .ok (.invokevirtual 116, 3) := by decide +kernel
theorem dX8_items_4 : decode cX8_items 4 = .ok (.ifCond .ne 5, 3) := by decide +kernel
theorem dX8_items_7 : decode cX8_items 7 = .ok (.iconst 0, 1) := by decide +kernel
theorem dX8_items_8 : decode cX8_items 8 = .ok (.ireturn, 1) := by decide +kernel
theorem dX8_items_9 : decode cX8_items 9 = .ok (.aload_n 0, 1) := by decide +kernel
theorem dX8_items_10 : decode cX8_items 10 = .ok (.bipush 16, 2) := by decide +kernel
theorem dX8_items_12 : decode cX8_items 12 = .ok (.invokevirtual 92, 3) := by decide +kernel
theorem dX8_items_15 : decode cX8_items 15 = .ok (.ifCond .eq 12, 3) := by decide +kernel
theorem dX8_items_18 : decode cX8_items 18 = .ok (.aload_n 0, 1) := by decide +kernel
theorem dX8_items_19 : decode cX8_items 19 = .ok (.invokevirtual 116, 3) := by decide +kernel
theorem dX8_items_22 : decode cX8_items 22 = .ok (.ifCond .ne 5, 3) := by decide +kernel
theorem dX8_items_25 : decode cX8_items 25 = .ok (.iconst 0, 1) := by decide +kernel
theorem dX8_items_26 : decode cX8_items 26 = .ok (.ireturn, 1) := by decide +kernel
theorem dX8_items_27 : decode cX8_items 27 = .ok (.aload_n 0, 1) := by decide +kernel
theorem dX8_items_28 : decode cX8_items 28 = .ok (.bipush 18, 2) := by decide +kernel
theorem dX8_items_30 : decode cX8_items 30 = .ok (.invokevirtual 92, 3) := by decide +kernel
theorem dX8_items_33 : decode cX8_items 33 = .ok (.ireturn, 1) := by decide +kernel
theorem dX8_kind_0 : decode cX8_kind 0 = .ok (.iload_n 1, 1) := by decide +kernel
theorem dX8_kind_1 : decode cX8_kind 1 = .ok (.ifCond .lt 20, 3) := by decide +kernel
theorem dX8_kind_4 : decode cX8_kind 4 = .ok (.iload_n 1, 1) := by decide +kernel
theorem dX8_kind_5 : decode cX8_kind 5 = .ok (.aload_n 0, 1) := by decide +kernel
theorem dX8_kind_6 : decode cX8_kind 6 = .ok (.getfield 22, 3) := by decide +kernel
theorem dX8_kind_9 : decode cX8_kind 9 = .ok (.if_icmp .ge 12, 3) := by decide +kernel
theorem dX8_kind_12 : decode cX8_kind 12 = .ok (.aload_n 0, 1) := by decide +kernel
theorem dX8_kind_13 : decode cX8_kind 13 = .ok (.getfield 11, 3) := by decide +kernel
theorem dX8_kind_16 : decode cX8_kind 16 = .ok (.iload_n 1, 1) := by decide +kernel
theorem dX8_kind_17 : decode cX8_kind 17 = .ok (.iaload, 1) := by decide +kernel
theorem dX8_kind_18 : decode cX8_kind 18 = .ok (.goto 4, 3) := by decide +kernel
theorem dX8_kind_21 : decode cX8_kind 21 = .ok (.iconst 0, 1) := by decide +kernel
theorem dX8_kind_22 : decode cX8_kind 22 = .ok (.ireturn, 1) := by decide +kernel
theorem dX8_pass_0 : decode cX8_pass 0 = .ok (.aload_n 0, 1) := by decide +kernel
theorem dX8_pass_1 : decode cX8_pass 1 = .ok (.getfield 26, 3) := by decide +kernel
theorem dX8_pass_4 : decode cX8_pass 4 = .ok (.aload_n 0, 1) := by decide +kernel
theorem dX8_pass_5 : decode cX8_pass 5 = .ok (.getfield 22, 3) := by decide +kernel
theorem dX8_pass_8 : decode cX8_pass 8 = .ok (.if_icmp .ge 16, 3) := by decide +kernel
theorem dX8_pass_11 : decode cX8_pass 11 = .ok (.aload_n 0, 1) := by decide +kernel
theorem dX8_pass_12 : decode cX8_pass 12 = .ok (.getfield 11, 3) := by decide +kernel
theorem dX8_pass_15 : decode cX8_pass 15 = .ok (.aload_n 0, 1) := by decide +kernel
theorem dX8_pass_16 : decode cX8_pass 16 = .ok (.getfield 26, 3) := by decide +kernel
theorem dX8_pass_19 : decode cX8_pass 19 = .ok (.iaload, 1) := by decide +kernel
theorem dX8_pass_20 : decode cX8_pass 20 = .ok (.iload_n 1, 1) := by decide +kernel
theorem dX8_pass_21 : decode cX8_pass 21 = .ok (.if_icmp .eq 5, 3) := by decide +kernel
theorem dX8_pass_24 : decode cX8_pass 24 = .ok (.iconst 0, 1) := by decide +kernel
theorem dX8_pass_25 : decode cX8_pass 25 = .ok (.ireturn, 1) := by decide +kernel
theorem dX8_pass_26 : decode cX8_pass 26 = .ok (.aload_n 0, 1) := by decide +kernel
theorem dX8_pass_27 : decode cX8_pass 27 = .ok (.dup, 1) := by decide +kernel
theorem dX8_pass_28 : decode cX8_pass 28 = .ok (.getfield 26, 3) := by decide +kernel
theorem dX8_pass_31 : decode cX8_pass 31 = .ok (.iconst 1, 1) := by decide +kernel
theorem dX8_pass_32 : decode cX8_pass 32 = .ok (.iadd, 1) := by decide +kernel
theorem dX8_pass_33 : decode cX8_pass 33 = .ok (.putfield 26, 3) := by decide +kernel
theorem dX8_pass_36 : decode cX8_pass 36 = .ok (.iconst 1, 1) := by decide +kernel
theorem dX8_pass_37 : decode cX8_pass 37 = .ok (.ireturn, 1) := by decide +kernel
theorem dX8_row_0 : decode cX8_row 0 = .ok (.aload_n 0, 1) := by decide +kernel
theorem dX8_row_1 : decode cX8_row 1 = .ok (.dup, 1) := by decide +kernel
theorem dX8_row_2 : decode cX8_row 2 = .ok (.getfield 26, 3) := by decide +kernel
theorem dX8_row_5 : decode cX8_row 5 = .ok (.iconst 1, 1) := by decide +kernel
theorem dX8_row_6 : decode cX8_row 6 = .ok (.iadd, 1) := by decide +kernel
theorem dX8_row_7 : decode cX8_row 7 = .ok (.putfield 26, 3) := by decide +kernel
theorem dX8_row_10 : decode cX8_row 10 = .ok (.aload_n 0, 1) := by decide +kernel
theorem dX8_row_11 : decode cX8_row 11 = .ok (.iconst 2, 1) := by decide +kernel
theorem dX8_row_12 : decode cX8_row 12 = .ok (.invokevirtual 92, 3) := by decide +kernel
theorem dX8_row_15 : decode cX8_row 15 = .ok (.ifCond .ne 5, 3) := by decide +kernel
theorem dX8_row_18 : decode cX8_row 18 = .ok (.iconst 0, 1) := by decide +kernel
theorem dX8_row_19 : decode cX8_row 19 = .ok (.ireturn, 1) := by decide +kernel
theorem dX8_row_20 : decode cX8_row 20 = .ok (.aload_n 0, 1) := by decide +kernel
theorem dX8_row_21 : decode cX8_row 21 = .ok (.bipush 17, 2) := by decide +kernel
theorem dX8_row_23 : decode cX8_row 23 = .ok (.invokevirtual 92, 3) := by decide +kernel
theorem dX8_row_26 : decode cX8_row 26 = .ok (.ifCond .eq 39, 3) := by decide +kernel
theorem dX8_row_29 : decode cX8_row 29 = .ok (.aload_n 0, 1) := by decide +kernel
theorem dX8_row_30 : decode cX8_row 30 = .ok (.iconst 2, 1) := by decide +kernel
theorem dX8_row_31 : decode cX8_row 31 = .ok (.invokevirtual 92, 3) := by decide +kernel
theorem dX8_row_34 : decode cX8_row 34 = .ok (.ifCond .eq 29, 3) := by decide +kernel
theorem dX8_row_37 : decode cX8_row 37 = .ok (.aload_n 0, 1) := by decide +kernel
theorem dX8_row_38 : decode cX8_row 38 = .ok (.bipush 12, 2) := by decide +kernel
theorem dX8_row_40 : decode cX8_row 40 = .ok (.invokevirtual 92, 3) := by decide +kernel
theorem dX8_row_43 : decode cX8_row 43 = .ok (.ifCond .eq 20, 3) := by decide +kernel
theorem dX8_row_46 : decode cX8_row 46 = .ok (.aload_n 0, 1) := by decide +kernel
theorem dX8_row_47 : decode cX8_row 47 = .ok (.iconst 2, 1) := by decide +kernel
theorem dX8_row_48 : decode cX8_row 48 = .ok (.invokevirtual 92, 3) := by decide +kernel
theorem dX8_row_51 : decode cX8_row 51 = .ok (.ifCond .eq 12, 3) := by decide +kernel
theorem dX8_row_54 : decode cX8_row 54 = .ok (.aload_n 0, 1) := by decide +kernel
theorem dX8_row_55 : decode cX8_row 55 = .ok (.bipush 18, 2) := by decide +kernel
theorem dX8_row_57 : decode cX8_row 57 = .ok (.invokevirtual 92, 3) := by decide +kernel
theorem dX8_row_60 : decode cX8_row 60 = .ok (.ifCond .ne 5, 3) := by decide +kernel
theorem dX8_row_63 : decode cX8_row 63 = .ok (.iconst 0, 1) := by decide +kernel
theorem dX8_row_64 : decode cX8_row 64 = .ok (.ireturn, 1) := by decide +kernel
theorem dX8_row_65 : decode cX8_row 65 = .ok (.aload_n 0, 1) := by decide +kernel
theorem dX8_row_66 : decode cX8_row 66 = .ok (.bipush 24, 2) := by decide +kernel
theorem dX8_row_68 : decode cX8_row 68 = .ok (.invokevirtual 92, 3) := by decide +kernel
theorem dX8_row_71 : decode cX8_row 71 = .ok (.ifCond .eq 11, 3) := by decide +kernel
theorem dX8_row_74 : decode cX8_row 74 = .ok (.aload_n 0, 1) := by decide +kernel
theorem dX8_row_75 : decode cX8_row 75 = .ok (.iconst 0, 1) := by decide +kernel
theorem dX8_row_76 : decode cX8_row 76 = .ok (.invokevirtual 89, 3) := by decide +kernel
theorem dX8_row_79 : decode cX8_row 79 = .ok (.ifCond .ne 5, 3) := by decide +kernel
theorem dX8_row_82 : decode cX8_row 82 = .ok (.iconst 0, 1) := by decide +kernel
theorem dX8_row_83 : decode cX8_row 83 = .ok (.ireturn, 1) := by decide +kernel
theorem dX8_row_84 : decode cX8_row 84 = .ok (.aload_n 0, 1) := by decide +kernel
theorem dX8_row_85 : decode cX8_row 85 = .ok (.bipush 25, 2) := by decide +kernel
theorem dX8_row_87 : decode cX8_row 87 = .ok (.invokevirtual 82, 3) := by decide +kernel
theorem dX8_row_90 : decode cX8_row 90 = .ok (.ifCond .ne 23, 3) := by decide +kernel
theorem dX8_row_93 : decode cX8_row 93 = .ok (.aload_n 0, 1) := by decide +kernel
theorem dX8_row_94 : decode cX8_row 94 = .ok (.bipush 26, 2) := by decide +kernel
theorem dX8_row_96 : decode cX8_row 96 = .ok (.invokevirtual 82, 3) := by decide +kernel
theorem dX8_row_99 : decode cX8_row 99 = .ok (.ifCond .ne 14, 3) := by decide +kernel
theorem dX8_row_102 : decode cX8_row 102 = .ok (.aload_n 0, 1) := by decide +kernel
theorem dX8_row_103 : decode cX8_row 103 = .ok (.bipush 13, 2) := by decide +kernel
theorem dX8_row_105 : decode cX8_row 105 = .ok (.invokevirtual 82, 3) := by decide +kernel
theorem dX8_row_108 : decode cX8_row 108 = .ok (.ifCond .ne 5, 3) := by decide +kernel
theorem dX8_row_111 : decode cX8_row 111 = .ok (.iconst 0, 1) := by decide +kernel
theorem dX8_row_112 : decode cX8_row 112 = .ok (.ireturn, 1) := by decide +kernel
theorem dX8_row_113 : decode cX8_row 113 = .ok (.aload_n 0, 1) := by decide +kernel
theorem dX8_row_114 : decode cX8_row 114 = .ok (.dup, 1) := by decide +kernel
theorem dX8_row_115 : decode cX8_row 115 = .ok (.getfield 26, 3) := by decide +kernel
theorem dX8_row_118 : decode cX8_row 118 = .ok (.iconst 1, 1) := by decide +kernel
theorem dX8_row_119 : decode cX8_row 119 = .ok (.iadd, 1) := by decide +kernel
theorem dX8_row_120 : decode cX8_row 120 = .ok (.putfield 26, 3) := by decide +kernel
theorem dX8_row_123 : decode cX8_row 123 = .ok (.aload_n 0, 1) := by decide +kernel
theorem dX8_row_124 : decode cX8_row 124 = .ok (.iconst 0, 1) := by decide +kernel
theorem dX8_row_125 : decode cX8_row 125 = .ok (.invokevirtual 89, 3) := by decide +kernel
theorem dX8_row_128 : decode cX8_row 128 = .ok (.ifCond .eq 16, 3) := by decide +kernel
theorem dX8_row_131 : decode cX8_row 131 = .ok (.aload_n 0, 1) := by decide +kernel
theorem dX8_row_132 : decode cX8_row 132 = .ok (.bipush 15, 2) := by decide +kernel
theorem dX8_row_134 : decode cX8_row 134 = .ok (.invokevirtual 92, 3) := by decide +kernel
theorem dX8_row_137 : decode cX8_row 137 = .ok (.ifCond .eq 7, 3) := by decide +kernel
theorem dX8_row_140 : decode cX8_row 140 = .ok (.iconst 1, 1) := by decide +kernel
theorem dX8_row_141 : decode cX8_row 141 = .ok (.goto 4, 3) := by decide +kernel
theorem dX8_row_144 : decode cX8_row 144 = .ok (.iconst 0, 1) := by decide +kernel
theorem dX8_row_145 : decode cX8_row 145 = .ok (.ireturn, 1) := by decide +kernel
theorem dX8_start_0 : decode cX8_start 0 = .ok (.iload_n 1, 1) := by decide +kernel
theorem dX8_start_1 : decode cX8_start 1 = .ok (.ifCond .lt 20, 3) := by decide +kernel
theorem dX8_start_4 : decode cX8_start 4 = .ok (.iload_n 1, 1) := by decide +kernel
theorem dX8_start_5 : decode cX8_start 5 = .ok (.aload_n 0, 1) := by decide +kernel
theorem dX8_start_6 : decode cX8_start 6 = .ok (.getfield 22, 3) := by decide +kernel
theorem dX8_start_9 : decode cX8_start 9 = .ok (.if_icmp .ge 12, 3) := by decide +kernel
theorem dX8_start_12 : decode cX8_start 12 = .ok (.aload_n 0, 1) := by decide +kernel
theorem dX8_start_13 : decode cX8_start 13 = .ok (.getfield 15, 3) := by decide +kernel
theorem dX8_start_16 : decode cX8_start 16 = .ok (.iload_n 1, 1) := by decide +kernel
theorem dX8_start_17 : decode cX8_start 17 = .ok (.iaload, 1) := by decide +kernel
theorem dX8_start_18 : decode cX8_start 18 = .ok (.goto 4, 3) := by decide +kernel
theorem dX8_start_21 : decode cX8_start 21 = .ok (.iconst (-1), 1) := by decide +kernel
theorem dX8_start_22 : decode cX8_start 22 = .ok (.ireturn, 1) := by decide +kernel
theorem dX8_stopPlace_0 : decode cX8_stopPlace 0 = .ok (.aload_n 0, 1) := by decide +kernel
theorem dX8_stopPlace_1 : decode cX8_stopPlace 1 = .ok (.aload_n 0, 1) := by decide +kernel
theorem dX8_stopPlace_2 : decode cX8_stopPlace 2 = .ok (.getfield 26, 3) := by decide +kernel
theorem dX8_stopPlace_5 : decode cX8_stopPlace 5 = .ok (.invokevirtual 29, 3) := by decide +kernel
theorem dX8_stopPlace_8 : decode cX8_stopPlace 8 = .ok (.ireturn, 1) := by decide +kernel
theorem dX8_term_0 : decode cX8_term 0 = .ok (.aload_n 0, 1) := by decide +kernel
theorem dX8_term_1 : decode cX8_term 1 = .ok (.iload_n 1, 1) := by decide +kernel
theorem dX8_term_2 : decode cX8_term 2 = .ok (.invokevirtual 110, 3) := by decide +kernel
theorem dX8_term_5 : decode cX8_term 5 = .ok (.ifCond .ne 5, 3) := by decide +kernel
theorem dX8_term_8 : decode cX8_term 8 = .ok (.iconst 0, 1) := by decide +kernel
theorem dX8_term_9 : decode cX8_term 9 = .ok (.ireturn, 1) := by decide +kernel
theorem dX8_term_10 : decode cX8_term 10 = .ok (.iconst 0, 1) := by decide +kernel
theorem dX8_term_11 : decode cX8_term 11 = .ok (.istore_n 2, 1) := by decide +kernel
theorem dX8_term_12 : decode cX8_term 12 = .ok (.iload_n 2, 1) := by decide +kernel
theorem dX8_term_13 : decode cX8_term 13 = .ok (.aload_n 0, 1) := by decide +kernel
theorem dX8_term_14 : decode cX8_term 14 = .ok (.getfield 22, 3) := by decide +kernel
theorem dX8_term_17 : decode cX8_term 17 = .ok (.if_icmp .ge 38, 3) := by decide +kernel
theorem dX8_term_20 : decode cX8_term 20 = .ok (.aload_n 0, 1) := by decide +kernel
theorem dX8_term_21 : decode cX8_term 21 = .ok (.bipush 23, 2) := by decide +kernel
theorem dX8_term_23 : decode cX8_term 23 = .ok (.invokevirtual 82, 3) := by decide +kernel
theorem dX8_term_26 : decode cX8_term 26 = .ok (.ifCond .eq 29, 3) := by decide +kernel
theorem dX8_term_29 : decode cX8_term 29 = .ok (.aload_n 0, 1) := by decide +kernel
theorem dX8_term_30 : decode cX8_term 30 = .ok (.dup, 1) := by decide +kernel
theorem dX8_term_31 : decode cX8_term 31 = .ok (.getfield 26, 3) := by decide +kernel
theorem dX8_term_34 : decode cX8_term 34 = .ok (.iconst 1, 1) := by decide +kernel
theorem dX8_term_35 : decode cX8_term 35 = .ok (.iadd, 1) := by decide +kernel
theorem dX8_term_36 : decode cX8_term 36 = .ok (.putfield 26, 3) := by decide +kernel
theorem dX8_term_39 : decode cX8_term 39 = .ok (.aload_n 0, 1) := by decide +kernel
theorem dX8_term_40 : decode cX8_term 40 = .ok (.iload_n 1, 1) := by decide +kernel
theorem dX8_term_41 : decode cX8_term 41 = .ok (.invokevirtual 110, 3) := by decide +kernel
theorem dX8_term_44 : decode cX8_term 44 = .ok (.ifCond .ne 5, 3) := by decide +kernel
theorem dX8_term_47 : decode cX8_term 47 = .ok (.iconst 0, 1) := by decide +kernel
theorem dX8_term_48 : decode cX8_term 48 = .ok (.ireturn, 1) := by decide +kernel
theorem dX8_term_49 : decode cX8_term 49 = .ok (.iinc 2 1, 3) := by decide +kernel
theorem dX8_term_52 : decode cX8_term 52 = .ok (.goto (-40), 3) := by decide +kernel
theorem dX8_term_55 : decode cX8_term 55 = .ok (.iconst 1, 1) := by decide +kernel
theorem dX8_term_56 : decode cX8_term 56 = .ok (.ireturn, 1) := by decide +kernel
theorem dX8_tokenCount_0 : decode cX8_tokenCount 0 = .ok (.aload_n 0, 1) := by decide +kernel
theorem dX8_tokenCount_1 : decode cX8_tokenCount 1 = .ok (.getfield 22, 3) := by decide +kernel
theorem dX8_tokenCount_4 : decode cX8_tokenCount 4 = .ok (.ireturn, 1) := by decide +kernel
theorem dX8_value_0 : decode cX8_value 0 = .ok (.iload_n 1, 1) := by decide +kernel
theorem dX8_value_1 : decode cX8_value 1 = .ok (.ifCond .lt 20, 3) := by decide +kernel
theorem dX8_value_4 : decode cX8_value 4 = .ok (.iload_n 1, 1) := by decide +kernel
theorem dX8_value_5 : decode cX8_value 5 = .ok (.aload_n 0, 1) := by decide +kernel
theorem dX8_value_6 : decode cX8_value 6 = .ok (.getfield 22, 3) := by decide +kernel
theorem dX8_value_9 : decode cX8_value 9 = .ok (.if_icmp .ge 12, 3) := by decide +kernel
theorem dX8_value_12 : decode cX8_value 12 = .ok (.aload_n 0, 1) := by decide +kernel
theorem dX8_value_13 : decode cX8_value 13 = .ok (.getfield 18, 3) := by decide +kernel
theorem dX8_value_16 : decode cX8_value 16 = .ok (.iload_n 1, 1) := by decide +kernel
theorem dX8_value_17 : decode cX8_value 17 = .ok (.laload, 1) := by decide +kernel
theorem dX8_value_18 : decode cX8_value 18 = .ok (.goto 4, 3) := by decide +kernel
theorem dX8_value_21 : decode cX8_value 21 = .ok (.lconst 0, 1) := by decide +kernel
theorem dX8_value_22 : decode cX8_value 22 = .ok (.lreturn, 1) := by decide +kernel
theorem dX8_valueList_0 : decode cX8_valueList 0 = .ok (.iconst 0, 1) := by decide +kernel
theorem dX8_valueList_1 : decode cX8_valueList 1 = .ok (.istore_n 1, 1) := by decide +kernel
theorem dX8_valueList_2 : decode cX8_valueList 2 = .ok (.iload_n 1, 1) := by decide +kernel
theorem dX8_valueList_3 : decode cX8_valueList 3 = .ok (.aload_n 0, 1) := by decide +kernel
theorem dX8_valueList_4 : decode cX8_valueList 4 = .ok (.getfield 22, 3) := by decide +kernel
theorem dX8_valueList_7 : decode cX8_valueList 7 = .ok (.if_icmp .ge 37, 3) := by decide +kernel
theorem dX8_valueList_10 : decode cX8_valueList 10 = .ok (.aload_n 0, 1) := by decide +kernel
theorem dX8_valueList_11 : decode cX8_valueList 11 = .ok (.bipush 22, 2) := by decide +kernel
theorem dX8_valueList_13 : decode cX8_valueList 13 = .ok (.invokevirtual 92, 3) := by decide +kernel
theorem dX8_valueList_16 : decode cX8_valueList 16 = .ok (.pop, 1) := by decide +kernel
theorem dX8_valueList_17 : decode cX8_valueList 17 = .ok (.aload_n 0, 1) := by decide +kernel
theorem dX8_valueList_18 : decode cX8_valueList 18 = .ok (.iconst 3, 1) := by decide +kernel
theorem dX8_valueList_19 : decode cX8_valueList 19 = .ok (.invokevirtual 92, 3) := by decide +kernel
theorem dX8_valueList_22 : decode cX8_valueList 22 = .ok (.ifCond .ne 5, 3) := by decide +kernel
theorem dX8_valueList_25 : decode cX8_valueList 25 = .ok (.iconst 0, 1) := by decide +kernel
theorem dX8_valueList_26 : decode cX8_valueList 26 = .ok (.ireturn, 1) := by decide +kernel
theorem dX8_valueList_27 : decode cX8_valueList 27 = .ok (.aload_n 0, 1) := by decide +kernel
theorem dX8_valueList_28 : decode cX8_valueList 28 = .ok (.bipush 16, 2) := by decide +kernel
theorem dX8_valueList_30 : decode cX8_valueList 30 = .ok (.invokevirtual 92, 3) := by decide +kernel
theorem dX8_valueList_33 : decode cX8_valueList 33 = .ok (.ifCond .ne 5, 3) := by decide +kernel
theorem dX8_valueList_36 : decode cX8_valueList 36 = .ok (.iconst 1, 1) := by decide +kernel
theorem dX8_valueList_37 : decode cX8_valueList 37 = .ok (.ireturn, 1) := by decide +kernel
theorem dX8_valueList_38 : decode cX8_valueList 38 = .ok (.iinc 1 1, 3) := by decide +kernel
theorem dX8_valueList_41 : decode cX8_valueList 41 = .ok (.goto (-39), 3) := by decide +kernel
theorem dX8_valueList_44 : decode cX8_valueList 44 = .ok (.iconst 0, 1) := by decide +kernel
theorem dX8_valueList_45 : decode cX8_valueList 45 = .ok (.ireturn, 1) := by decide +kernel
theorem w_4 : Cond.selects RX8 yX8_is yX8_is ∈ tb := sel_1 (q := (yX8_is, 5)) 4 (by decide +kernel)
theorem w_5 : Cond.selects RX8 yX8_declaration yX8_declaration ∈ tb := sel_1 (q := (yX8_declaration, 5)) 5 (by decide +kernel)
theorem w_6 : Cond.selects RX8 yX8_pass yX8_pass ∈ tb := sel_1 (q := (yX8_pass, 5)) 6 (by decide +kernel)
theorem w_7 : Cond.selects RX8 yX8_indexes yX8_indexes ∈ tb := sel_1 (q := (yX8_indexes, 5)) 7 (by decide +kernel)
theorem w_8 : Cond.selects RX8 yX8_valueList yX8_valueList ∈ tb := sel_1 (q := (yX8_valueList, 5)) 8 (by decide +kernel)
theorem w_9 : Cond.selects RX8 yX8_expression yX8_expression ∈ tb := sel_1 (q := (yX8_expression, 5)) 9 (by decide +kernel)
theorem w_10 : Cond.selects RX8 yX8_term yX8_term ∈ tb := sel_1 (q := (yX8_term, 5)) 10 (by decide +kernel)
theorem w_11 : Cond.selects RX8 yX8_factor yX8_factor ∈ tb := sel_1 (q := (yX8_factor, 5)) 11 (by decide +kernel)
theorem w_12 : Cond.selects RX8 yX8_items yX8_items ∈ tb := sel_1 (q := (yX8_items, 5)) 12 (by decide +kernel)
theorem w_13 : Cond.selects RX8 yX8_item yX8_item ∈ tb := sel_1 (q := (yX8_item, 5)) 13 (by decide +kernel)
theorem w_14 : Cond.selects RX8 yX8_row yX8_row ∈ tb := sel_1 (q := (yX8_row, 5)) 14 (by decide +kernel)
theorem w_209 : Cond.initialized RX8 ∈ tb := tbc_1 6 (by decide +kernel) rfl
theorem w_308 : Cond.fieldLink RX8 11 (TX8 0).1 (TX8 0).2.1 (TX8 0).2.2.1 ∈ tb := tbc_1 105 (by decide +kernel) rfl
theorem w_309 : Cond.fieldLink RX8 15 (TX8 1).1 (TX8 1).2.1 (TX8 1).2.2.1 ∈ tb := tbc_1 106 (by decide +kernel) rfl
theorem w_310 : Cond.fieldLink RX8 18 (TX8 2).1 (TX8 2).2.1 (TX8 2).2.2.1 ∈ tb := tbc_1 107 (by decide +kernel) rfl
theorem w_311 : Cond.fieldLink RX8 22 (TX8 3).1 (TX8 3).2.1 (TX8 3).2.2.1 ∈ tb := tbc_1 108 (by decide +kernel) rfl
theorem w_312 : Cond.fieldLink RX8 26 (TX8 4).1 (TX8 4).2.1 (TX8 4).2.2.1 ∈ tb := tbc_1 109 (by decide +kernel) rfl
theorem w_313 : u_lay RX8 TX8 0 ∈ tb := tbc_1 110 (by decide +kernel) rfl
theorem w_315 : u_lay RX8 TX8 1 ∈ tb := tbc_1 112 (by decide +kernel) rfl
theorem w_317 : u_lay RX8 TX8 2 ∈ tb := tbc_1 114 (by decide +kernel) rfl
theorem w_319 : u_lay RX8 TX8 3 ∈ tb := tbc_1 116 (by decide +kernel) rfl
theorem w_321 : u_lay RX8 TX8 4 ∈ tb := tbc_1 118 (by decide +kernel) rfl
theorem w_897 : Cond.methodLink RX8 82 yX8_is ∈ tb := tbc_3 214 (by decide +kernel) rfl
theorem w_899 : Cond.instanceMethod yX8_is ∈ tb := tbc_3 216 (by decide +kernel) rfl
theorem w_900 : Cond.code yX8_is cX8_is 2 (some .boolean) ∈ tb := tbc_3 217 (by decide +kernel) rfl
theorem w_901 : Cond.methodLink RX8 85 yX8_declaration ∈ tb := tbc_3 218 (by decide +kernel) rfl
theorem w_903 : Cond.instanceMethod yX8_declaration ∈ tb := tbc_3 220 (by decide +kernel) rfl
theorem w_904 : Cond.code yX8_declaration cX8_declaration 2 (some .boolean) ∈ tb := tbc_3 221 (by decide +kernel) rfl
theorem w_905 : Cond.methodLink RX8 98 yX8_kind ∈ tb := tbc_3 222 (by decide +kernel) rfl
theorem w_906 : Cond.instanceMethod yX8_kind ∈ tb := tbc_3 223 (by decide +kernel) rfl
theorem w_907 : Cond.selects RX8 yX8_kind yX8_kind ∈ tb := tbc_3 224 (by decide +kernel) rfl
theorem w_908 : Cond.code yX8_kind cX8_kind 2 (some .int) ∈ tb := tbc_3 225 (by decide +kernel) rfl
theorem w_909 : Cond.methodLink RX8 92 yX8_pass ∈ tb := tbc_3 226 (by decide +kernel) rfl
theorem w_911 : Cond.instanceMethod yX8_pass ∈ tb := tbc_3 228 (by decide +kernel) rfl
theorem w_912 : Cond.code yX8_pass cX8_pass 2 (some .boolean) ∈ tb := tbc_3 229 (by decide +kernel) rfl
theorem w_913 : Cond.methodLink RX8 101 yX8_indexes ∈ tb := tbc_3 230 (by decide +kernel) rfl
theorem w_915 : Cond.instanceMethod yX8_indexes ∈ tb := tbc_3 232 (by decide +kernel) rfl
theorem w_916 : Cond.code yX8_indexes cX8_indexes 1 (some .boolean) ∈ tb := tbc_3 233 (by decide +kernel) rfl
theorem w_917 : Cond.methodLink RX8 104 yX8_valueList ∈ tb := tbc_3 234 (by decide +kernel) rfl
theorem w_919 : Cond.instanceMethod yX8_valueList ∈ tb := tbc_3 236 (by decide +kernel) rfl
theorem w_920 : Cond.code yX8_valueList cX8_valueList 2 (some .boolean) ∈ tb := tbc_3 237 (by decide +kernel) rfl
theorem w_921 : Cond.methodLink RX8 89 yX8_expression ∈ tb := tbc_3 238 (by decide +kernel) rfl
theorem w_923 : Cond.instanceMethod yX8_expression ∈ tb := tbc_4 0 (by decide +kernel) rfl
theorem w_924 : Cond.code yX8_expression cX8_expression 3 (some .boolean) ∈ tb := tbc_4 1 (by decide +kernel) rfl
theorem w_925 : Cond.methodLink RX8 107 yX8_term ∈ tb := tbc_4 2 (by decide +kernel) rfl
theorem w_927 : Cond.instanceMethod yX8_term ∈ tb := tbc_4 4 (by decide +kernel) rfl
theorem w_928 : Cond.code yX8_term cX8_term 3 (some .boolean) ∈ tb := tbc_4 5 (by decide +kernel) rfl
theorem w_929 : Cond.methodLink RX8 110 yX8_factor ∈ tb := tbc_4 6 (by decide +kernel) rfl
theorem w_931 : Cond.instanceMethod yX8_factor ∈ tb := tbc_4 8 (by decide +kernel) rfl
theorem w_932 : Cond.code yX8_factor cX8_factor 2 (some .boolean) ∈ tb := tbc_4 9 (by decide +kernel) rfl
theorem w_933 : Cond.methodLink RX8 113 yX8_items ∈ tb := tbc_4 10 (by decide +kernel) rfl
theorem w_935 : Cond.instanceMethod yX8_items ∈ tb := tbc_4 12 (by decide +kernel) rfl
theorem w_936 : Cond.code yX8_items cX8_items 1 (some .boolean) ∈ tb := tbc_4 13 (by decide +kernel) rfl
theorem w_937 : Cond.methodLink RX8 116 yX8_item ∈ tb := tbc_4 14 (by decide +kernel) rfl
theorem w_939 : Cond.instanceMethod yX8_item ∈ tb := tbc_4 16 (by decide +kernel) rfl
theorem w_940 : Cond.code yX8_item cX8_item 1 (some .boolean) ∈ tb := tbc_4 17 (by decide +kernel) rfl
theorem w_941 : Cond.methodLink RX8 95 yX8_row ∈ tb := tbc_4 18 (by decide +kernel) rfl
theorem w_943 : Cond.instanceMethod yX8_row ∈ tb := tbc_4 20 (by decide +kernel) rfl
theorem w_944 : Cond.code yX8_row cX8_row 1 (some .boolean) ∈ tb := tbc_4 21 (by decide +kernel) rfl
theorem w_949 : Cond.methodLink RX8 29 yX8_start ∈ tb := tbc_4 26 (by decide +kernel) rfl
theorem w_950 : Cond.instanceMethod yX8_start ∈ tb := tbc_4 27 (by decide +kernel) rfl
theorem w_951 : Cond.selects RX8 yX8_start yX8_start ∈ tb := tbc_4 28 (by decide +kernel) rfl
theorem w_952 : Cond.code yX8_start cX8_start 2 (some .int) ∈ tb := tbc_4 29 (by decide +kernel) rfl
theorem inX8 : ∀ w ∈ u_ws RX8 TX8 5, w ∈ tb := by
  show ∀ w ∈ [u_lay RX8 TX8 0, u_lay RX8 TX8 1, u_lay RX8 TX8 2, u_lay RX8 TX8 3, u_lay RX8 TX8 4], w ∈ tb
  exact List.forall_mem_cons.mpr ⟨w_313, List.forall_mem_cons.mpr ⟨w_315, List.forall_mem_cons.mpr ⟨w_317, List.forall_mem_cons.mpr ⟨w_319, List.forall_mem_cons.mpr ⟨w_321, fun _ h => absurd h List.not_mem_nil⟩⟩⟩⟩⟩
section RW12
variable {p : Program} {l : Launch} {e : Env} {R : Room} {s : State} {m : MethodId} {args : Array Value} {below : List Frame} {meth : Method} {c : Code} {H : Heap} {locs : List Loc} {cells slots : Nat} {Q : State → Prop}
variable {cc : ByteArray} {pc nL : Nat} {ls : Array Slot} {rest st0 : List Value} {G : sG} {n : Nat} {S : sS}
theorem g_X8_22 (Cx : sC G p m c cc nL s args RX8) (hW : sW G n S H) {k : Nat} (hk : k < n) (ht : tau k = .inl 8) {v : Int} (hv : S.1 k 3 = v) (hdg : decode cc pc = .ok (.getfield 22, 3)) (kk : W p l e R s m args below meth c H locs cells slots Q (F0 m (pc + 3) ls (.int (iv v) :: rest))) : W p l e R s m args below meth c H locs cells slots Q (F0 m pc ls (.ref (G.2.2.1 + k) :: rest)) :=
  sGet Cx inX8 rfl 3 (by decide) w_311 hW hk ht (congrArg (fun z => Value.int (iv z)) hv) hdg kk
theorem g_X8_11 (Cx : sC G p m c cc nL s args RX8) (hW : sW G n S H) {k : Nat} (hk : k < n) (ht : tau k = .inl 8) {v : Value} (hv : S.2.2.2 k 0 = v) (hdg : decode cc pc = .ok (.getfield 11, 3)) (kk : W p l e R s m args below meth c H locs cells slots Q (F0 m (pc + 3) ls (v :: rest))) : W p l e R s m args below meth c H locs cells slots Q (F0 m pc ls (.ref (G.2.2.1 + k) :: rest)) :=
  sGet Cx inX8 rfl 0 (by decide) w_308 hW hk ht hv hdg kk
theorem g_X8_15 (Cx : sC G p m c cc nL s args RX8) (hW : sW G n S H) {k : Nat} (hk : k < n) (ht : tau k = .inl 8) {v : Value} (hv : S.2.2.2 k 1 = v) (hdg : decode cc pc = .ok (.getfield 15, 3)) (kk : W p l e R s m args below meth c H locs cells slots Q (F0 m (pc + 3) ls (v :: rest))) : W p l e R s m args below meth c H locs cells slots Q (F0 m pc ls (.ref (G.2.2.1 + k) :: rest)) :=
  sGet Cx inX8 rfl 1 (by decide) w_309 hW hk ht hv hdg kk
theorem g_X8_18 (Cx : sC G p m c cc nL s args RX8) (hW : sW G n S H) {k : Nat} (hk : k < n) (ht : tau k = .inl 8) {v : Value} (hv : S.2.2.2 k 2 = v) (hdg : decode cc pc = .ok (.getfield 18, 3)) (kk : W p l e R s m args below meth c H locs cells slots Q (F0 m (pc + 3) ls (v :: rest))) : W p l e R s m args below meth c H locs cells slots Q (F0 m pc ls (.ref (G.2.2.1 + k) :: rest)) :=
  sGet Cx inX8 rfl 2 (by decide) w_310 hW hk ht hv hdg kk
theorem g_X8_26 (Cx : sC G p m c cc nL s args RX8) (hW : sW G n S H) {k : Nat} (hk : k < n) (ht : tau k = .inl 8) {v : Int} (hv : S.1 k 4 = v) (hdg : decode cc pc = .ok (.getfield 26, 3)) (kk : W p l e R s m args below meth c H locs cells slots Q (F0 m (pc + 3) ls (.int (iv v) :: rest))) : W p l e R s m args below meth c H locs cells slots Q (F0 m pc ls (.ref (G.2.2.1 + k) :: rest)) :=
  sGet Cx inX8 rfl 4 (by decide) w_312 hW hk ht (congrArg (fun z => Value.int (iv z)) hv) hdg kk
theorem c_X8_29 (Cx : sC G p m c cc nL s args RX8) {rm : Room} {mc ms : Nat} (h1 : rm.cells = mc) (h2 : rm.slots = ms) (h3 : rm.frames + 1 ≤ R.frames ∧ 8 + (2 + 11) + rm.locals ≤ R.locals) : CallW R s args RX8 RX8 29 yX8_start cX8_start 2 (some .int) (.code yX8_start cX8_start 2 (some .int) :: tb) rm mc ms 1 :=
  sCw Cx 1 w_949 w_950 w_951 w_209 w_952 (by decide +kernel) h1 h2 h3
theorem p_X8_26 (Cx : sC G p m c cc nL s args RX8) (hW : sW G n S H) (hL : sL G locs) {k : Nat} (hk : k < n) (ht : tau k = .inl 8) {v : Int} (hdg : decode cc pc = .ok (.putfield 26, 3)) (kk : ∀ (H1 : Heap) (locs1 : List Loc), sW G n (uF S k 4 v) H1 → sL G locs1 → W p l e R s m args below meth c H1 locs1 cells slots Q (F0 m (pc + 3) ls rest)) : W p l e R s m args below meth c H locs cells slots Q (F0 m pc ls (.int (iv v) :: .ref (G.2.2.1 + k) :: rest)) :=
  sPut Cx inX8 tyX8 tyX8_ok nmX8 rfl 4 (by decide) w_312 rfl hW hL hk ht rfl rfl (fun _ h => uF_same h) (fun _ h => uF_off h) (congrArg (fun z => Value.int (iv z)) uF_on) hdg kk
theorem c_X8_92 (Cx : sC G p m c cc nL s args RX8) {rm : Room} {mc ms : Nat} (h1 : rm.cells = mc) (h2 : rm.slots = ms) (h3 : rm.frames + 1 ≤ R.frames ∧ 8 + (2 + 11) + rm.locals ≤ R.locals) : CallW R s args RX8 RX8 92 yX8_pass cX8_pass 2 (some .boolean) (.code yX8_pass cX8_pass 2 (some .boolean) :: tb) rm mc ms 1 :=
  sCw Cx 1 w_909 w_911 w_6 w_209 w_912 (by decide +kernel) h1 h2 h3
theorem c_X8_82 (Cx : sC G p m c cc nL s args RX8) {rm : Room} {mc ms : Nat} (h1 : rm.cells = mc) (h2 : rm.slots = ms) (h3 : rm.frames + 1 ≤ R.frames ∧ 8 + (2 + 11) + rm.locals ≤ R.locals) : CallW R s args RX8 RX8 82 yX8_is cX8_is 2 (some .boolean) (.code yX8_is cX8_is 2 (some .boolean) :: tb) rm mc ms 1 :=
  sCw Cx 1 w_897 w_899 w_4 w_209 w_900 (by decide +kernel) h1 h2 h3
theorem c_X8_116 (Cx : sC G p m c cc nL s args RX8) {rm : Room} {mc ms : Nat} (h1 : rm.cells = mc) (h2 : rm.slots = ms) (h3 : rm.frames + 1 ≤ R.frames ∧ 8 + (1 + 11) + rm.locals ≤ R.locals) : CallW R s args RX8 RX8 116 yX8_item cX8_item 1 (some .boolean) (.code yX8_item cX8_item 1 (some .boolean) :: tb) rm mc ms 0 :=
  sCw Cx 0 w_937 w_939 w_13 w_209 w_940 (by decide +kernel) h1 h2 h3
theorem c_X8_98 (Cx : sC G p m c cc nL s args RX8) {rm : Room} {mc ms : Nat} (h1 : rm.cells = mc) (h2 : rm.slots = ms) (h3 : rm.frames + 1 ≤ R.frames ∧ 8 + (2 + 11) + rm.locals ≤ R.locals) : CallW R s args RX8 RX8 98 yX8_kind cX8_kind 2 (some .int) (.code yX8_kind cX8_kind 2 (some .int) :: tb) rm mc ms 1 :=
  sCw Cx 1 w_905 w_906 w_907 w_209 w_908 (by decide +kernel) h1 h2 h3
theorem c_X8_101 (Cx : sC G p m c cc nL s args RX8) {rm : Room} {mc ms : Nat} (h1 : rm.cells = mc) (h2 : rm.slots = ms) (h3 : rm.frames + 1 ≤ R.frames ∧ 8 + (1 + 11) + rm.locals ≤ R.locals) : CallW R s args RX8 RX8 101 yX8_indexes cX8_indexes 1 (some .boolean) (.code yX8_indexes cX8_indexes 1 (some .boolean) :: tb) rm mc ms 0 :=
  sCw Cx 0 w_913 w_915 w_7 w_209 w_916 (by decide +kernel) h1 h2 h3
theorem c_X8_104 (Cx : sC G p m c cc nL s args RX8) {rm : Room} {mc ms : Nat} (h1 : rm.cells = mc) (h2 : rm.slots = ms) (h3 : rm.frames + 1 ≤ R.frames ∧ 8 + (2 + 11) + rm.locals ≤ R.locals) : CallW R s args RX8 RX8 104 yX8_valueList cX8_valueList 2 (some .boolean) (.code yX8_valueList cX8_valueList 2 (some .boolean) :: tb) rm mc ms 0 :=
  sCw Cx 0 w_917 w_919 w_8 w_209 w_920 (by decide +kernel) h1 h2 h3
theorem c_X8_113 (Cx : sC G p m c cc nL s args RX8) {rm : Room} {mc ms : Nat} (h1 : rm.cells = mc) (h2 : rm.slots = ms) (h3 : rm.frames + 1 ≤ R.frames ∧ 8 + (1 + 11) + rm.locals ≤ R.locals) : CallW R s args RX8 RX8 113 yX8_items cX8_items 1 (some .boolean) (.code yX8_items cX8_items 1 (some .boolean) :: tb) rm mc ms 0 :=
  sCw Cx 0 w_933 w_935 w_12 w_209 w_936 (by decide +kernel) h1 h2 h3
theorem c_X8_89 (Cx : sC G p m c cc nL s args RX8) {rm : Room} {mc ms : Nat} (h1 : rm.cells = mc) (h2 : rm.slots = ms) (h3 : rm.frames + 1 ≤ R.frames ∧ 8 + (3 + 11) + rm.locals ≤ R.locals) : CallW R s args RX8 RX8 89 yX8_expression cX8_expression 3 (some .boolean) (.code yX8_expression cX8_expression 3 (some .boolean) :: tb) rm mc ms 1 :=
  sCw Cx 1 w_921 w_923 w_9 w_209 w_924 (by decide +kernel) h1 h2 h3
theorem c_X8_110 (Cx : sC G p m c cc nL s args RX8) {rm : Room} {mc ms : Nat} (h1 : rm.cells = mc) (h2 : rm.slots = ms) (h3 : rm.frames + 1 ≤ R.frames ∧ 8 + (2 + 11) + rm.locals ≤ R.locals) : CallW R s args RX8 RX8 110 yX8_factor cX8_factor 2 (some .boolean) (.code yX8_factor cX8_factor 2 (some .boolean) :: tb) rm mc ms 1 :=
  sCw Cx 1 w_929 w_931 w_11 w_209 w_932 (by decide +kernel) h1 h2 h3
theorem c_X8_107 (Cx : sC G p m c cc nL s args RX8) {rm : Room} {mc ms : Nat} (h1 : rm.cells = mc) (h2 : rm.slots = ms) (h3 : rm.frames + 1 ≤ R.frames ∧ 8 + (3 + 11) + rm.locals ≤ R.locals) : CallW R s args RX8 RX8 107 yX8_term cX8_term 3 (some .boolean) (.code yX8_term cX8_term 3 (some .boolean) :: tb) rm mc ms 1 :=
  sCw Cx 1 w_925 w_927 w_10 w_209 w_928 (by decide +kernel) h1 h2 h3
theorem c_X8_95 (Cx : sC G p m c cc nL s args RX8) {rm : Room} {mc ms : Nat} (h1 : rm.cells = mc) (h2 : rm.slots = ms) (h3 : rm.frames + 1 ≤ R.frames ∧ 8 + (1 + 11) + rm.locals ≤ R.locals) : CallW R s args RX8 RX8 95 yX8_row cX8_row 1 (some .boolean) (.code yX8_row cX8_row 1 (some .boolean) :: tb) rm mc ms 0 :=
  sCw Cx 0 w_941 w_943 w_14 w_209 w_944 (by decide +kernel) h1 h2 h3
theorem c_X8_85 (Cx : sC G p m c cc nL s args RX8) {rm : Room} {mc ms : Nat} (h1 : rm.cells = mc) (h2 : rm.slots = ms) (h3 : rm.frames + 1 ≤ R.frames ∧ 8 + (2 + 11) + rm.locals ≤ R.locals) : CallW R s args RX8 RX8 85 yX8_declaration cX8_declaration 2 (some .boolean) (.code yX8_declaration cX8_declaration 2 (some .boolean) :: tb) rm mc ms 0 :=
  sCw Cx 0 w_901 w_903 w_5 w_209 w_904 (by decide +kernel) h1 h2 h3
end RW12
