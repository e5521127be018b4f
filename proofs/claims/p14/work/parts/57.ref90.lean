theorem dX12_ratio_0 : decode cX12_ratio 0 = .ok (.aload_n 0, 1) := by decide +kernel
theorem dX12_ratio_1 : decode cX12_ratio 1 = .ok (.getfield 103, 3) := by decide +kernel
theorem dX12_ratio_4 : decode cX12_ratio 4 = .ok (.iload_n 1, 1) := by decide +kernel
theorem dX12_ratio_5 : decode cX12_ratio 5 = .ok (.aload_n 0, 1) := by decide +kernel
theorem dX12_ratio_6 : decode cX12_ratio 6 = .ok (.getfield 103, 3) := by decide +kernel
theorem dX12_ratio_9 : decode cX12_ratio 9 = .ok (.iload 4, 2) := by decide +kernel
theorem dX12_ratio_11 : decode cX12_ratio 11 = .ok (.aload_n 0, 1) := by decide +kernel
theorem dX12_ratio_12 : decode cX12_ratio 12 = .ok (.getfield 26, 3) := by decide +kernel
theorem dX12_ratio_15 : decode cX12_ratio 15 = .ok (.iconst 0, 1) := by decide +kernel
theorem dX12_ratio_16 : decode cX12_ratio 16 = .ok (.invokestatic 548, 3) := by decide +kernel
theorem dX12_ratio_19 : decode cX12_ratio 19 = .ok (.aload_n 0, 1) := by decide +kernel
theorem dX12_ratio_20 : decode cX12_ratio 20 = .ok (.getfield 103, 3) := by decide +kernel
theorem dX12_ratio_23 : decode cX12_ratio 23 = .ok (.iload_n 3, 1) := by decide +kernel
theorem dX12_ratio_24 : decode cX12_ratio 24 = .ok (.aload_n 0, 1) := by decide +kernel
theorem dX12_ratio_25 : decode cX12_ratio 25 = .ok (.getfield 103, 3) := by decide +kernel
theorem dX12_ratio_28 : decode cX12_ratio 28 = .ok (.iload_n 2, 1) := by decide +kernel
theorem dX12_ratio_29 : decode cX12_ratio 29 = .ok (.aload_n 0, 1) := by decide +kernel
theorem dX12_ratio_30 : decode cX12_ratio 30 = .ok (.getfield 29, 3) := by decide +kernel
theorem dX12_ratio_33 : decode cX12_ratio 33 = .ok (.iconst 0, 1) := by decide +kernel
theorem dX12_ratio_34 : decode cX12_ratio 34 = .ok (.invokestatic 548, 3) := by decide +kernel
theorem dX12_ratio_37 : decode cX12_ratio 37 = .ok (.aload_n 0, 1) := by decide +kernel
theorem dX12_ratio_38 : decode cX12_ratio 38 = .ok (.getfield 26, 3) := by decide +kernel
theorem dX12_ratio_41 : decode cX12_ratio 41 = .ok (.iconst 0, 1) := by decide +kernel
theorem dX12_ratio_42 : decode cX12_ratio 42 = .ok (.aload_n 0, 1) := by decide +kernel
theorem dX12_ratio_43 : decode cX12_ratio 43 = .ok (.getfield 29, 3) := by decide +kernel
theorem dX12_ratio_46 : decode cX12_ratio 46 = .ok (.iconst 0, 1) := by decide +kernel
theorem dX12_ratio_47 : decode cX12_ratio 47 = .ok (.invokestatic 552, 3) := by decide +kernel
theorem dX12_ratio_50 : decode cX12_ratio 50 = .ok (.ireturn, 1) := by decide +kernel
theorem dX12_stepDown_0 : decode cX12_stepDown 0 = .ok (.iconst 0, 1) := by decide +kernel
theorem dX12_stepDown_1 : decode cX12_stepDown 1 = .ok (.istore_n 1, 1) := by decide +kernel
theorem dX12_stepDown_2 : decode cX12_stepDown 2 = .ok (.iconst 1, 1) := by decide +kernel
theorem dX12_stepDown_3 : decode cX12_stepDown 3 = .ok (.istore_n 2, 1) := by decide +kernel
theorem dX12_stepDown_4 : decode cX12_stepDown 4 = .ok (.iload_n 2, 1) := by decide +kernel
theorem dX12_stepDown_5 : decode cX12_stepDown 5 = .ok (.aload_n 0, 1) := by decide +kernel
theorem dX12_stepDown_6 : decode cX12_stepDown 6 = .ok (.getfield 483, 3) := by decide +kernel
theorem dX12_stepDown_9 : decode cX12_stepDown 9 = .ok (.if_icmp .gt 46, 3) := by decide +kernel
theorem dX12_stepDown_12 : decode cX12_stepDown 12 = .ok (.aload_n 0, 1) := by decide +kernel
theorem dX12_stepDown_13 : decode cX12_stepDown 13 = .ok (.getfield 103, 3) := by decide +kernel
theorem dX12_stepDown_16 : decode cX12_stepDown 16 = .ok (.aload_n 0, 1) := by decide +kernel
theorem dX12_stepDown_17 : decode cX12_stepDown 17 = .ok (.iload_n 2, 1) := by decide +kernel
theorem dX12_stepDown_18 : decode cX12_stepDown 18 = .ok (.iconst 1, 1) := by decide +kernel
theorem dX12_stepDown_19 : decode cX12_stepDown 19 = .ok (.iadd, 1) := by decide +kernel
theorem dX12_stepDown_20 : decode cX12_stepDown 20 = .ok (.iconst 0, 1) := by decide +kernel
theorem dX12_stepDown_21 : decode cX12_stepDown 21 = .ok (.invokevirtual 529, 3) := by decide +kernel
theorem dX12_stepDown_24 : decode cX12_stepDown 24 = .ok (.iaload, 1) := by decide +kernel
theorem dX12_stepDown_25 : decode cX12_stepDown 25 = .ok (.ifCond .ge 24, 3) := by decide +kernel
theorem dX12_stepDown_28 : decode cX12_stepDown 28 = .ok (.iload_n 1, 1) := by decide +kernel
theorem dX12_stepDown_29 : decode cX12_stepDown 29 = .ok (.ifCond .eq 18, 3) := by decide +kernel
theorem dX12_stepDown_32 : decode cX12_stepDown 32 = .ok (.aload_n 0, 1) := by decide +kernel
theorem dX12_stepDown_33 : decode cX12_stepDown 33 = .ok (.getfield 112, 3) := by decide +kernel
theorem dX12_stepDown_36 : decode cX12_stepDown 36 = .ok (.iload_n 2, 1) := by decide +kernel
theorem dX12_stepDown_37 : decode cX12_stepDown 37 = .ok (.iaload, 1) := by decide +kernel
theorem dX12_stepDown_38 : decode cX12_stepDown 38 = .ok (.aload_n 0, 1) := by decide +kernel
theorem dX12_stepDown_39 : decode cX12_stepDown 39 = .ok (.getfield 112, 3) := by decide +kernel
theorem dX12_stepDown_42 : decode cX12_stepDown 42 = .ok (.iload_n 1, 1) := by decide +kernel
theorem dX12_stepDown_43 : decode cX12_stepDown 43 = .ok (.iaload, 1) := by decide +kernel
theorem dX12_stepDown_44 : decode cX12_stepDown 44 = .ok (.if_icmp .ge 5, 3) := by decide +kernel
theorem dX12_stepDown_47 : decode cX12_stepDown 47 = .ok (.iload_n 2, 1) := by decide +kernel
theorem dX12_stepDown_48 : decode cX12_stepDown 48 = .ok (.istore_n 1, 1) := by decide +kernel
theorem dX12_stepDown_49 : decode cX12_stepDown 49 = .ok (.iinc 2 1, 3) := by decide +kernel
theorem dX12_stepDown_52 : decode cX12_stepDown 52 = .ok (.goto (-48), 3) := by decide +kernel
theorem dX12_stepDown_55 : decode cX12_stepDown 55 = .ok (.iload_n 1, 1) := by decide +kernel
theorem dX12_stepDown_56 : decode cX12_stepDown 56 = .ok (.ifCond .ne 5, 3) := by decide +kernel
theorem dX12_stepDown_59 : decode cX12_stepDown 59 = .ok (.iconst 0, 1) := by decide +kernel
theorem dX12_stepDown_60 : decode cX12_stepDown 60 = .ok (.ireturn, 1) := by decide +kernel
theorem dX12_stepDown_61 : decode cX12_stepDown 61 = .ok (.aload_n 0, 1) := by decide +kernel
theorem dX12_stepDown_62 : decode cX12_stepDown 62 = .ok (.iload_n 1, 1) := by decide +kernel
theorem dX12_stepDown_63 : decode cX12_stepDown 63 = .ok (.putfield 562, 3) := by decide +kernel
theorem dX12_stepDown_66 : decode cX12_stepDown 66 = .ok (.iconst 0, 1) := by decide +kernel
theorem dX12_stepDown_67 : decode cX12_stepDown 67 = .ok (.istore_n 2, 1) := by decide +kernel
theorem dX12_stepDown_68 : decode cX12_stepDown 68 = .ok (.iconst 1, 1) := by decide +kernel
theorem dX12_stepDown_69 : decode cX12_stepDown 69 = .ok (.istore_n 3, 1) := by decide +kernel
theorem dX12_stepDown_70 : decode cX12_stepDown 70 = .ok (.iload_n 3, 1) := by decide +kernel
theorem dX12_stepDown_71 : decode cX12_stepDown 71 = .ok (.aload_n 0, 1) := by decide +kernel
theorem dX12_stepDown_72 : decode cX12_stepDown 72 = .ok (.getfield 526, 3) := by decide +kernel
theorem dX12_stepDown_75 : decode cX12_stepDown 75 = .ok (.if_icmp .gt 138, 3) := by decide +kernel
theorem dX12_stepDown_78 : decode cX12_stepDown 78 = .ok (.aload_n 0, 1) := by decide +kernel
theorem dX12_stepDown_79 : decode cX12_stepDown 79 = .ok (.getfield 103, 3) := by decide +kernel
theorem dX12_stepDown_82 : decode cX12_stepDown 82 = .ok (.aload_n 0, 1) := by decide +kernel
theorem dX12_stepDown_83 : decode cX12_stepDown 83 = .ok (.iload_n 1, 1) := by decide +kernel
theorem dX12_stepDown_84 : decode cX12_stepDown 84 = .ok (.iconst 1, 1) := by decide +kernel
theorem dX12_stepDown_85 : decode cX12_stepDown 85 = .ok (.iadd, 1) := by decide +kernel
theorem dX12_stepDown_86 : decode cX12_stepDown 86 = .ok (.iload_n 3, 1) := by decide +kernel
theorem dX12_stepDown_87 : decode cX12_stepDown 87 = .ok (.invokevirtual 529, 3) := by decide +kernel
theorem dX12_stepDown_90 : decode cX12_stepDown 90 = .ok (.iaload, 1) := by decide +kernel
theorem dX12_stepDown_91 : decode cX12_stepDown 91 = .ok (.ifCond .lt 6, 3) := by decide +kernel
theorem dX12_stepDown_94 : decode cX12_stepDown 94 = .ok (.goto 113, 3) := by decide +kernel
theorem dX12_stepDown_97 : decode cX12_stepDown 97 = .ok (.iconst (-1), 1) := by decide +kernel
theorem dX12_stepDown_98 : decode cX12_stepDown 98 = .ok (.istore 4, 2) := by decide +kernel
theorem dX12_stepDown_100 : decode cX12_stepDown 100 = .ok (.iload_n 2, 1) := by decide +kernel
theorem dX12_stepDown_101 : decode cX12_stepDown 101 = .ok (.ifCond .le 79, 3) := by decide +kernel
theorem dX12_stepDown_104 : decode cX12_stepDown 104 = .ok (.aload_n 0, 1) := by decide +kernel
theorem dX12_stepDown_105 : decode cX12_stepDown 105 = .ok (.getfield 103, 3) := by decide +kernel
theorem dX12_stepDown_108 : decode cX12_stepDown 108 = .ok (.aload_n 0, 1) := by decide +kernel
theorem dX12_stepDown_109 : decode cX12_stepDown 109 = .ok (.iconst 0, 1) := by decide +kernel
theorem dX12_stepDown_110 : decode cX12_stepDown 110 = .ok (.iload_n 3, 1) := by decide +kernel
theorem dX12_stepDown_111 : decode cX12_stepDown 111 = .ok (.invokevirtual 529, 3) := by decide +kernel
theorem dX12_stepDown_114 : decode cX12_stepDown 114 = .ok (.aload_n 0, 1) := by decide +kernel
theorem dX12_stepDown_115 : decode cX12_stepDown 115 = .ok (.getfield 103, 3) := by decide +kernel
theorem dX12_stepDown_118 : decode cX12_stepDown 118 = .ok (.aload_n 0, 1) := by decide +kernel
theorem dX12_stepDown_119 : decode cX12_stepDown 119 = .ok (.iload_n 1, 1) := by decide +kernel
theorem dX12_stepDown_120 : decode cX12_stepDown 120 = .ok (.iconst 1, 1) := by decide +kernel
theorem dX12_stepDown_121 : decode cX12_stepDown 121 = .ok (.iadd, 1) := by decide +kernel
theorem dX12_stepDown_122 : decode cX12_stepDown 122 = .ok (.iload_n 2, 1) := by decide +kernel
theorem dX12_stepDown_123 : decode cX12_stepDown 123 = .ok (.invokevirtual 529, 3) := by decide +kernel
theorem dX12_stepDown_126 : decode cX12_stepDown 126 = .ok (.aload_n 0, 1) := by decide +kernel
theorem dX12_stepDown_127 : decode cX12_stepDown 127 = .ok (.getfield 26, 3) := by decide +kernel
theorem dX12_stepDown_130 : decode cX12_stepDown 130 = .ok (.iconst 0, 1) := by decide +kernel
theorem dX12_stepDown_131 : decode cX12_stepDown 131 = .ok (.invokestatic 548, 3) := by decide +kernel
theorem dX12_stepDown_134 : decode cX12_stepDown 134 = .ok (.aload_n 0, 1) := by decide +kernel
theorem dX12_stepDown_135 : decode cX12_stepDown 135 = .ok (.getfield 103, 3) := by decide +kernel
theorem dX12_stepDown_138 : decode cX12_stepDown 138 = .ok (.aload_n 0, 1) := by decide +kernel
theorem dX12_stepDown_139 : decode cX12_stepDown 139 = .ok (.iconst 0, 1) := by decide +kernel
theorem dX12_stepDown_140 : decode cX12_stepDown 140 = .ok (.iload_n 2, 1) := by decide +kernel
theorem dX12_stepDown_141 : decode cX12_stepDown 141 = .ok (.invokevirtual 529, 3) := by decide +kernel
theorem dX12_stepDown_144 : decode cX12_stepDown 144 = .ok (.aload_n 0, 1) := by decide +kernel
theorem dX12_stepDown_145 : decode cX12_stepDown 145 = .ok (.getfield 103, 3) := by decide +kernel
theorem dX12_stepDown_148 : decode cX12_stepDown 148 = .ok (.aload_n 0, 1) := by decide +kernel
theorem dX12_stepDown_149 : decode cX12_stepDown 149 = .ok (.iload_n 1, 1) := by decide +kernel
theorem dX12_stepDown_150 : decode cX12_stepDown 150 = .ok (.iconst 1, 1) := by decide +kernel
theorem dX12_stepDown_151 : decode cX12_stepDown 151 = .ok (.iadd, 1) := by decide +kernel
theorem dX12_stepDown_152 : decode cX12_stepDown 152 = .ok (.iload_n 3, 1) := by decide +kernel
theorem dX12_stepDown_153 : decode cX12_stepDown 153 = .ok (.invokevirtual 529, 3) := by decide +kernel
theorem dX12_stepDown_156 : decode cX12_stepDown 156 = .ok (.aload_n 0, 1) := by decide +kernel
theorem dX12_stepDown_157 : decode cX12_stepDown 157 = .ok (.getfield 29, 3) := by decide +kernel
theorem dX12_stepDown_160 : decode cX12_stepDown 160 = .ok (.iconst 0, 1) := by decide +kernel
theorem dX12_stepDown_161 : decode cX12_stepDown 161 = .ok (.invokestatic 548, 3) := by decide +kernel
theorem dX12_stepDown_164 : decode cX12_stepDown 164 = .ok (.aload_n 0, 1) := by decide +kernel
theorem dX12_stepDown_165 : decode cX12_stepDown 165 = .ok (.getfield 26, 3) := by decide +kernel
theorem dX12_stepDown_168 : decode cX12_stepDown 168 = .ok (.iconst 0, 1) := by decide +kernel
theorem dX12_stepDown_169 : decode cX12_stepDown 169 = .ok (.aload_n 0, 1) := by decide +kernel
theorem dX12_stepDown_170 : decode cX12_stepDown 170 = .ok (.getfield 29, 3) := by decide +kernel
theorem dX12_stepDown_173 : decode cX12_stepDown 173 = .ok (.iconst 0, 1) := by decide +kernel
theorem dX12_stepDown_174 : decode cX12_stepDown 174 = .ok (.invokestatic 552, 3) := by decide +kernel
theorem dX12_stepDown_177 : decode cX12_stepDown 177 = .ok (.ineg, 1) := by decide +kernel
theorem dX12_stepDown_178 : decode cX12_stepDown 178 = .ok (.istore 4, 2) := by decide +kernel
theorem dX12_stepDown_180 : decode cX12_stepDown 180 = .ok (.iload 4, 2) := by decide +kernel
theorem dX12_stepDown_182 : decode cX12_stepDown 182 = .ok (.ifCond .lt 23, 3) := by decide +kernel
theorem dX12_stepDown_185 : decode cX12_stepDown 185 = .ok (.iload 4, 2) := by decide +kernel
theorem dX12_stepDown_187 : decode cX12_stepDown 187 = .ok (.ifCond .ne 20, 3) := by decide +kernel
theorem dX12_stepDown_190 : decode cX12_stepDown 190 = .ok (.aload_n 0, 1) := by decide +kernel
theorem dX12_stepDown_191 : decode cX12_stepDown 191 = .ok (.getfield 115, 3) := by decide +kernel
theorem dX12_stepDown_194 : decode cX12_stepDown 194 = .ok (.iload_n 3, 1) := by decide +kernel
theorem dX12_stepDown_195 : decode cX12_stepDown 195 = .ok (.iaload, 1) := by decide +kernel
theorem dX12_stepDown_196 : decode cX12_stepDown 196 = .ok (.aload_n 0, 1) := by decide +kernel
theorem dX12_stepDown_197 : decode cX12_stepDown 197 = .ok (.getfield 115, 3) := by decide +kernel
theorem dX12_stepDown_200 : decode cX12_stepDown 200 = .ok (.iload_n 2, 1) := by decide +kernel
theorem dX12_stepDown_201 : decode cX12_stepDown 201 = .ok (.iaload, 1) := by decide +kernel
theorem dX12_stepDown_202 : decode cX12_stepDown 202 = .ok (.if_icmp .ge 5, 3) := by decide +kernel
theorem dX12_stepDown_205 : decode cX12_stepDown 205 = .ok (.iload_n 3, 1) := by decide +kernel
theorem dX12_stepDown_206 : decode cX12_stepDown 206 = .ok (.istore_n 2, 1) := by decide +kernel
theorem dX12_stepDown_207 : decode cX12_stepDown 207 = .ok (.iinc 3 1, 3) := by decide +kernel
theorem dX12_stepDown_210 : decode cX12_stepDown 210 = .ok (.goto (-140), 3) := by decide +kernel
theorem dX12_stepDown_213 : decode cX12_stepDown 213 = .ok (.aload_n 0, 1) := by decide +kernel
theorem dX12_stepDown_214 : decode cX12_stepDown 214 = .ok (.iload_n 2, 1) := by decide +kernel
theorem dX12_stepDown_215 : decode cX12_stepDown 215 = .ok (.putfield 555, 3) := by decide +kernel
theorem dX12_stepDown_218 : decode cX12_stepDown 218 = .ok (.iload_n 2, 1) := by decide +kernel
theorem dX12_stepDown_219 : decode cX12_stepDown 219 = .ok (.ifCond .ne 7, 3) := by decide +kernel
theorem dX12_stepDown_222 : decode cX12_stepDown 222 = .ok (.iconst (-1), 1) := by decide +kernel
theorem dX12_stepDown_223 : decode cX12_stepDown 223 = .ok (.goto 4, 3) := by decide +kernel
theorem dX12_stepDown_226 : decode cX12_stepDown 226 = .ok (.iconst 1, 1) := by decide +kernel
theorem dX12_stepDown_227 : decode cX12_stepDown 227 = .ok (.ireturn, 1) := by decide +kernel
theorem dX12_stepUp_0 : decode cX12_stepUp 0 = .ok (.iconst 0, 1) := by decide +kernel
theorem dX12_stepUp_1 : decode cX12_stepUp 1 = .ok (.istore_n 2, 1) := by decide +kernel
theorem dX12_stepUp_2 : decode cX12_stepUp 2 = .ok (.iconst 1, 1) := by decide +kernel
theorem dX12_stepUp_3 : decode cX12_stepUp 3 = .ok (.istore_n 3, 1) := by decide +kernel
theorem dX12_stepUp_4 : decode cX12_stepUp 4 = .ok (.iload_n 3, 1) := by decide +kernel
theorem dX12_stepUp_5 : decode cX12_stepUp 5 = .ok (.aload_n 0, 1) := by decide +kernel
theorem dX12_stepUp_6 : decode cX12_stepUp 6 = .ok (.getfield 526, 3) := by decide +kernel
theorem dX12_stepUp_9 : decode cX12_stepUp 9 = .ok (.if_icmp .gt 44, 3) := by decide +kernel
theorem dX12_stepUp_12 : decode cX12_stepUp 12 = .ok (.aload_n 0, 1) := by decide +kernel
theorem dX12_stepUp_13 : decode cX12_stepUp 13 = .ok (.getfield 103, 3) := by decide +kernel
theorem dX12_stepUp_16 : decode cX12_stepUp 16 = .ok (.aload_n 0, 1) := by decide +kernel
theorem dX12_stepUp_17 : decode cX12_stepUp 17 = .ok (.iload_n 1, 1) := by decide +kernel
theorem dX12_stepUp_18 : decode cX12_stepUp 18 = .ok (.iload_n 3, 1) := by decide +kernel
theorem dX12_stepUp_19 : decode cX12_stepUp 19 = .ok (.invokevirtual 529, 3) := by decide +kernel
theorem dX12_stepUp_22 : decode cX12_stepUp 22 = .ok (.iaload, 1) := by decide +kernel
theorem dX12_stepUp_23 : decode cX12_stepUp 23 = .ok (.ifCond .ge 24, 3) := by decide +kernel
theorem dX12_stepUp_26 : decode cX12_stepUp 26 = .ok (.iload_n 2, 1) := by decide +kernel
theorem dX12_stepUp_27 : decode cX12_stepUp 27 = .ok (.ifCond .eq 18, 3) := by decide +kernel
theorem dX12_stepUp_30 : decode cX12_stepUp 30 = .ok (.aload_n 0, 1) := by decide +kernel
theorem dX12_stepUp_31 : decode cX12_stepUp 31 = .ok (.getfield 115, 3) := by decide +kernel
theorem dX12_stepUp_34 : decode cX12_stepUp 34 = .ok (.iload_n 3, 1) := by decide +kernel
theorem dX12_stepUp_35 : decode cX12_stepUp 35 = .ok (.iaload, 1) := by decide +kernel
theorem dX12_stepUp_36 : decode cX12_stepUp 36 = .ok (.aload_n 0, 1) := by decide +kernel
theorem dX12_stepUp_37 : decode cX12_stepUp 37 = .ok (.getfield 115, 3) := by decide +kernel
theorem dX12_stepUp_40 : decode cX12_stepUp 40 = .ok (.iload_n 2, 1) := by decide +kernel
theorem dX12_stepUp_41 : decode cX12_stepUp 41 = .ok (.iaload, 1) := by decide +kernel
theorem dX12_stepUp_42 : decode cX12_stepUp 42 = .ok (.if_icmp .ge 5, 3) := by decide +kernel
theorem dX12_stepUp_45 : decode cX12_stepUp 45 = .ok (.iload_n 3, 1) := by decide +kernel
theorem dX12_stepUp_46 : decode cX12_stepUp 46 = .ok (.istore_n 2, 1) := by decide +kernel
theorem dX12_stepUp_47 : decode cX12_stepUp 47 = .ok (.iinc 3 1, 3) := by decide +kernel
theorem dX12_stepUp_50 : decode cX12_stepUp 50 = .ok (.goto (-46), 3) := by decide +kernel
theorem dX12_stepUp_53 : decode cX12_stepUp 53 = .ok (.iload_n 2, 1) := by decide +kernel
theorem dX12_stepUp_54 : decode cX12_stepUp 54 = .ok (.ifCond .ne 5, 3) := by decide +kernel
theorem dX12_stepUp_57 : decode cX12_stepUp 57 = .ok (.iconst 0, 1) := by decide +kernel
theorem dX12_stepUp_58 : decode cX12_stepUp 58 = .ok (.ireturn, 1) := by decide +kernel
theorem dX12_stepUp_59 : decode cX12_stepUp 59 = .ok (.aload_n 0, 1) := by decide +kernel
theorem dX12_stepUp_60 : decode cX12_stepUp 60 = .ok (.iload_n 2, 1) := by decide +kernel
theorem dX12_stepUp_61 : decode cX12_stepUp 61 = .ok (.putfield 555, 3) := by decide +kernel
theorem dX12_stepUp_64 : decode cX12_stepUp 64 = .ok (.iconst 0, 1) := by decide +kernel
theorem dX12_stepUp_65 : decode cX12_stepUp 65 = .ok (.istore_n 3, 1) := by decide +kernel
theorem dX12_stepUp_66 : decode cX12_stepUp 66 = .ok (.iconst 1, 1) := by decide +kernel
theorem dX12_stepUp_67 : decode cX12_stepUp 67 = .ok (.istore 4, 2) := by decide +kernel
theorem dX12_stepUp_69 : decode cX12_stepUp 69 = .ok (.iload 4, 2) := by decide +kernel
theorem dX12_stepUp_71 : decode cX12_stepUp 71 = .ok (.aload_n 0, 1) := by decide +kernel
theorem dX12_stepUp_72 : decode cX12_stepUp 72 = .ok (.getfield 483, 3) := by decide +kernel
theorem dX12_stepUp_75 : decode cX12_stepUp 75 = .ok (.if_icmp .gt 106, 3) := by decide +kernel
theorem dX12_stepUp_78 : decode cX12_stepUp 78 = .ok (.aload_n 0, 1) := by decide +kernel
theorem dX12_stepUp_79 : decode cX12_stepUp 79 = .ok (.getfield 103, 3) := by decide +kernel
theorem dX12_stepUp_82 : decode cX12_stepUp 82 = .ok (.aload_n 0, 1) := by decide +kernel
theorem dX12_stepUp_83 : decode cX12_stepUp 83 = .ok (.iload 4, 2) := by decide +kernel
theorem dX12_stepUp_85 : decode cX12_stepUp 85 = .ok (.iconst 1, 1) := by decide +kernel
theorem dX12_stepUp_86 : decode cX12_stepUp 86 = .ok (.iadd, 1) := by decide +kernel
theorem dX12_stepUp_87 : decode cX12_stepUp 87 = .ok (.iload_n 2, 1) := by decide +kernel
theorem dX12_stepUp_88 : decode cX12_stepUp 88 = .ok (.invokevirtual 529, 3) := by decide +kernel
theorem dX12_stepUp_91 : decode cX12_stepUp 91 = .ok (.iaload, 1) := by decide +kernel
theorem dX12_stepUp_92 : decode cX12_stepUp 92 = .ok (.ifCond .gt 6, 3) := by decide +kernel
theorem dX12_stepUp_95 : decode cX12_stepUp 95 = .ok (.goto 80, 3) := by decide +kernel
theorem dX12_stepUp_98 : decode cX12_stepUp 98 = .ok (.iload_n 3, 1) := by decide +kernel
theorem dX12_stepUp_99 : decode cX12_stepUp 99 = .ok (.ifCond .ne 7, 3) := by decide +kernel
theorem dX12_stepUp_102 : decode cX12_stepUp 102 = .ok (.iconst (-1), 1) := by decide +kernel
theorem dX12_stepUp_103 : decode cX12_stepUp 103 = .ok (.goto 41, 3) := by decide +kernel
theorem dX12_stepUp_106 : decode cX12_stepUp 106 = .ok (.aload_n 0, 1) := by decide +kernel
theorem dX12_stepUp_107 : decode cX12_stepUp 107 = .ok (.aload_n 0, 1) := by decide +kernel
theorem dX12_stepUp_108 : decode cX12_stepUp 108 = .ok (.iload 4, 2) := by decide +kernel
theorem dX12_stepUp_110 : decode cX12_stepUp 110 = .ok (.iconst 1, 1) := by decide +kernel
theorem dX12_stepUp_111 : decode cX12_stepUp 111 = .ok (.iadd, 1) := by decide +kernel
theorem dX12_stepUp_112 : decode cX12_stepUp 112 = .ok (.iconst 0, 1) := by decide +kernel
theorem dX12_stepUp_113 : decode cX12_stepUp 113 = .ok (.invokevirtual 529, 3) := by decide +kernel
theorem dX12_stepUp_116 : decode cX12_stepUp 116 = .ok (.aload_n 0, 1) := by decide +kernel
theorem dX12_stepUp_117 : decode cX12_stepUp 117 = .ok (.iload 4, 2) := by decide +kernel
theorem dX12_stepUp_119 : decode cX12_stepUp 119 = .ok (.iconst 1, 1) := by decide +kernel
theorem dX12_stepUp_120 : decode cX12_stepUp 120 = .ok (.iadd, 1) := by decide +kernel
theorem dX12_stepUp_121 : decode cX12_stepUp 121 = .ok (.iload_n 2, 1) := by decide +kernel
theorem dX12_stepUp_122 : decode cX12_stepUp 122 = .ok (.invokevirtual 529, 3) := by decide +kernel
theorem dX12_stepUp_125 : decode cX12_stepUp 125 = .ok (.aload_n 0, 1) := by decide +kernel
theorem dX12_stepUp_126 : decode cX12_stepUp 126 = .ok (.iload_n 3, 1) := by decide +kernel
theorem dX12_stepUp_127 : decode cX12_stepUp 127 = .ok (.iconst 1, 1) := by decide +kernel
theorem dX12_stepUp_128 : decode cX12_stepUp 128 = .ok (.iadd, 1) := by decide +kernel
theorem dX12_stepUp_129 : decode cX12_stepUp 129 = .ok (.iconst 0, 1) := by decide +kernel
theorem dX12_stepUp_130 : decode cX12_stepUp 130 = .ok (.invokevirtual 529, 3) := by decide +kernel
theorem dX12_stepUp_133 : decode cX12_stepUp 133 = .ok (.aload_n 0, 1) := by decide +kernel
theorem dX12_stepUp_134 : decode cX12_stepUp 134 = .ok (.iload_n 3, 1) := by decide +kernel
theorem dX12_stepUp_135 : decode cX12_stepUp 135 = .ok (.iconst 1, 1) := by decide +kernel
theorem dX12_stepUp_136 : decode cX12_stepUp 136 = .ok (.iadd, 1) := by decide +kernel
theorem dX12_stepUp_137 : decode cX12_stepUp 137 = .ok (.iload_n 2, 1) := by decide +kernel
theorem dX12_stepUp_138 : decode cX12_stepUp 138 = .ok (.invokevirtual 529, 3) := by decide +kernel
theorem dX12_stepUp_141 : decode cX12_stepUp 141 = .ok (.invokevirtual 558, 3) := by decide +kernel
theorem dX12_stepUp_144 : decode cX12_stepUp 144 = .ok (.istore 5, 2) := by decide +kernel
theorem dX12_stepUp_146 : decode cX12_stepUp 146 = .ok (.iload 5, 2) := by decide +kernel
theorem dX12_stepUp_148 : decode cX12_stepUp 148 = .ok (.ifCond .lt 24, 3) := by decide +kernel
theorem dX12_stepUp_151 : decode cX12_stepUp 151 = .ok (.iload 5, 2) := by decide +kernel
theorem dX12_stepUp_153 : decode cX12_stepUp 153 = .ok (.ifCond .ne 22, 3) := by decide +kernel
theorem dX12_stepUp_156 : decode cX12_stepUp 156 = .ok (.aload_n 0, 1) := by decide +kernel
theorem dX12_stepUp_157 : decode cX12_stepUp 157 = .ok (.getfield 112, 3) := by decide +kernel
theorem dX12_stepUp_160 : decode cX12_stepUp 160 = .ok (.iload 4, 2) := by decide +kernel
theorem dX12_stepUp_162 : decode cX12_stepUp 162 = .ok (.iaload, 1) := by decide +kernel
theorem dX12_stepUp_163 : decode cX12_stepUp 163 = .ok (.aload_n 0, 1) := by decide +kernel
theorem dX12_stepUp_164 : decode cX12_stepUp 164 = .ok (.getfield 112, 3) := by decide +kernel
theorem dX12_stepUp_167 : decode cX12_stepUp 167 = .ok (.iload_n 3, 1) := by decide +kernel
theorem dX12_stepUp_168 : decode cX12_stepUp 168 = .ok (.iaload, 1) := by decide +kernel
theorem dX12_stepUp_169 : decode cX12_stepUp 169 = .ok (.if_icmp .ge 6, 3) := by decide +kernel
theorem dX12_stepUp_172 : decode cX12_stepUp 172 = .ok (.iload 4, 2) := by decide +kernel
theorem dX12_stepUp_174 : decode cX12_stepUp 174 = .ok (.istore_n 3, 1) := by decide +kernel
theorem dX12_stepUp_175 : decode cX12_stepUp 175 = .ok (.iinc 4 1, 3) := by decide +kernel
theorem dX12_stepUp_178 : decode cX12_stepUp 178 = .ok (.goto (-109), 3) := by decide +kernel
theorem dX12_stepUp_181 : decode cX12_stepUp 181 = .ok (.aload_n 0, 1) := by decide +kernel
theorem dX12_stepUp_182 : decode cX12_stepUp 182 = .ok (.iload_n 3, 1) := by decide +kernel
theorem dX12_stepUp_183 : decode cX12_stepUp 183 = .ok (.putfield 562, 3) := by decide +kernel
theorem dX12_stepUp_186 : decode cX12_stepUp 186 = .ok (.iload_n 3, 1) := by decide +kernel
theorem dX12_stepUp_187 : decode cX12_stepUp 187 = .ok (.ifCond .ne 7, 3) := by decide +kernel
theorem dX12_stepUp_190 : decode cX12_stepUp 190 = .ok (.iconst (-1), 1) := by decide +kernel
theorem dX12_stepUp_191 : decode cX12_stepUp 191 = .ok (.goto 4, 3) := by decide +kernel
theorem dX12_stepUp_194 : decode cX12_stepUp 194 = .ok (.iconst 1, 1) := by decide +kernel
theorem dX12_stepUp_195 : decode cX12_stepUp 195 = .ok (.ireturn, 1) := by decide +kernel
theorem w_144 : Cond.selects RX12 yX12_cell yX12_cell ∈ tb := sel_10 (q := (yX12_cell, 105)) 0 (by decide +kernel)
theorem w_147 : Cond.selects RX12 yX12_ratio yX12_ratio ∈ tb := sel_10 (q := (yX12_ratio, 105)) 3 (by decide +kernel)
theorem w_1968 : Cond.fieldLink RX12 26 (TX12 7).1 (TX12 7).2.1 (TX12 7).2.2.1 ∈ tb := tbc_8 85 (by decide +kernel) rfl
theorem w_1969 : Cond.fieldLink RX12 29 (TX12 8).1 (TX12 8).2.1 (TX12 8).2.2.1 ∈ tb := tbc_8 86 (by decide +kernel) rfl
theorem w_2014 : Cond.fieldLink RX12 103 (TX12 53).1 (TX12 53).2.1 (TX12 53).2.2.1 ∈ tb := tbc_8 131 (by decide +kernel) rfl
theorem w_2017 : Cond.fieldLink RX12 112 (TX12 56).1 (TX12 56).2.1 (TX12 56).2.2.1 ∈ tb := tbc_8 134 (by decide +kernel) rfl
theorem w_2018 : Cond.fieldLink RX12 115 (TX12 57).1 (TX12 57).2.1 (TX12 57).2.2.1 ∈ tb := tbc_8 135 (by decide +kernel) rfl
theorem w_2019 : Cond.fieldLink RX12 483 (TX12 58).1 (TX12 58).2.1 (TX12 58).2.2.1 ∈ tb := tbc_8 136 (by decide +kernel) rfl
theorem w_2020 : Cond.fieldLink RX12 526 (TX12 59).1 (TX12 59).2.1 (TX12 59).2.2.1 ∈ tb := tbc_8 137 (by decide +kernel) rfl
theorem w_2032 : Cond.fieldLink RX12 562 (TX12 71).1 (TX12 71).2.1 (TX12 71).2.2.1 ∈ tb := tbc_8 149 (by decide +kernel) rfl
theorem w_2033 : Cond.fieldLink RX12 555 (TX12 72).1 (TX12 72).2.1 (TX12 72).2.2.1 ∈ tb := tbc_8 150 (by decide +kernel) rfl
theorem w_2492 : Cond.methodLink RX12 529 yX12_cell ∈ tb := tbc_10 129 (by decide +kernel) rfl
theorem w_2494 : Cond.instanceMethod yX12_cell ∈ tb := tbc_10 131 (by decide +kernel) rfl
theorem w_2495 : Cond.code yX12_cell cX12_cell 3 (some .int) ∈ tb := tbc_10 132 (by decide +kernel) rfl
theorem w_2505 : Cond.methodLink RX12 552 yX12_compare ∈ tb := tbc_10 142 (by decide +kernel) rfl
theorem w_2506 : Cond.static yX12_compare ∈ tb := tbc_10 143 (by decide +kernel) rfl
theorem w_2507 : Cond.code yX12_compare cX12_compare 6 (some .int) ∈ tb := tbc_10 144 (by decide +kernel) rfl
theorem w_2518 : Cond.methodLink RX12 558 yX12_ratio ∈ tb := tbc_10 155 (by decide +kernel) rfl
theorem w_2520 : Cond.instanceMethod yX12_ratio ∈ tb := tbc_10 157 (by decide +kernel) rfl
theorem w_2521 : Cond.code yX12_ratio cX12_ratio 5 (some .int) ∈ tb := tbc_10 158 (by decide +kernel) rfl
theorem w_2522 : Cond.methodLink RX12 548 yX12_multiply ∈ tb := tbc_10 159 (by decide +kernel) rfl
theorem w_2523 : Cond.static yX12_multiply ∈ tb := tbc_10 160 (by decide +kernel) rfl
theorem w_2524 : Cond.code yX12_multiply cX12_multiply 15 none ∈ tb := tbc_10 161 (by decide +kernel) rfl
section RW57
variable {p : Program} {l : Launch} {e : Env} {R : Room} {s : State} {m : MethodId} {args : Array Value} {below : List Frame} {meth : Method} {c : Code} {H : Heap} {locs : List Loc} {cells slots : Nat} {Q : State → Prop}
variable {cc : ByteArray} {pc nL : Nat} {ls : Array Slot} {rest st0 : List Value} {G : sG} {n : Nat} {S : sS}
theorem g_X12_103 (Cx : sC G p m c cc nL s args RX12) (hW : sW G n S H) {k : Nat} (hk : k < n) (ht : tau k = .inl 12) {v : Value} (hv : S.2.2.2 k 53 = v) (hdg : decode cc pc = .ok (.getfield 103, 3)) (kk : W p l e R s m args below meth c H locs cells slots Q (F0 m (pc + 3) ls (v :: rest))) : W p l e R s m args below meth c H locs cells slots Q (F0 m pc ls (.ref (G.2.2.1 + k) :: rest)) :=
  sGet Cx inX12 rfl 53 (by decide) w_2014 hW hk ht hv hdg kk
theorem g_X12_26 (Cx : sC G p m c cc nL s args RX12) (hW : sW G n S H) {k : Nat} (hk : k < n) (ht : tau k = .inl 12) {v : Value} (hv : S.2.2.2 k 7 = v) (hdg : decode cc pc = .ok (.getfield 26, 3)) (kk : W p l e R s m args below meth c H locs cells slots Q (F0 m (pc + 3) ls (v :: rest))) : W p l e R s m args below meth c H locs cells slots Q (F0 m pc ls (.ref (G.2.2.1 + k) :: rest)) :=
  sGet Cx inX12 rfl 7 (by decide) w_1968 hW hk ht hv hdg kk
theorem c_X12_548 (Cx : sC G p m c cc nL s args RX12) {rm : Room} {mc ms : Nat} (h1 : rm.cells = mc) (h2 : rm.slots = ms) (h3 : rm.frames + 1 ≤ R.frames ∧ 8 + (15 + 11) + rm.locals ≤ R.locals) : CallB R s args RX12 548 yX12_multiply cX12_multiply 15 none (.code yX12_multiply cX12_multiply 15 none :: tb) rm mc ms 6 ∧ (Cond.static yX12_multiply).before args s = true :=
  sCS Cx 6 w_2522 w_2523 w_217 w_2524 (by decide +kernel) h1 h2 h3
theorem g_X12_29 (Cx : sC G p m c cc nL s args RX12) (hW : sW G n S H) {k : Nat} (hk : k < n) (ht : tau k = .inl 12) {v : Value} (hv : S.2.2.2 k 8 = v) (hdg : decode cc pc = .ok (.getfield 29, 3)) (kk : W p l e R s m args below meth c H locs cells slots Q (F0 m (pc + 3) ls (v :: rest))) : W p l e R s m args below meth c H locs cells slots Q (F0 m pc ls (.ref (G.2.2.1 + k) :: rest)) :=
  sGet Cx inX12 rfl 8 (by decide) w_1969 hW hk ht hv hdg kk
theorem c_X12_552 (Cx : sC G p m c cc nL s args RX12) {rm : Room} {mc ms : Nat} (h1 : rm.cells = mc) (h2 : rm.slots = ms) (h3 : rm.frames + 1 ≤ R.frames ∧ 8 + (6 + 11) + rm.locals ≤ R.locals) : CallB R s args RX12 552 yX12_compare cX12_compare 6 (some .int) (.code yX12_compare cX12_compare 6 (some .int) :: tb) rm mc ms 4 ∧ (Cond.static yX12_compare).before args s = true :=
  sCS Cx 4 w_2505 w_2506 w_217 w_2507 (by decide +kernel) h1 h2 h3
theorem g_X12_526 (Cx : sC G p m c cc nL s args RX12) (hW : sW G n S H) {k : Nat} (hk : k < n) (ht : tau k = .inl 12) {v : Int} (hv : S.1 k 59 = v) (hdg : decode cc pc = .ok (.getfield 526, 3)) (kk : W p l e R s m args below meth c H locs cells slots Q (F0 m (pc + 3) ls (.int (iv v) :: rest))) : W p l e R s m args below meth c H locs cells slots Q (F0 m pc ls (.ref (G.2.2.1 + k) :: rest)) :=
  sGet Cx inX12 rfl 59 (by decide) w_2020 hW hk ht (congrArg (fun z => Value.int (iv z)) hv) hdg kk
theorem p_X12_555 (Cx : sC G p m c cc nL s args RX12) (hW : sW G n S H) (hL : sL G locs) {k : Nat} (hk : k < n) (ht : tau k = .inl 12) {v : Int} (hdg : decode cc pc = .ok (.putfield 555, 3)) (kk : ∀ (H1 : Heap) (locs1 : List Loc), sW G n (uF S k 72 v) H1 → sL G locs1 → W p l e R s m args below meth c H1 locs1 cells slots Q (F0 m (pc + 3) ls rest)) : W p l e R s m args below meth c H locs cells slots Q (F0 m pc ls (.int (iv v) :: .ref (G.2.2.1 + k) :: rest)) :=
  sPut Cx inX12 tyX12 tyX12_ok nmX12 rfl 72 (by decide) w_2033 rfl hW hL hk ht rfl rfl (fun _ h => uF_same h) (fun _ h => uF_off h) (congrArg (fun z => Value.int (iv z)) uF_on) hdg kk
theorem g_X12_483 (Cx : sC G p m c cc nL s args RX12) (hW : sW G n S H) {k : Nat} (hk : k < n) (ht : tau k = .inl 12) {v : Int} (hv : S.1 k 58 = v) (hdg : decode cc pc = .ok (.getfield 483, 3)) (kk : W p l e R s m args below meth c H locs cells slots Q (F0 m (pc + 3) ls (.int (iv v) :: rest))) : W p l e R s m args below meth c H locs cells slots Q (F0 m pc ls (.ref (G.2.2.1 + k) :: rest)) :=
  sGet Cx inX12 rfl 58 (by decide) w_2019 hW hk ht (congrArg (fun z => Value.int (iv z)) hv) hdg kk
theorem p_X12_562 (Cx : sC G p m c cc nL s args RX12) (hW : sW G n S H) (hL : sL G locs) {k : Nat} (hk : k < n) (ht : tau k = .inl 12) {v : Int} (hdg : decode cc pc = .ok (.putfield 562, 3)) (kk : ∀ (H1 : Heap) (locs1 : List Loc), sW G n (uF S k 71 v) H1 → sL G locs1 → W p l e R s m args below meth c H1 locs1 cells slots Q (F0 m (pc + 3) ls rest)) : W p l e R s m args below meth c H locs cells slots Q (F0 m pc ls (.int (iv v) :: .ref (G.2.2.1 + k) :: rest)) :=
  sPut Cx inX12 tyX12 tyX12_ok nmX12 rfl 71 (by decide) w_2032 rfl hW hL hk ht rfl rfl (fun _ h => uF_same h) (fun _ h => uF_off h) (congrArg (fun z => Value.int (iv z)) uF_on) hdg kk
theorem c_X12_529 (Cx : sC G p m c cc nL s args RX12) {rm : Room} {mc ms : Nat} (h1 : rm.cells = mc) (h2 : rm.slots = ms) (h3 : rm.frames + 1 ≤ R.frames ∧ 8 + (3 + 11) + rm.locals ≤ R.locals) : CallW R s args RX12 RX12 529 yX12_cell cX12_cell 3 (some .int) (.code yX12_cell cX12_cell 3 (some .int) :: tb) rm mc ms 2 :=
  sCw Cx 2 w_2492 w_2494 w_144 w_217 w_2495 (by decide +kernel) h1 h2 h3
theorem g_X12_112 (Cx : sC G p m c cc nL s args RX12) (hW : sW G n S H) {k : Nat} (hk : k < n) (ht : tau k = .inl 12) {v : Value} (hv : S.2.2.2 k 56 = v) (hdg : decode cc pc = .ok (.getfield 112, 3)) (kk : W p l e R s m args below meth c H locs cells slots Q (F0 m (pc + 3) ls (v :: rest))) : W p l e R s m args below meth c H locs cells slots Q (F0 m pc ls (.ref (G.2.2.1 + k) :: rest)) :=
  sGet Cx inX12 rfl 56 (by decide) w_2017 hW hk ht hv hdg kk
theorem c_X12_558 (Cx : sC G p m c cc nL s args RX12) {rm : Room} {mc ms : Nat} (h1 : rm.cells = mc) (h2 : rm.slots = ms) (h3 : rm.frames + 1 ≤ R.frames ∧ 8 + (5 + 11) + rm.locals ≤ R.locals) : CallW R s args RX12 RX12 558 yX12_ratio cX12_ratio 5 (some .int) (.code yX12_ratio cX12_ratio 5 (some .int) :: tb) rm mc ms 4 :=
  sCw Cx 4 w_2518 w_2520 w_147 w_217 w_2521 (by decide +kernel) h1 h2 h3
theorem g_X12_115 (Cx : sC G p m c cc nL s args RX12) (hW : sW G n S H) {k : Nat} (hk : k < n) (ht : tau k = .inl 12) {v : Value} (hv : S.2.2.2 k 57 = v) (hdg : decode cc pc = .ok (.getfield 115, 3)) (kk : W p l e R s m args below meth c H locs cells slots Q (F0 m (pc + 3) ls (v :: rest))) : W p l e R s m args below meth c H locs cells slots Q (F0 m pc ls (.ref (G.2.2.1 + k) :: rest)) :=
  sGet Cx inX12 rfl 57 (by decide) w_2018 hW hk ht hv hdg kk
end RW57
