theorem dX12_finish_0 : decode cX12_finish 0 = .ok (.aload_n 0, 1) := by decide +kernel
theorem dX12_finish_1 : decode cX12_finish 1 = .ok (.iconst 0, 1) := by decide +kernel
theorem dX12_finish_2 : decode cX12_finish 2 = .ok (.putfield 523, 3) := by decide +kernel
theorem dX12_finish_5 : decode cX12_finish 5 = .ok (.aload_n 0, 1) := by decide +kernel
theorem dX12_finish_6 : decode cX12_finish 6 = .ok (.getfield 514, 3) := by decide +kernel
theorem dX12_finish_9 : decode cX12_finish 9 = .ok (.ifCond .eq 106, 3) := by decide +kernel
theorem dX12_finish_12 : decode cX12_finish 12 = .ok (.aload_n 0, 1) := by decide +kernel
theorem dX12_finish_13 : decode cX12_finish 13 = .ok (.ldc_w 669, 3) := by decide +kernel
theorem dX12_finish_16 : decode cX12_finish 16 = .ok (.invokevirtual 666, 3) := by decide +kernel
theorem dX12_finish_19 : decode cX12_finish 19 = .ok (.aload_n 0, 1) := by decide +kernel
theorem dX12_finish_20 : decode cX12_finish 20 = .ok (.aload_n 0, 1) := by decide +kernel
theorem dX12_finish_21 : decode cX12_finish 21 = .ok (.getfield 134, 3) := by decide +kernel
theorem dX12_finish_24 : decode cX12_finish 24 = .ok (.iconst 0, 1) := by decide +kernel
theorem dX12_finish_25 : decode cX12_finish 25 = .ok (.aload_n 0, 1) := by decide +kernel
theorem dX12_finish_26 : decode cX12_finish 26 = .ok (.getfield 137, 3) := by decide +kernel
theorem dX12_finish_29 : decode cX12_finish 29 = .ok (.iconst 0, 1) := by decide +kernel
theorem dX12_finish_30 : decode cX12_finish 30 = .ok (.invokevirtual 671, 3) := by decide +kernel
theorem dX12_finish_33 : decode cX12_finish 33 = .ok (.aload_n 0, 1) := by decide +kernel
theorem dX12_finish_34 : decode cX12_finish 34 = .ok (.getfield 474, 3) := by decide +kernel
theorem dX12_finish_37 : decode cX12_finish 37 = .ok (.ifCond .ne 11, 3) := by decide +kernel
theorem dX12_finish_40 : decode cX12_finish 40 = .ok (.aload_n 0, 1) := by decide +kernel
theorem dX12_finish_41 : decode cX12_finish 41 = .ok (.getfield 26, 3) := by decide +kernel
theorem dX12_finish_44 : decode cX12_finish 44 = .ok (.iconst 0, 1) := by decide +kernel
theorem dX12_finish_45 : decode cX12_finish 45 = .ok (.invokestatic 540, 3) := by decide +kernel
theorem dX12_finish_48 : decode cX12_finish 48 = .ok (.aload_n 0, 1) := by decide +kernel
theorem dX12_finish_49 : decode cX12_finish 49 = .ok (.iconst 0, 1) := by decide +kernel
theorem dX12_finish_50 : decode cX12_finish 50 = .ok (.putfield 259, 3) := by decide +kernel
theorem dX12_finish_53 : decode cX12_finish 53 = .ok (.aload_n 0, 1) := by decide +kernel
theorem dX12_finish_54 : decode cX12_finish 54 = .ok (.aload_n 0, 1) := by decide +kernel
theorem dX12_finish_55 : decode cX12_finish 55 = .ok (.getfield 26, 3) := by decide +kernel
theorem dX12_finish_58 : decode cX12_finish 58 = .ok (.iconst 0, 1) := by decide +kernel
theorem dX12_finish_59 : decode cX12_finish 59 = .ok (.invokevirtual 594, 3) := by decide +kernel
theorem dX12_finish_62 : decode cX12_finish 62 = .ok (.aload_n 0, 1) := by decide +kernel
theorem dX12_finish_63 : decode cX12_finish 63 = .ok (.invokevirtual 661, 3) := by decide +kernel
theorem dX12_finish_66 : decode cX12_finish 66 = .ok (.aload_n 0, 1) := by decide +kernel
theorem dX12_finish_67 : decode cX12_finish 67 = .ok (.ldc_w 664, 3) := by decide +kernel
theorem dX12_finish_70 : decode cX12_finish 70 = .ok (.invokevirtual 666, 3) := by decide +kernel
theorem dX12_finish_73 : decode cX12_finish 73 = .ok (.aload_n 0, 1) := by decide +kernel
theorem dX12_finish_74 : decode cX12_finish 74 = .ok (.iconst 0, 1) := by decide +kernel
theorem dX12_finish_75 : decode cX12_finish 75 = .ok (.putfield 259, 3) := by decide +kernel
theorem dX12_finish_78 : decode cX12_finish 78 = .ok (.aload_n 0, 1) := by decide +kernel
theorem dX12_finish_79 : decode cX12_finish 79 = .ok (.aload_n 0, 1) := by decide +kernel
theorem dX12_finish_80 : decode cX12_finish 80 = .ok (.getfield 29, 3) := by decide +kernel
theorem dX12_finish_83 : decode cX12_finish 83 = .ok (.iconst 0, 1) := by decide +kernel
theorem dX12_finish_84 : decode cX12_finish 84 = .ok (.invokevirtual 594, 3) := by decide +kernel
theorem dX12_finish_87 : decode cX12_finish 87 = .ok (.aload_n 0, 1) := by decide +kernel
theorem dX12_finish_88 : decode cX12_finish 88 = .ok (.invokevirtual 661, 3) := by decide +kernel
theorem dX12_finish_91 : decode cX12_finish 91 = .ok (.aload_n 0, 1) := by decide +kernel
theorem dX12_finish_92 : decode cX12_finish 92 = .ok (.ldc_w 674, 3) := by decide +kernel
theorem dX12_finish_95 : decode cX12_finish 95 = .ok (.invokevirtual 666, 3) := by decide +kernel
theorem dX12_finish_98 : decode cX12_finish 98 = .ok (.aload_n 0, 1) := by decide +kernel
theorem dX12_finish_99 : decode cX12_finish 99 = .ok (.aload_n 0, 1) := by decide +kernel
theorem dX12_finish_100 : decode cX12_finish 100 = .ok (.getfield 140, 3) := by decide +kernel
theorem dX12_finish_103 : decode cX12_finish 103 = .ok (.iconst 0, 1) := by decide +kernel
theorem dX12_finish_104 : decode cX12_finish 104 = .ok (.aload_n 0, 1) := by decide +kernel
theorem dX12_finish_105 : decode cX12_finish 105 = .ok (.getfield 137, 3) := by decide +kernel
theorem dX12_finish_108 : decode cX12_finish 108 = .ok (.iconst 0, 1) := by decide +kernel
theorem dX12_finish_109 : decode cX12_finish 109 = .ok (.invokevirtual 675, 3) := by decide +kernel
theorem dX12_finish_112 : decode cX12_finish 112 = .ok (.goto 10, 3) := by decide +kernel
theorem dX12_finish_115 : decode cX12_finish 115 = .ok (.aload_n 0, 1) := by decide +kernel
theorem dX12_finish_116 : decode cX12_finish 116 = .ok (.ldc_w 678, 3) := by decide +kernel
theorem dX12_finish_119 : decode cX12_finish 119 = .ok (.invokevirtual 666, 3) := by decide +kernel
theorem dX12_finish_122 : decode cX12_finish 122 = .ok (.aload_n 0, 1) := by decide +kernel
theorem dX12_finish_123 : decode cX12_finish 123 = .ok (.getfield 523, 3) := by decide +kernel
theorem dX12_finish_126 : decode cX12_finish 126 = .ok (.iconst 1, 1) := by decide +kernel
theorem dX12_finish_127 : decode cX12_finish 127 = .ok (.iadd, 1) := by decide +kernel
theorem dX12_finish_128 : decode cX12_finish 128 = .ok (.aload_n 0, 1) := by decide +kernel
theorem dX12_finish_129 : decode cX12_finish 129 = .ok (.getfield 520, 3) := by decide +kernel
theorem dX12_finish_132 : decode cX12_finish 132 = .ok (.iadd, 1) := by decide +kernel
theorem dX12_finish_133 : decode cX12_finish 133 = .ok (.sipush 30000, 3) := by decide +kernel
theorem dX12_finish_136 : decode cX12_finish 136 = .ok (.if_icmp .le 15, 3) := by decide +kernel
theorem dX12_finish_139 : decode cX12_finish 139 = .ok (.aload_n 0, 1) := by decide +kernel
theorem dX12_finish_140 : decode cX12_finish 140 = .ok (.bipush 6, 2) := by decide +kernel
theorem dX12_finish_142 : decode cX12_finish 142 = .ok (.putfield 477, 3) := by decide +kernel
theorem dX12_finish_145 : decode cX12_finish 145 = .ok (.aload_n 0, 1) := by decide +kernel
theorem dX12_finish_146 : decode cX12_finish 146 = .ok (.iconst 0, 1) := by decide +kernel
theorem dX12_finish_147 : decode cX12_finish 147 = .ok (.putfield 523, 3) := by decide +kernel
theorem dX12_finish_150 : decode cX12_finish 150 = .ok (.return_, 1) := by decide +kernel
theorem dX12_finish_151 : decode cX12_finish 151 = .ok (.aload_n 0, 1) := by decide +kernel
theorem dX12_finish_152 : decode cX12_finish 152 = .ok (.getfield 148, 3) := by decide +kernel
theorem dX12_finish_155 : decode cX12_finish 155 = .ok (.aload_n 0, 1) := by decide +kernel
theorem dX12_finish_156 : decode cX12_finish 156 = .ok (.getfield 523, 3) := by decide +kernel
theorem dX12_finish_159 : decode cX12_finish 159 = .ok (.bipush 32, 2) := by decide +kernel
theorem dX12_finish_161 : decode cX12_finish 161 = .ok (.bastore, 1) := by decide +kernel
theorem dX12_finish_162 : decode cX12_finish 162 = .ok (.aload_n 0, 1) := by decide +kernel
theorem dX12_finish_163 : decode cX12_finish 163 = .ok (.dup, 1) := by decide +kernel
theorem dX12_finish_164 : decode cX12_finish 164 = .ok (.getfield 523, 3) := by decide +kernel
theorem dX12_finish_167 : decode cX12_finish 167 = .ok (.iconst 1, 1) := by decide +kernel
theorem dX12_finish_168 : decode cX12_finish 168 = .ok (.iadd, 1) := by decide +kernel
theorem dX12_finish_169 : decode cX12_finish 169 = .ok (.putfield 523, 3) := by decide +kernel
theorem dX12_finish_172 : decode cX12_finish 172 = .ok (.iconst 0, 1) := by decide +kernel
theorem dX12_finish_173 : decode cX12_finish 173 = .ok (.istore_n 1, 1) := by decide +kernel
theorem dX12_finish_174 : decode cX12_finish 174 = .ok (.iload_n 1, 1) := by decide +kernel
theorem dX12_finish_175 : decode cX12_finish 175 = .ok (.aload_n 0, 1) := by decide +kernel
theorem dX12_finish_176 : decode cX12_finish 176 = .ok (.getfield 520, 3) := by decide +kernel
theorem dX12_finish_179 : decode cX12_finish 179 = .ok (.if_icmp .ge 26, 3) := by decide +kernel
theorem dX12_finish_182 : decode cX12_finish 182 = .ok (.aload_n 0, 1) := by decide +kernel
theorem dX12_finish_183 : decode cX12_finish 183 = .ok (.getfield 148, 3) := by decide +kernel
theorem dX12_finish_186 : decode cX12_finish 186 = .ok (.aload_n 0, 1) := by decide +kernel
theorem dX12_finish_187 : decode cX12_finish 187 = .ok (.getfield 523, 3) := by decide +kernel
theorem dX12_finish_190 : decode cX12_finish 190 = .ok (.iload_n 1, 1) := by decide +kernel
theorem dX12_finish_191 : decode cX12_finish 191 = .ok (.iadd, 1) := by decide +kernel
theorem dX12_finish_192 : decode cX12_finish 192 = .ok (.aload_n 0, 1) := by decide +kernel
theorem dX12_finish_193 : decode cX12_finish 193 = .ok (.getfield 144, 3) := by decide +kernel
theorem dX12_finish_196 : decode cX12_finish 196 = .ok (.iload_n 1, 1) := by decide +kernel
theorem dX12_finish_197 : decode cX12_finish 197 = .ok (.baload, 1) := by decide +kernel
theorem dX12_finish_198 : decode cX12_finish 198 = .ok (.bastore, 1) := by decide +kernel
theorem dX12_finish_199 : decode cX12_finish 199 = .ok (.iinc 1 1, 3) := by decide +kernel
theorem dX12_finish_202 : decode cX12_finish 202 = .ok (.goto (-28), 3) := by decide +kernel
theorem dX12_finish_205 : decode cX12_finish 205 = .ok (.aload_n 0, 1) := by decide +kernel
theorem dX12_finish_206 : decode cX12_finish 206 = .ok (.dup, 1) := by decide +kernel
theorem dX12_finish_207 : decode cX12_finish 207 = .ok (.getfield 523, 3) := by decide +kernel
theorem dX12_finish_210 : decode cX12_finish 210 = .ok (.aload_n 0, 1) := by decide +kernel
theorem dX12_finish_211 : decode cX12_finish 211 = .ok (.getfield 520, 3) := by decide +kernel
theorem dX12_finish_214 : decode cX12_finish 214 = .ok (.iadd, 1) := by decide +kernel
theorem dX12_finish_215 : decode cX12_finish 215 = .ok (.putfield 523, 3) := by decide +kernel
theorem dX12_finish_218 : decode cX12_finish 218 = .ok (.aload_n 0, 1) := by decide +kernel
theorem dX12_finish_219 : decode cX12_finish 219 = .ok (.aload_n 0, 1) := by decide +kernel
theorem dX12_finish_220 : decode cX12_finish 220 = .ok (.getfield 514, 3) := by decide +kernel
theorem dX12_finish_223 : decode cX12_finish 223 = .ok (.ifCond .eq 7, 3) := by decide +kernel
theorem dX12_finish_226 : decode cX12_finish 226 = .ok (.iconst 2, 1) := by decide +kernel
theorem dX12_finish_227 : decode cX12_finish 227 = .ok (.goto 4, 3) := by decide +kernel
theorem dX12_finish_230 : decode cX12_finish 230 = .ok (.iconst 3, 1) := by decide +kernel
theorem dX12_finish_231 : decode cX12_finish 231 = .ok (.putfield 477, 3) := by decide +kernel
theorem dX12_finish_234 : decode cX12_finish 234 = .ok (.return_, 1) := by decide +kernel
theorem dX12_lower_0 : decode cX12_lower 0 = .ok (.aload_n 0, 1) := by decide +kernel
theorem dX12_lower_1 : decode cX12_lower 1 = .ok (.aload_n 3, 1) := by decide +kernel
theorem dX12_lower_2 : decode cX12_lower 2 = .ok (.iload 4, 2) := by decide +kernel
theorem dX12_lower_4 : decode cX12_lower 4 = .ok (.aload_n 1, 1) := by decide +kernel
theorem dX12_lower_5 : decode cX12_lower 5 = .ok (.iload_n 2, 1) := by decide +kernel
theorem dX12_lower_6 : decode cX12_lower 6 = .ok (.invokevirtual 658, 3) := by decide +kernel
theorem dX12_lower_9 : decode cX12_lower 9 = .ok (.aload_n 0, 1) := by decide +kernel
theorem dX12_lower_10 : decode cX12_lower 10 = .ok (.getfield 38, 3) := by decide +kernel
theorem dX12_lower_13 : decode cX12_lower 13 = .ok (.iconst 0, 1) := by decide +kernel
theorem dX12_lower_14 : decode cX12_lower 14 = .ok (.aload_n 0, 1) := by decide +kernel
theorem dX12_lower_15 : decode cX12_lower 15 = .ok (.getfield 160, 3) := by decide +kernel
theorem dX12_lower_18 : decode cX12_lower 18 = .ok (.iconst 0, 1) := by decide +kernel
theorem dX12_lower_19 : decode cX12_lower 19 = .ok (.invokestatic 233, 3) := by decide +kernel
theorem dX12_lower_22 : decode cX12_lower 22 = .ok (.aload_n 0, 1) := by decide +kernel
theorem dX12_lower_23 : decode cX12_lower 23 = .ok (.aload_n 3, 1) := by decide +kernel
theorem dX12_lower_24 : decode cX12_lower 24 = .ok (.iload 4, 2) := by decide +kernel
theorem dX12_lower_26 : decode cX12_lower 26 = .ok (.aload_n 0, 1) := by decide +kernel
theorem dX12_lower_27 : decode cX12_lower 27 = .ok (.getfield 160, 3) := by decide +kernel
theorem dX12_lower_30 : decode cX12_lower 30 = .ok (.iconst 0, 1) := by decide +kernel
theorem dX12_lower_31 : decode cX12_lower 31 = .ok (.aload_n 0, 1) := by decide +kernel
theorem dX12_lower_32 : decode cX12_lower 32 = .ok (.getfield 29, 3) := by decide +kernel
theorem dX12_lower_35 : decode cX12_lower 35 = .ok (.iconst 0, 1) := by decide +kernel
theorem dX12_lower_36 : decode cX12_lower 36 = .ok (.aload_n 0, 1) := by decide +kernel
theorem dX12_lower_37 : decode cX12_lower 37 = .ok (.getfield 35, 3) := by decide +kernel
theorem dX12_lower_40 : decode cX12_lower 40 = .ok (.iconst 0, 1) := by decide +kernel
theorem dX12_lower_41 : decode cX12_lower 41 = .ok (.invokevirtual 266, 3) := by decide +kernel
theorem dX12_lower_44 : decode cX12_lower 44 = .ok (.aload_n 0, 1) := by decide +kernel
theorem dX12_lower_45 : decode cX12_lower 45 = .ok (.aload_n 1, 1) := by decide +kernel
theorem dX12_lower_46 : decode cX12_lower 46 = .ok (.iload_n 2, 1) := by decide +kernel
theorem dX12_lower_47 : decode cX12_lower 47 = .ok (.aload_n 0, 1) := by decide +kernel
theorem dX12_lower_48 : decode cX12_lower 48 = .ok (.getfield 160, 3) := by decide +kernel
theorem dX12_lower_51 : decode cX12_lower 51 = .ok (.iconst 0, 1) := by decide +kernel
theorem dX12_lower_52 : decode cX12_lower 52 = .ok (.aload_n 0, 1) := by decide +kernel
theorem dX12_lower_53 : decode cX12_lower 53 = .ok (.getfield 26, 3) := by decide +kernel
theorem dX12_lower_56 : decode cX12_lower 56 = .ok (.iconst 0, 1) := by decide +kernel
theorem dX12_lower_57 : decode cX12_lower 57 = .ok (.aload_n 0, 1) := by decide +kernel
theorem dX12_lower_58 : decode cX12_lower 58 = .ok (.getfield 35, 3) := by decide +kernel
theorem dX12_lower_61 : decode cX12_lower 61 = .ok (.iconst 0, 1) := by decide +kernel
theorem dX12_lower_62 : decode cX12_lower 62 = .ok (.invokevirtual 266, 3) := by decide +kernel
theorem dX12_lower_65 : decode cX12_lower 65 = .ok (.return_, 1) := by decide +kernel
theorem dX12_ray_0 : decode cX12_ray 0 = .ok (.aload_n 0, 1) := by decide +kernel
theorem dX12_ray_1 : decode cX12_ray 1 = .ok (.iconst 0, 1) := by decide +kernel
theorem dX12_ray_2 : decode cX12_ray 2 = .ok (.putfield 523, 3) := by decide +kernel
theorem dX12_ray_5 : decode cX12_ray 5 = .ok (.iconst 0, 1) := by decide +kernel
theorem dX12_ray_6 : decode cX12_ray 6 = .ok (.istore_n 1, 1) := by decide +kernel
theorem dX12_ray_7 : decode cX12_ray 7 = .ok (.iload_n 1, 1) := by decide +kernel
theorem dX12_ray_8 : decode cX12_ray 8 = .ok (.aload_n 0, 1) := by decide +kernel
theorem dX12_ray_9 : decode cX12_ray 9 = .ok (.getfield 465, 3) := by decide +kernel
theorem dX12_ray_12 : decode cX12_ray 12 = .ok (.if_icmp .gt 19, 3) := by decide +kernel
theorem dX12_ray_15 : decode cX12_ray 15 = .ok (.aload_n 0, 1) := by decide +kernel
theorem dX12_ray_16 : decode cX12_ray 16 = .ok (.getfield 163, 3) := by decide +kernel
theorem dX12_ray_19 : decode cX12_ray 19 = .ok (.bipush 8, 2) := by decide +kernel
theorem dX12_ray_21 : decode cX12_ray 21 = .ok (.iload_n 1, 1) := by decide +kernel
theorem dX12_ray_22 : decode cX12_ray 22 = .ok (.imul, 1) := by decide +kernel
theorem dX12_ray_23 : decode cX12_ray 23 = .ok (.iconst 0, 1) := by decide +kernel
theorem dX12_ray_24 : decode cX12_ray 24 = .ok (.iastore, 1) := by decide +kernel
theorem dX12_ray_25 : decode cX12_ray 25 = .ok (.iinc 1 1, 3) := by decide +kernel
theorem dX12_ray_28 : decode cX12_ray 28 = .ok (.goto (-21), 3) := by decide +kernel
theorem dX12_ray_31 : decode cX12_ray 31 = .ok (.iconst 1, 1) := by decide +kernel
theorem dX12_ray_32 : decode cX12_ray 32 = .ok (.istore_n 1, 1) := by decide +kernel
theorem dX12_ray_33 : decode cX12_ray 33 = .ok (.iload_n 1, 1) := by decide +kernel
theorem dX12_ray_34 : decode cX12_ray 34 = .ok (.aload_n 0, 1) := by decide +kernel
theorem dX12_ray_35 : decode cX12_ray 35 = .ok (.getfield 483, 3) := by decide +kernel
theorem dX12_ray_38 : decode cX12_ray 38 = .ok (.if_icmp .gt 60, 3) := by decide +kernel
theorem dX12_ray_41 : decode cX12_ray 41 = .ok (.aload_n 0, 1) := by decide +kernel
theorem dX12_ray_42 : decode cX12_ray 42 = .ok (.getfield 112, 3) := by decide +kernel
theorem dX12_ray_45 : decode cX12_ray 45 = .ok (.iload_n 1, 1) := by decide +kernel
theorem dX12_ray_46 : decode cX12_ray 46 = .ok (.iaload, 1) := by decide +kernel
theorem dX12_ray_47 : decode cX12_ray 47 = .ok (.iconst 1, 1) := by decide +kernel
theorem dX12_ray_48 : decode cX12_ray 48 = .ok (.if_icmp .lt 44, 3) := by decide +kernel
theorem dX12_ray_51 : decode cX12_ray 51 = .ok (.aload_n 0, 1) := by decide +kernel
theorem dX12_ray_52 : decode cX12_ray 52 = .ok (.getfield 112, 3) := by decide +kernel
theorem dX12_ray_55 : decode cX12_ray 55 = .ok (.iload_n 1, 1) := by decide +kernel
theorem dX12_ray_56 : decode cX12_ray 56 = .ok (.iaload, 1) := by decide +kernel
theorem dX12_ray_57 : decode cX12_ray 57 = .ok (.aload_n 0, 1) := by decide +kernel
theorem dX12_ray_58 : decode cX12_ray 58 = .ok (.getfield 465, 3) := by decide +kernel
theorem dX12_ray_61 : decode cX12_ray 61 = .ok (.if_icmp .gt 31, 3) := by decide +kernel
theorem dX12_ray_64 : decode cX12_ray 64 = .ok (.aload_n 0, 1) := by decide +kernel
theorem dX12_ray_65 : decode cX12_ray 65 = .ok (.getfield 103, 3) := by decide +kernel
theorem dX12_ray_68 : decode cX12_ray 68 = .ok (.aload_n 0, 1) := by decide +kernel
theorem dX12_ray_69 : decode cX12_ray 69 = .ok (.iload_n 1, 1) := by decide +kernel
theorem dX12_ray_70 : decode cX12_ray 70 = .ok (.iconst 1, 1) := by decide +kernel
theorem dX12_ray_71 : decode cX12_ray 71 = .ok (.iadd, 1) := by decide +kernel
theorem dX12_ray_72 : decode cX12_ray 72 = .ok (.iconst 0, 1) := by decide +kernel
theorem dX12_ray_73 : decode cX12_ray 73 = .ok (.invokevirtual 529, 3) := by decide +kernel
theorem dX12_ray_76 : decode cX12_ray 76 = .ok (.aload_n 0, 1) := by decide +kernel
theorem dX12_ray_77 : decode cX12_ray 77 = .ok (.getfield 163, 3) := by decide +kernel
theorem dX12_ray_80 : decode cX12_ray 80 = .ok (.bipush 8, 2) := by decide +kernel
theorem dX12_ray_82 : decode cX12_ray 82 = .ok (.aload_n 0, 1) := by decide +kernel
theorem dX12_ray_83 : decode cX12_ray 83 = .ok (.getfield 112, 3) := by decide +kernel
theorem dX12_ray_86 : decode cX12_ray 86 = .ok (.iload_n 1, 1) := by decide +kernel
theorem dX12_ray_87 : decode cX12_ray 87 = .ok (.iaload, 1) := by decide +kernel
theorem dX12_ray_88 : decode cX12_ray 88 = .ok (.imul, 1) := by decide +kernel
theorem dX12_ray_89 : decode cX12_ray 89 = .ok (.invokestatic 233, 3) := by decide +kernel
theorem dX12_ray_92 : decode cX12_ray 92 = .ok (.iinc 1 1, 3) := by decide +kernel
theorem dX12_ray_95 : decode cX12_ray 95 = .ok (.goto (-62), 3) := by decide +kernel
theorem dX12_ray_98 : decode cX12_ray 98 = .ok (.aload_n 0, 1) := by decide +kernel
theorem dX12_ray_99 : decode cX12_ray 99 = .ok (.ldc_w 680, 3) := by decide +kernel
theorem dX12_ray_102 : decode cX12_ray 102 = .ok (.invokevirtual 666, 3) := by decide +kernel
theorem dX12_ray_105 : decode cX12_ray 105 = .ok (.aload_n 0, 1) := by decide +kernel
theorem dX12_ray_106 : decode cX12_ray 106 = .ok (.ldc_w 674, 3) := by decide +kernel
theorem dX12_ray_109 : decode cX12_ray 109 = .ok (.invokevirtual 666, 3) := by decide +kernel
theorem dX12_ray_112 : decode cX12_ray 112 = .ok (.aload_n 0, 1) := by decide +kernel
theorem dX12_ray_113 : decode cX12_ray 113 = .ok (.aload_n 0, 1) := by decide +kernel
theorem dX12_ray_114 : decode cX12_ray 114 = .ok (.getfield 163, 3) := by decide +kernel
theorem dX12_ray_117 : decode cX12_ray 117 = .ok (.iconst 0, 1) := by decide +kernel
theorem dX12_ray_118 : decode cX12_ray 118 = .ok (.aload_n 0, 1) := by decide +kernel
theorem dX12_ray_119 : decode cX12_ray 119 = .ok (.getfield 109, 3) := by decide +kernel
theorem dX12_ray_122 : decode cX12_ray 122 = .ok (.iconst 0, 1) := by decide +kernel
theorem dX12_ray_123 : decode cX12_ray 123 = .ok (.invokevirtual 675, 3) := by decide +kernel
theorem dX12_ray_126 : decode cX12_ray 126 = .ok (.aload_n 0, 1) := by decide +kernel
theorem dX12_ray_127 : decode cX12_ray 127 = .ok (.ldc_w 682, 3) := by decide +kernel
theorem dX12_ray_130 : decode cX12_ray 130 = .ok (.invokevirtual 666, 3) := by decide +kernel
theorem dX12_ray_133 : decode cX12_ray 133 = .ok (.iconst 1, 1) := by decide +kernel
theorem dX12_ray_134 : decode cX12_ray 134 = .ok (.istore_n 1, 1) := by decide +kernel
theorem dX12_ray_135 : decode cX12_ray 135 = .ok (.iload_n 1, 1) := by decide +kernel
theorem dX12_ray_136 : decode cX12_ray 136 = .ok (.aload_n 0, 1) := by decide +kernel
theorem dX12_ray_137 : decode cX12_ray 137 = .ok (.getfield 465, 3) := by decide +kernel
theorem dX12_ray_140 : decode cX12_ray 140 = .ok (.if_icmp .gt 19, 3) := by decide +kernel
theorem dX12_ray_143 : decode cX12_ray 143 = .ok (.aload_n 0, 1) := by decide +kernel
theorem dX12_ray_144 : decode cX12_ray 144 = .ok (.getfield 163, 3) := by decide +kernel
theorem dX12_ray_147 : decode cX12_ray 147 = .ok (.bipush 8, 2) := by decide +kernel
theorem dX12_ray_149 : decode cX12_ray 149 = .ok (.iload_n 1, 1) := by decide +kernel
theorem dX12_ray_150 : decode cX12_ray 150 = .ok (.imul, 1) := by decide +kernel
theorem dX12_ray_151 : decode cX12_ray 151 = .ok (.iconst 0, 1) := by decide +kernel
theorem dX12_ray_152 : decode cX12_ray 152 = .ok (.iastore, 1) := by decide +kernel
theorem dX12_ray_153 : decode cX12_ray 153 = .ok (.iinc 1 1, 3) := by decide +kernel
theorem dX12_ray_156 : decode cX12_ray 156 = .ok (.goto (-21), 3) := by decide +kernel
theorem dX12_ray_159 : decode cX12_ray 159 = .ok (.iconst 1, 1) := by decide +kernel
theorem dX12_ray_160 : decode cX12_ray 160 = .ok (.istore_n 1, 1) := by decide +kernel
theorem dX12_ray_161 : decode cX12_ray 161 = .ok (.iload_n 1, 1) := by decide +kernel
theorem dX12_ray_162 : decode cX12_ray 162 = .ok (.aload_n 0, 1) := by decide +kernel
theorem dX12_ray_163 : decode cX12_ray 163 = .ok (.getfield 483, 3) := by decide +kernel
theorem dX12_ray_166 : decode cX12_ray 166 = .ok (.if_icmp .gt 82, 3) := by decide +kernel
theorem dX12_ray_169 : decode cX12_ray 169 = .ok (.aload_n 0, 1) := by decide +kernel
theorem dX12_ray_170 : decode cX12_ray 170 = .ok (.getfield 112, 3) := by decide +kernel
theorem dX12_ray_173 : decode cX12_ray 173 = .ok (.iload_n 1, 1) := by decide +kernel
theorem dX12_ray_174 : decode cX12_ray 174 = .ok (.iaload, 1) := by decide +kernel
theorem dX12_ray_175 : decode cX12_ray 175 = .ok (.iconst 1, 1) := by decide +kernel
theorem dX12_ray_176 : decode cX12_ray 176 = .ok (.if_icmp .lt 66, 3) := by decide +kernel
theorem dX12_ray_179 : decode cX12_ray 179 = .ok (.aload_n 0, 1) := by decide +kernel
theorem dX12_ray_180 : decode cX12_ray 180 = .ok (.getfield 112, 3) := by decide +kernel
theorem dX12_ray_183 : decode cX12_ray 183 = .ok (.iload_n 1, 1) := by decide +kernel
theorem dX12_ray_184 : decode cX12_ray 184 = .ok (.iaload, 1) := by decide +kernel
theorem dX12_ray_185 : decode cX12_ray 185 = .ok (.aload_n 0, 1) := by decide +kernel
theorem dX12_ray_186 : decode cX12_ray 186 = .ok (.getfield 465, 3) := by decide +kernel
theorem dX12_ray_189 : decode cX12_ray 189 = .ok (.if_icmp .le 6, 3) := by decide +kernel
theorem dX12_ray_192 : decode cX12_ray 192 = .ok (.goto 50, 3) := by decide +kernel
theorem dX12_ray_195 : decode cX12_ray 195 = .ok (.aload_n 0, 1) := by decide +kernel
theorem dX12_ray_196 : decode cX12_ray 196 = .ok (.getfield 103, 3) := by decide +kernel
theorem dX12_ray_199 : decode cX12_ray 199 = .ok (.aload_n 0, 1) := by decide +kernel
theorem dX12_ray_200 : decode cX12_ray 200 = .ok (.iload_n 1, 1) := by decide +kernel
theorem dX12_ray_201 : decode cX12_ray 201 = .ok (.iconst 1, 1) := by decide +kernel
theorem dX12_ray_202 : decode cX12_ray 202 = .ok (.iadd, 1) := by decide +kernel
theorem dX12_ray_203 : decode cX12_ray 203 = .ok (.aload_n 0, 1) := by decide +kernel
theorem dX12_ray_204 : decode cX12_ray 204 = .ok (.getfield 555, 3) := by decide +kernel
theorem dX12_ray_207 : decode cX12_ray 207 = .ok (.invokevirtual 529, 3) := by decide +kernel
theorem dX12_ray_210 : decode cX12_ray 210 = .ok (.aload_n 0, 1) := by decide +kernel
theorem dX12_ray_211 : decode cX12_ray 211 = .ok (.getfield 163, 3) := by decide +kernel
theorem dX12_ray_214 : decode cX12_ray 214 = .ok (.bipush 8, 2) := by decide +kernel
theorem dX12_ray_216 : decode cX12_ray 216 = .ok (.aload_n 0, 1) := by decide +kernel
theorem dX12_ray_217 : decode cX12_ray 217 = .ok (.getfield 112, 3) := by decide +kernel
theorem dX12_ray_220 : decode cX12_ray 220 = .ok (.iload_n 1, 1) := by decide +kernel
theorem dX12_ray_221 : decode cX12_ray 221 = .ok (.iaload, 1) := by decide +kernel
theorem dX12_ray_222 : decode cX12_ray 222 = .ok (.imul, 1) := by decide +kernel
theorem dX12_ray_223 : decode cX12_ray 223 = .ok (.invokestatic 233, 3) := by decide +kernel
theorem dX12_ray_226 : decode cX12_ray 226 = .ok (.aload_n 0, 1) := by decide +kernel
theorem dX12_ray_227 : decode cX12_ray 227 = .ok (.getfield 163, 3) := by decide +kernel
theorem dX12_ray_230 : decode cX12_ray 230 = .ok (.bipush 8, 2) := by decide +kernel
theorem dX12_ray_232 : decode cX12_ray 232 = .ok (.aload_n 0, 1) := by decide +kernel
theorem dX12_ray_233 : decode cX12_ray 233 = .ok (.getfield 112, 3) := by decide +kernel
theorem dX12_ray_236 : decode cX12_ray 236 = .ok (.iload_n 1, 1) := by decide +kernel
theorem dX12_ray_237 : decode cX12_ray 237 = .ok (.iaload, 1) := by decide +kernel
theorem dX12_ray_238 : decode cX12_ray 238 = .ok (.imul, 1) := by decide +kernel
theorem dX12_ray_239 : decode cX12_ray 239 = .ok (.invokestatic 540, 3) := by decide +kernel
theorem dX12_ray_242 : decode cX12_ray 242 = .ok (.iinc 1 1, 3) := by decide +kernel
theorem dX12_ray_245 : decode cX12_ray 245 = .ok (.goto (-84), 3) := by decide +kernel
theorem dX12_ray_248 : decode cX12_ray 248 = .ok (.aload_n 0, 1) := by decide +kernel
theorem dX12_ray_249 : decode cX12_ray 249 = .ok (.getfield 115, 3) := by decide +kernel
theorem dX12_ray_252 : decode cX12_ray 252 = .ok (.aload_n 0, 1) := by decide +kernel
theorem dX12_ray_253 : decode cX12_ray 253 = .ok (.getfield 555, 3) := by decide +kernel
theorem dX12_ray_256 : decode cX12_ray 256 = .ok (.iaload, 1) := by decide +kernel
theorem dX12_ray_257 : decode cX12_ray 257 = .ok (.iconst 1, 1) := by decide +kernel
theorem dX12_ray_258 : decode cX12_ray 258 = .ok (.if_icmp .lt 43, 3) := by decide +kernel
theorem dX12_ray_261 : decode cX12_ray 261 = .ok (.aload_n 0, 1) := by decide +kernel
theorem dX12_ray_262 : decode cX12_ray 262 = .ok (.getfield 115, 3) := by decide +kernel
theorem dX12_ray_265 : decode cX12_ray 265 = .ok (.aload_n 0, 1) := by decide +kernel
theorem dX12_ray_266 : decode cX12_ray 266 = .ok (.getfield 555, 3) := by decide +kernel
theorem dX12_ray_269 : decode cX12_ray 269 = .ok (.iaload, 1) := by decide +kernel
theorem dX12_ray_270 : decode cX12_ray 270 = .ok (.aload_n 0, 1) := by decide +kernel
theorem dX12_ray_271 : decode cX12_ray 271 = .ok (.getfield 465, 3) := by decide +kernel
theorem dX12_ray_274 : decode cX12_ray 274 = .ok (.if_icmp .gt 27, 3) := by decide +kernel
theorem dX12_ray_277 : decode cX12_ray 277 = .ok (.aload_n 0, 1) := by decide +kernel
theorem dX12_ray_278 : decode cX12_ray 278 = .ok (.getfield 109, 3) := by decide +kernel
theorem dX12_ray_281 : decode cX12_ray 281 = .ok (.iconst 0, 1) := by decide +kernel
theorem dX12_ray_282 : decode cX12_ray 282 = .ok (.aload_n 0, 1) := by decide +kernel
theorem dX12_ray_283 : decode cX12_ray 283 = .ok (.getfield 163, 3) := by decide +kernel
theorem dX12_ray_286 : decode cX12_ray 286 = .ok (.bipush 8, 2) := by decide +kernel
theorem dX12_ray_288 : decode cX12_ray 288 = .ok (.aload_n 0, 1) := by decide +kernel
theorem dX12_ray_289 : decode cX12_ray 289 = .ok (.getfield 115, 3) := by decide +kernel
theorem dX12_ray_292 : decode cX12_ray 292 = .ok (.aload_n 0, 1) := by decide +kernel
theorem dX12_ray_293 : decode cX12_ray 293 = .ok (.getfield 555, 3) := by decide +kernel
theorem dX12_ray_296 : decode cX12_ray 296 = .ok (.iaload, 1) := by decide +kernel
theorem dX12_ray_297 : decode cX12_ray 297 = .ok (.imul, 1) := by decide +kernel
theorem dX12_ray_298 : decode cX12_ray 298 = .ok (.invokestatic 233, 3) := by decide +kernel
theorem dX12_ray_301 : decode cX12_ray 301 = .ok (.iconst 1, 1) := by decide +kernel
theorem dX12_ray_302 : decode cX12_ray 302 = .ok (.istore_n 1, 1) := by decide +kernel
theorem dX12_ray_303 : decode cX12_ray 303 = .ok (.iload_n 1, 1) := by decide +kernel
theorem dX12_ray_304 : decode cX12_ray 304 = .ok (.aload_n 0, 1) := by decide +kernel
theorem dX12_ray_305 : decode cX12_ray 305 = .ok (.getfield 465, 3) := by decide +kernel
theorem dX12_ray_308 : decode cX12_ray 308 = .ok (.if_icmp .gt 30, 3) := by decide +kernel
theorem dX12_ray_311 : decode cX12_ray 311 = .ok (.aload_n 0, 1) := by decide +kernel
theorem dX12_ray_312 : decode cX12_ray 312 = .ok (.iconst 0, 1) := by decide +kernel
theorem dX12_ray_313 : decode cX12_ray 313 = .ok (.putfield 259, 3) := by decide +kernel
theorem dX12_ray_316 : decode cX12_ray 316 = .ok (.aload_n 0, 1) := by decide +kernel
theorem dX12_ray_317 : decode cX12_ray 317 = .ok (.aload_n 0, 1) := by decide +kernel
theorem dX12_ray_318 : decode cX12_ray 318 = .ok (.getfield 163, 3) := by decide +kernel
theorem dX12_ray_321 : decode cX12_ray 321 = .ok (.bipush 8, 2) := by decide +kernel
theorem dX12_ray_323 : decode cX12_ray 323 = .ok (.iload_n 1, 1) := by decide +kernel
theorem dX12_ray_324 : decode cX12_ray 324 = .ok (.imul, 1) := by decide +kernel
theorem dX12_ray_325 : decode cX12_ray 325 = .ok (.invokevirtual 594, 3) := by decide +kernel
theorem dX12_ray_328 : decode cX12_ray 328 = .ok (.aload_n 0, 1) := by decide +kernel
theorem dX12_ray_329 : decode cX12_ray 329 = .ok (.invokevirtual 661, 3) := by decide +kernel
theorem dX12_ray_332 : decode cX12_ray 332 = .ok (.iinc 1 1, 3) := by decide +kernel
theorem dX12_ray_335 : decode cX12_ray 335 = .ok (.goto (-32), 3) := by decide +kernel
theorem dX12_ray_338 : decode cX12_ray 338 = .ok (.aload_n 0, 1) := by decide +kernel
theorem dX12_ray_339 : decode cX12_ray 339 = .ok (.ldc_w 664, 3) := by decide +kernel
theorem dX12_ray_342 : decode cX12_ray 342 = .ok (.invokevirtual 666, 3) := by decide +kernel
theorem dX12_ray_345 : decode cX12_ray 345 = .ok (.aload_n 0, 1) := by decide +kernel
theorem dX12_ray_346 : decode cX12_ray 346 = .ok (.ldc_w 684, 3) := by decide +kernel
theorem dX12_ray_349 : decode cX12_ray 349 = .ok (.invokevirtual 666, 3) := by decide +kernel
theorem dX12_ray_352 : decode cX12_ray 352 = .ok (.aload_n 0, 1) := by decide +kernel
theorem dX12_ray_353 : decode cX12_ray 353 = .ok (.iconst 4, 1) := by decide +kernel
theorem dX12_ray_354 : decode cX12_ray 354 = .ok (.putfield 477, 3) := by decide +kernel
theorem dX12_ray_357 : decode cX12_ray 357 = .ok (.return_, 1) := by decide +kernel
theorem dX12_sayPoint_0 : decode cX12_sayPoint 0 = .ok (.aload_n 3, 1) := by decide +kernel
theorem dX12_sayPoint_1 : decode cX12_sayPoint 1 = .ok (.iload 4, 2) := by decide +kernel
theorem dX12_sayPoint_3 : decode cX12_sayPoint 3 = .ok (.aload_n 0, 1) := by decide +kernel
theorem dX12_sayPoint_4 : decode cX12_sayPoint 4 = .ok (.getfield 160, 3) := by decide +kernel
theorem dX12_sayPoint_7 : decode cX12_sayPoint 7 = .ok (.iconst 0, 1) := by decide +kernel
theorem dX12_sayPoint_8 : decode cX12_sayPoint 8 = .ok (.invokestatic 233, 3) := by decide +kernel
theorem dX12_sayPoint_11 : decode cX12_sayPoint 11 = .ok (.iconst 1, 1) := by decide +kernel
theorem dX12_sayPoint_12 : decode cX12_sayPoint 12 = .ok (.istore 5, 2) := by decide +kernel
theorem dX12_sayPoint_14 : decode cX12_sayPoint 14 = .ok (.iload 5, 2) := by decide +kernel
theorem dX12_sayPoint_16 : decode cX12_sayPoint 16 = .ok (.aload_n 0, 1) := by decide +kernel
theorem dX12_sayPoint_17 : decode cX12_sayPoint 17 = .ok (.getfield 465, 3) := by decide +kernel
theorem dX12_sayPoint_20 : decode cX12_sayPoint 20 = .ok (.if_icmp .gt 39, 3) := by decide +kernel
theorem dX12_sayPoint_23 : decode cX12_sayPoint 23 = .ok (.aload_n 0, 1) := by decide +kernel
theorem dX12_sayPoint_24 : decode cX12_sayPoint 24 = .ok (.aload_n 0, 1) := by decide +kernel
theorem dX12_sayPoint_25 : decode cX12_sayPoint 25 = .ok (.getfield 160, 3) := by decide +kernel
theorem dX12_sayPoint_28 : decode cX12_sayPoint 28 = .ok (.iconst 0, 1) := by decide +kernel
theorem dX12_sayPoint_29 : decode cX12_sayPoint 29 = .ok (.aload_n 1, 1) := by decide +kernel
theorem dX12_sayPoint_30 : decode cX12_sayPoint 30 = .ok (.iload_n 2, 1) := by decide +kernel
theorem dX12_sayPoint_31 : decode cX12_sayPoint 31 = .ok (.bipush 8, 2) := by decide +kernel
theorem dX12_sayPoint_33 : decode cX12_sayPoint 33 = .ok (.iload 5, 2) := by decide +kernel
theorem dX12_sayPoint_35 : decode cX12_sayPoint 35 = .ok (.imul, 1) := by decide +kernel
theorem dX12_sayPoint_36 : decode cX12_sayPoint 36 = .ok (.iadd, 1) := by decide +kernel
theorem dX12_sayPoint_37 : decode cX12_sayPoint 37 = .ok (.invokevirtual 658, 3) := by decide +kernel
theorem dX12_sayPoint_40 : decode cX12_sayPoint 40 = .ok (.aload_n 0, 1) := by decide +kernel
theorem dX12_sayPoint_41 : decode cX12_sayPoint 41 = .ok (.getfield 38, 3) := by decide +kernel
theorem dX12_sayPoint_44 : decode cX12_sayPoint 44 = .ok (.iconst 0, 1) := by decide +kernel
theorem dX12_sayPoint_45 : decode cX12_sayPoint 45 = .ok (.aload_n 0, 1) := by decide +kernel
theorem dX12_sayPoint_46 : decode cX12_sayPoint 46 = .ok (.getfield 160, 3) := by decide +kernel
theorem dX12_sayPoint_49 : decode cX12_sayPoint 49 = .ok (.iconst 0, 1) := by decide +kernel
theorem dX12_sayPoint_50 : decode cX12_sayPoint 50 = .ok (.invokestatic 233, 3) := by decide +kernel
theorem dX12_sayPoint_53 : decode cX12_sayPoint 53 = .ok (.iinc 5 1, 3) := by decide +kernel
theorem dX12_sayPoint_56 : decode cX12_sayPoint 56 = .ok (.goto (-42), 3) := by decide +kernel
theorem dX12_sayPoint_59 : decode cX12_sayPoint 59 = .ok (.iconst 1, 1) := by decide +kernel
theorem dX12_sayPoint_60 : decode cX12_sayPoint 60 = .ok (.istore 5, 2) := by decide +kernel
theorem dX12_sayPoint_62 : decode cX12_sayPoint 62 = .ok (.iload 5, 2) := by decide +kernel
theorem dX12_sayPoint_64 : decode cX12_sayPoint 64 = .ok (.aload_n 0, 1) := by decide +kernel
theorem dX12_sayPoint_65 : decode cX12_sayPoint 65 = .ok (.getfield 465, 3) := by decide +kernel
theorem dX12_sayPoint_68 : decode cX12_sayPoint 68 = .ok (.if_icmp .gt 54, 3) := by decide +kernel
theorem dX12_sayPoint_71 : decode cX12_sayPoint 71 = .ok (.aload_n 0, 1) := by decide +kernel
theorem dX12_sayPoint_72 : decode cX12_sayPoint 72 = .ok (.aload_n 1, 1) := by decide +kernel
theorem dX12_sayPoint_73 : decode cX12_sayPoint 73 = .ok (.iload_n 2, 1) := by decide +kernel
theorem dX12_sayPoint_74 : decode cX12_sayPoint 74 = .ok (.bipush 8, 2) := by decide +kernel
theorem dX12_sayPoint_76 : decode cX12_sayPoint 76 = .ok (.iload 5, 2) := by decide +kernel
theorem dX12_sayPoint_78 : decode cX12_sayPoint 78 = .ok (.imul, 1) := by decide +kernel
theorem dX12_sayPoint_79 : decode cX12_sayPoint 79 = .ok (.iadd, 1) := by decide +kernel
theorem dX12_sayPoint_80 : decode cX12_sayPoint 80 = .ok (.aload_n 0, 1) := by decide +kernel
theorem dX12_sayPoint_81 : decode cX12_sayPoint 81 = .ok (.getfield 160, 3) := by decide +kernel
theorem dX12_sayPoint_84 : decode cX12_sayPoint 84 = .ok (.iconst 0, 1) := by decide +kernel
theorem dX12_sayPoint_85 : decode cX12_sayPoint 85 = .ok (.aload_n 0, 1) := by decide +kernel
theorem dX12_sayPoint_86 : decode cX12_sayPoint 86 = .ok (.getfield 26, 3) := by decide +kernel
theorem dX12_sayPoint_89 : decode cX12_sayPoint 89 = .ok (.iconst 0, 1) := by decide +kernel
theorem dX12_sayPoint_90 : decode cX12_sayPoint 90 = .ok (.aload_n 0, 1) := by decide +kernel
theorem dX12_sayPoint_91 : decode cX12_sayPoint 91 = .ok (.getfield 35, 3) := by decide +kernel
theorem dX12_sayPoint_94 : decode cX12_sayPoint 94 = .ok (.iconst 0, 1) := by decide +kernel
theorem dX12_sayPoint_95 : decode cX12_sayPoint 95 = .ok (.invokevirtual 266, 3) := by decide +kernel
theorem dX12_sayPoint_98 : decode cX12_sayPoint 98 = .ok (.aload_n 0, 1) := by decide +kernel
theorem dX12_sayPoint_99 : decode cX12_sayPoint 99 = .ok (.iconst 0, 1) := by decide +kernel
theorem dX12_sayPoint_100 : decode cX12_sayPoint 100 = .ok (.putfield 259, 3) := by decide +kernel
theorem dX12_sayPoint_103 : decode cX12_sayPoint 103 = .ok (.aload_n 0, 1) := by decide +kernel
theorem dX12_sayPoint_104 : decode cX12_sayPoint 104 = .ok (.aload_n 0, 1) := by decide +kernel
theorem dX12_sayPoint_105 : decode cX12_sayPoint 105 = .ok (.getfield 26, 3) := by decide +kernel
theorem dX12_sayPoint_108 : decode cX12_sayPoint 108 = .ok (.iconst 0, 1) := by decide +kernel
theorem dX12_sayPoint_109 : decode cX12_sayPoint 109 = .ok (.invokevirtual 594, 3) := by decide +kernel
theorem dX12_sayPoint_112 : decode cX12_sayPoint 112 = .ok (.aload_n 0, 1) := by decide +kernel
theorem dX12_sayPoint_113 : decode cX12_sayPoint 113 = .ok (.invokevirtual 661, 3) := by decide +kernel
theorem dX12_sayPoint_116 : decode cX12_sayPoint 116 = .ok (.iinc 5 1, 3) := by decide +kernel
theorem dX12_sayPoint_119 : decode cX12_sayPoint 119 = .ok (.goto (-57), 3) := by decide +kernel
theorem dX12_sayPoint_122 : decode cX12_sayPoint 122 = .ok (.aload_n 0, 1) := by decide +kernel
theorem dX12_sayPoint_123 : decode cX12_sayPoint 123 = .ok (.ldc_w 664, 3) := by decide +kernel
theorem dX12_sayPoint_126 : decode cX12_sayPoint 126 = .ok (.invokevirtual 666, 3) := by decide +kernel
theorem dX12_sayPoint_129 : decode cX12_sayPoint 129 = .ok (.aload_n 0, 1) := by decide +kernel
theorem dX12_sayPoint_130 : decode cX12_sayPoint 130 = .ok (.aload_n 3, 1) := by decide +kernel
theorem dX12_sayPoint_131 : decode cX12_sayPoint 131 = .ok (.iload 4, 2) := by decide +kernel
theorem dX12_sayPoint_133 : decode cX12_sayPoint 133 = .ok (.aload_n 0, 1) := by decide +kernel
theorem dX12_sayPoint_134 : decode cX12_sayPoint 134 = .ok (.getfield 160, 3) := by decide +kernel
theorem dX12_sayPoint_137 : decode cX12_sayPoint 137 = .ok (.iconst 0, 1) := by decide +kernel
theorem dX12_sayPoint_138 : decode cX12_sayPoint 138 = .ok (.aload_n 0, 1) := by decide +kernel
theorem dX12_sayPoint_139 : decode cX12_sayPoint 139 = .ok (.getfield 26, 3) := by decide +kernel
theorem dX12_sayPoint_142 : decode cX12_sayPoint 142 = .ok (.iconst 0, 1) := by decide +kernel
theorem dX12_sayPoint_143 : decode cX12_sayPoint 143 = .ok (.aload_n 0, 1) := by decide +kernel
theorem dX12_sayPoint_144 : decode cX12_sayPoint 144 = .ok (.getfield 35, 3) := by decide +kernel
theorem dX12_sayPoint_147 : decode cX12_sayPoint 147 = .ok (.iconst 0, 1) := by decide +kernel
theorem dX12_sayPoint_148 : decode cX12_sayPoint 148 = .ok (.invokevirtual 266, 3) := by decide +kernel
theorem dX12_sayPoint_151 : decode cX12_sayPoint 151 = .ok (.aload_n 0, 1) := by decide +kernel
theorem dX12_sayPoint_152 : decode cX12_sayPoint 152 = .ok (.iconst 0, 1) := by decide +kernel
theorem dX12_sayPoint_153 : decode cX12_sayPoint 153 = .ok (.putfield 259, 3) := by decide +kernel
theorem dX12_sayPoint_156 : decode cX12_sayPoint 156 = .ok (.aload_n 0, 1) := by decide +kernel
theorem dX12_sayPoint_157 : decode cX12_sayPoint 157 = .ok (.aload_n 0, 1) := by decide +kernel
theorem dX12_sayPoint_158 : decode cX12_sayPoint 158 = .ok (.getfield 26, 3) := by decide +kernel
theorem dX12_sayPoint_161 : decode cX12_sayPoint 161 = .ok (.iconst 0, 1) := by decide +kernel
theorem dX12_sayPoint_162 : decode cX12_sayPoint 162 = .ok (.invokevirtual 594, 3) := by decide +kernel
theorem dX12_sayPoint_165 : decode cX12_sayPoint 165 = .ok (.aload_n 0, 1) := by decide +kernel
theorem dX12_sayPoint_166 : decode cX12_sayPoint 166 = .ok (.invokevirtual 661, 3) := by decide +kernel
theorem dX12_sayPoint_169 : decode cX12_sayPoint 169 = .ok (.return_, 1) := by decide +kernel
theorem w_159 : Cond.selects RX12 yX12_say yX12_say ∈ tb := sel_10 (q := (yX12_say, 105)) 15 (by decide +kernel)
theorem w_160 : Cond.selects RX12 yX12_lower yX12_lower ∈ tb := sel_11 (q := (yX12_lower, 105)) 0 (by decide +kernel)
theorem w_161 : Cond.selects RX12 yX12_common yX12_common ∈ tb := sel_11 (q := (yX12_common, 105)) 1 (by decide +kernel)
theorem w_164 : Cond.selects RX12 yX12_sayLetters yX12_sayLetters ∈ tb := sel_11 (q := (yX12_sayLetters, 105)) 4 (by decide +kernel)
theorem w_165 : Cond.selects RX12 yX12_sayPoint yX12_sayPoint ∈ tb := sel_11 (q := (yX12_sayPoint, 105)) 5 (by decide +kernel)
theorem w_2010 : Cond.fieldLink RX12 474 (TX12 49).1 (TX12 49).2.1 (TX12 49).2.2.1 ∈ tb := tbc_8 127 (by decide +kernel) rfl
theorem w_2051 : Cond.fieldLink RX12 160 (TX12 90).1 (TX12 90).2.1 (TX12 90).2.2.1 ∈ tb := tbc_8 168 (by decide +kernel) rfl
theorem w_2052 : Cond.fieldLink RX12 163 (TX12 91).1 (TX12 91).2.1 (TX12 91).2.2.1 ∈ tb := tbc_8 169 (by decide +kernel) rfl
theorem w_2577 : Cond.methodLink RX12 666 yX12_say ∈ tb := tbc_10 214 (by decide +kernel) rfl
theorem w_2579 : Cond.instanceMethod yX12_say ∈ tb := tbc_10 216 (by decide +kernel) rfl
theorem w_2580 : Cond.code yX12_say cX12_say 3 none ∈ tb := tbc_10 217 (by decide +kernel) rfl
theorem w_2581 : Cond.methodLink RX12 671 yX12_lower ∈ tb := tbc_10 218 (by decide +kernel) rfl
theorem w_2583 : Cond.instanceMethod yX12_lower ∈ tb := tbc_10 220 (by decide +kernel) rfl
theorem w_2584 : Cond.code yX12_lower cX12_lower 5 none ∈ tb := tbc_10 221 (by decide +kernel) rfl
theorem w_2585 : Cond.methodLink RX12 658 yX12_common ∈ tb := tbc_10 222 (by decide +kernel) rfl
theorem w_2587 : Cond.instanceMethod yX12_common ∈ tb := tbc_10 224 (by decide +kernel) rfl
theorem w_2588 : Cond.code yX12_common cX12_common 5 none ∈ tb := tbc_10 225 (by decide +kernel) rfl
theorem w_2611 : Cond.methodLink RX12 661 yX12_sayLetters ∈ tb := tbc_11 8 (by decide +kernel) rfl
theorem w_2613 : Cond.instanceMethod yX12_sayLetters ∈ tb := tbc_11 10 (by decide +kernel) rfl
theorem w_2614 : Cond.code yX12_sayLetters cX12_sayLetters 2 none ∈ tb := tbc_11 11 (by decide +kernel) rfl
theorem w_2617 : Cond.methodLink RX12 675 yX12_sayPoint ∈ tb := tbc_11 14 (by decide +kernel) rfl
theorem w_2619 : Cond.instanceMethod yX12_sayPoint ∈ tb := tbc_11 16 (by decide +kernel) rfl
theorem w_2620 : Cond.code yX12_sayPoint cX12_sayPoint 6 none ∈ tb := tbc_11 17 (by decide +kernel) rfl
section RW63
variable {p : Program} {l : Launch} {e : Env} {R : Room} {s : State} {m : MethodId} {args : Array Value} {below : List Frame} {meth : Method} {c : Code} {H : Heap} {locs : List Loc} {cells slots : Nat} {Q : State → Prop}
variable {cc : ByteArray} {pc nL : Nat} {ls : Array Slot} {rest st0 : List Value} {G : sG} {n : Nat} {S : sS}
theorem c_X12_658 (Cx : sC G p m c cc nL s args RX12) {rm : Room} {mc ms : Nat} (h1 : rm.cells = mc) (h2 : rm.slots = ms) (h3 : rm.frames + 1 ≤ R.frames ∧ 8 + (5 + 11) + rm.locals ≤ R.locals) : CallW R s args RX12 RX12 658 yX12_common cX12_common 5 none (.code yX12_common cX12_common 5 none :: tb) rm mc ms 4 :=
  sCw Cx 4 w_2585 w_2587 w_161 w_217 w_2588 (by decide +kernel) h1 h2 h3
theorem g_X12_160 (Cx : sC G p m c cc nL s args RX12) (hW : sW G n S H) {k : Nat} (hk : k < n) (ht : tau k = .inl 12) {v : Value} (hv : S.2.2.2 k 90 = v) (hdg : decode cc pc = .ok (.getfield 160, 3)) (kk : W p l e R s m args below meth c H locs cells slots Q (F0 m (pc + 3) ls (v :: rest))) : W p l e R s m args below meth c H locs cells slots Q (F0 m pc ls (.ref (G.2.2.1 + k) :: rest)) :=
  sGet Cx inX12 rfl 90 (by decide) w_2051 hW hk ht hv hdg kk
theorem c_X12_666 (Cx : sC G p m c cc nL s args RX12) {rm : Room} {mc ms : Nat} (h1 : rm.cells = mc) (h2 : rm.slots = ms) (h3 : rm.frames + 1 ≤ R.frames ∧ 8 + (3 + 11) + rm.locals ≤ R.locals) : CallW R s args RX12 RX12 666 yX12_say cX12_say 3 none (.code yX12_say cX12_say 3 none :: tb) rm mc ms 1 :=
  sCw Cx 1 w_2577 w_2579 w_159 w_217 w_2580 (by decide +kernel) h1 h2 h3
theorem c_X12_661 (Cx : sC G p m c cc nL s args RX12) {rm : Room} {mc ms : Nat} (h1 : rm.cells = mc) (h2 : rm.slots = ms) (h3 : rm.frames + 1 ≤ R.frames ∧ 8 + (2 + 11) + rm.locals ≤ R.locals) : CallW R s args RX12 RX12 661 yX12_sayLetters cX12_sayLetters 2 none (.code yX12_sayLetters cX12_sayLetters 2 none :: tb) rm mc ms 0 :=
  sCw Cx 0 w_2611 w_2613 w_164 w_217 w_2614 (by decide +kernel) h1 h2 h3
theorem g_X12_514 (Cx : sC G p m c cc nL s args RX12) (hW : sW G n S H) {k : Nat} (hk : k < n) (ht : tau k = .inl 12) {v : Int} (hv : S.1 k 79 = v) (hdg : decode cc pc = .ok (.getfield 514, 3)) (kk : W p l e R s m args below meth c H locs cells slots Q (F0 m (pc + 3) ls (.int (iv v) :: rest))) : W p l e R s m args below meth c H locs cells slots Q (F0 m pc ls (.ref (G.2.2.1 + k) :: rest)) :=
  sGet Cx inX12 rfl 79 (by decide) w_2040 hW hk ht (congrArg (fun z => Value.int (iv z)) hv) hdg kk
theorem c_X12_671 (Cx : sC G p m c cc nL s args RX12) {rm : Room} {mc ms : Nat} (h1 : rm.cells = mc) (h2 : rm.slots = ms) (h3 : rm.frames + 1 ≤ R.frames ∧ 8 + (5 + 11) + rm.locals ≤ R.locals) : CallW R s args RX12 RX12 671 yX12_lower cX12_lower 5 none (.code yX12_lower cX12_lower 5 none :: tb) rm mc ms 4 :=
  sCw Cx 4 w_2581 w_2583 w_160 w_217 w_2584 (by decide +kernel) h1 h2 h3
theorem c_X12_675 (Cx : sC G p m c cc nL s args RX12) {rm : Room} {mc ms : Nat} (h1 : rm.cells = mc) (h2 : rm.slots = ms) (h3 : rm.frames + 1 ≤ R.frames ∧ 8 + (6 + 11) + rm.locals ≤ R.locals) : CallW R s args RX12 RX12 675 yX12_sayPoint cX12_sayPoint 6 none (.code yX12_sayPoint cX12_sayPoint 6 none :: tb) rm mc ms 4 :=
  sCw Cx 4 w_2617 w_2619 w_165 w_217 w_2620 (by decide +kernel) h1 h2 h3
theorem g_X12_474 (Cx : sC G p m c cc nL s args RX12) (hW : sW G n S H) {k : Nat} (hk : k < n) (ht : tau k = .inl 12) {v : Int} (hv : S.1 k 49 = v) (hdg : decode cc pc = .ok (.getfield 474, 3)) (kk : W p l e R s m args below meth c H locs cells slots Q (F0 m (pc + 3) ls (.int (iv v) :: rest))) : W p l e R s m args below meth c H locs cells slots Q (F0 m pc ls (.ref (G.2.2.1 + k) :: rest)) :=
  sGet Cx inX12 rfl 49 (by decide) w_2010 hW hk ht (congrArg (fun z => Value.int (iv z)) hv) hdg kk
theorem g_X12_163 (Cx : sC G p m c cc nL s args RX12) (hW : sW G n S H) {k : Nat} (hk : k < n) (ht : tau k = .inl 12) {v : Value} (hv : S.2.2.2 k 91 = v) (hdg : decode cc pc = .ok (.getfield 163, 3)) (kk : W p l e R s m args below meth c H locs cells slots Q (F0 m (pc + 3) ls (v :: rest))) : W p l e R s m args below meth c H locs cells slots Q (F0 m pc ls (.ref (G.2.2.1 + k) :: rest)) :=
  sGet Cx inX12 rfl 91 (by decide) w_2052 hW hk ht hv hdg kk
theorem g_X12_555 (Cx : sC G p m c cc nL s args RX12) (hW : sW G n S H) {k : Nat} (hk : k < n) (ht : tau k = .inl 12) {v : Int} (hv : S.1 k 72 = v) (hdg : decode cc pc = .ok (.getfield 555, 3)) (kk : W p l e R s m args below meth c H locs cells slots Q (F0 m (pc + 3) ls (.int (iv v) :: rest))) : W p l e R s m args below meth c H locs cells slots Q (F0 m pc ls (.ref (G.2.2.1 + k) :: rest)) :=
  sGet Cx inX12 rfl 72 (by decide) w_2033 hW hk ht (congrArg (fun z => Value.int (iv z)) hv) hdg kk
end RW63
