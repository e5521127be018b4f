theorem dX12_evaluate_0 : decode cX12_evaluate 0 = .ok (.aload_n 0, 1) := by decide +kernel
theorem dX12_evaluate_1 : decode cX12_evaluate 1 = .ok (.getfield 514, 3) := by decide +kernel
theorem dX12_evaluate_4 : decode cX12_evaluate 4 = .ok (.ifCond .eq 15, 3) := by decide +kernel
theorem dX12_evaluate_7 : decode cX12_evaluate 7 = .ok (.aload_n 0, 1) := by decide +kernel
theorem dX12_evaluate_8 : decode cX12_evaluate 8 = .ok (.invokevirtual 631, 3) := by decide +kernel
theorem dX12_evaluate_11 : decode cX12_evaluate 11 = .ok (.ifCond .eq 8, 3) := by decide +kernel
theorem dX12_evaluate_14 : decode cX12_evaluate 14 = .ok (.aload_n 0, 1) := by decide +kernel
theorem dX12_evaluate_15 : decode cX12_evaluate 15 = .ok (.invokevirtual 634, 3) := by decide +kernel
theorem dX12_evaluate_18 : decode cX12_evaluate 18 = .ok (.return_, 1) := by decide +kernel
theorem dX12_evaluate_19 : decode cX12_evaluate 19 = .ok (.iconst 0, 1) := by decide +kernel
theorem dX12_evaluate_20 : decode cX12_evaluate 20 = .ok (.istore_n 1, 1) := by decide +kernel
theorem dX12_evaluate_21 : decode cX12_evaluate 21 = .ok (.iconst 1, 1) := by decide +kernel
theorem dX12_evaluate_22 : decode cX12_evaluate 22 = .ok (.istore_n 2, 1) := by decide +kernel
theorem dX12_evaluate_23 : decode cX12_evaluate 23 = .ok (.iload_n 2, 1) := by decide +kernel
theorem dX12_evaluate_24 : decode cX12_evaluate 24 = .ok (.aload_n 0, 1) := by decide +kernel
theorem dX12_evaluate_25 : decode cX12_evaluate 25 = .ok (.getfield 483, 3) := by decide +kernel
theorem dX12_evaluate_28 : decode cX12_evaluate 28 = .ok (.if_icmp .gt 97, 3) := by decide +kernel
theorem dX12_evaluate_31 : decode cX12_evaluate 31 = .ok (.aload_n 0, 1) := by decide +kernel
theorem dX12_evaluate_32 : decode cX12_evaluate 32 = .ok (.getfield 112, 3) := by decide +kernel
theorem dX12_evaluate_35 : decode cX12_evaluate 35 = .ok (.iload_n 2, 1) := by decide +kernel
theorem dX12_evaluate_36 : decode cX12_evaluate 36 = .ok (.iaload, 1) := by decide +kernel
theorem dX12_evaluate_37 : decode cX12_evaluate 37 = .ok (.istore_n 3, 1) := by decide +kernel
theorem dX12_evaluate_38 : decode cX12_evaluate 38 = .ok (.iload_n 3, 1) := by decide +kernel
theorem dX12_evaluate_39 : decode cX12_evaluate 39 = .ok (.iconst 1, 1) := by decide +kernel
theorem dX12_evaluate_40 : decode cX12_evaluate 40 = .ok (.if_icmp .lt 79, 3) := by decide +kernel
theorem dX12_evaluate_43 : decode cX12_evaluate 43 = .ok (.iload_n 3, 1) := by decide +kernel
theorem dX12_evaluate_44 : decode cX12_evaluate 44 = .ok (.aload_n 0, 1) := by decide +kernel
theorem dX12_evaluate_45 : decode cX12_evaluate 45 = .ok (.getfield 465, 3) := by decide +kernel
theorem dX12_evaluate_48 : decode cX12_evaluate 48 = .ok (.if_icmp .gt 71, 3) := by decide +kernel
theorem dX12_evaluate_51 : decode cX12_evaluate 51 = .ok (.aload_n 0, 1) := by decide +kernel
theorem dX12_evaluate_52 : decode cX12_evaluate 52 = .ok (.getfield 94, 3) := by decide +kernel
theorem dX12_evaluate_55 : decode cX12_evaluate 55 = .ok (.iload_n 3, 1) := by decide +kernel
theorem dX12_evaluate_56 : decode cX12_evaluate 56 = .ok (.baload, 1) := by decide +kernel
theorem dX12_evaluate_57 : decode cX12_evaluate 57 = .ok (.ifCond .eq 62, 3) := by decide +kernel
theorem dX12_evaluate_60 : decode cX12_evaluate 60 = .ok (.iload_n 1, 1) := by decide +kernel
theorem dX12_evaluate_61 : decode cX12_evaluate 61 = .ok (.ifCond .le 16, 3) := by decide +kernel
theorem dX12_evaluate_64 : decode cX12_evaluate 64 = .ok (.aload_n 0, 1) := by decide +kernel
theorem dX12_evaluate_65 : decode cX12_evaluate 65 = .ok (.getfield 112, 3) := by decide +kernel
theorem dX12_evaluate_68 : decode cX12_evaluate 68 = .ok (.iload_n 1, 1) := by decide +kernel
theorem dX12_evaluate_69 : decode cX12_evaluate 69 = .ok (.iaload, 1) := by decide +kernel
theorem dX12_evaluate_70 : decode cX12_evaluate 70 = .ok (.iload_n 3, 1) := by decide +kernel
theorem dX12_evaluate_71 : decode cX12_evaluate 71 = .ok (.if_icmp .ge 6, 3) := by decide +kernel
theorem dX12_evaluate_74 : decode cX12_evaluate 74 = .ok (.goto 45, 3) := by decide +kernel
theorem dX12_evaluate_77 : decode cX12_evaluate 77 = .ok (.aload_n 0, 1) := by decide +kernel
theorem dX12_evaluate_78 : decode cX12_evaluate 78 = .ok (.aload_n 0, 1) := by decide +kernel
theorem dX12_evaluate_79 : decode cX12_evaluate 79 = .ok (.getfield 103, 3) := by decide +kernel
theorem dX12_evaluate_82 : decode cX12_evaluate 82 = .ok (.aload_n 0, 1) := by decide +kernel
theorem dX12_evaluate_83 : decode cX12_evaluate 83 = .ok (.iload_n 2, 1) := by decide +kernel
theorem dX12_evaluate_84 : decode cX12_evaluate 84 = .ok (.iconst 1, 1) := by decide +kernel
theorem dX12_evaluate_85 : decode cX12_evaluate 85 = .ok (.iadd, 1) := by decide +kernel
theorem dX12_evaluate_86 : decode cX12_evaluate 86 = .ok (.iconst 0, 1) := by decide +kernel
theorem dX12_evaluate_87 : decode cX12_evaluate 87 = .ok (.invokevirtual 529, 3) := by decide +kernel
theorem dX12_evaluate_90 : decode cX12_evaluate 90 = .ok (.aload_n 0, 1) := by decide +kernel
theorem dX12_evaluate_91 : decode cX12_evaluate 91 = .ok (.getfield 109, 3) := by decide +kernel
theorem dX12_evaluate_94 : decode cX12_evaluate 94 = .ok (.iconst 0, 1) := by decide +kernel
theorem dX12_evaluate_95 : decode cX12_evaluate 95 = .ok (.aload_n 0, 1) := by decide +kernel
theorem dX12_evaluate_96 : decode cX12_evaluate 96 = .ok (.getfield 26, 3) := by decide +kernel
theorem dX12_evaluate_99 : decode cX12_evaluate 99 = .ok (.iconst 0, 1) := by decide +kernel
theorem dX12_evaluate_100 : decode cX12_evaluate 100 = .ok (.aload_n 0, 1) := by decide +kernel
theorem dX12_evaluate_101 : decode cX12_evaluate 101 = .ok (.getfield 35, 3) := by decide +kernel
theorem dX12_evaluate_104 : decode cX12_evaluate 104 = .ok (.iconst 0, 1) := by decide +kernel
theorem dX12_evaluate_105 : decode cX12_evaluate 105 = .ok (.invokevirtual 266, 3) := by decide +kernel
theorem dX12_evaluate_108 : decode cX12_evaluate 108 = .ok (.aload_n 0, 1) := by decide +kernel
theorem dX12_evaluate_109 : decode cX12_evaluate 109 = .ok (.getfield 35, 3) := by decide +kernel
theorem dX12_evaluate_112 : decode cX12_evaluate 112 = .ok (.iconst 0, 1) := by decide +kernel
theorem dX12_evaluate_113 : decode cX12_evaluate 113 = .ok (.iaload, 1) := by decide +kernel
theorem dX12_evaluate_114 : decode cX12_evaluate 114 = .ok (.ifCond .eq 5, 3) := by decide +kernel
theorem dX12_evaluate_117 : decode cX12_evaluate 117 = .ok (.iload_n 2, 1) := by decide +kernel
theorem dX12_evaluate_118 : decode cX12_evaluate 118 = .ok (.istore_n 1, 1) := by decide +kernel
theorem dX12_evaluate_119 : decode cX12_evaluate 119 = .ok (.iinc 2 1, 3) := by decide +kernel
theorem dX12_evaluate_122 : decode cX12_evaluate 122 = .ok (.goto (-99), 3) := by decide +kernel
theorem dX12_evaluate_125 : decode cX12_evaluate 125 = .ok (.iload_n 1, 1) := by decide +kernel
theorem dX12_evaluate_126 : decode cX12_evaluate 126 = .ok (.ifCond .ne 14, 3) := by decide +kernel
theorem dX12_evaluate_129 : decode cX12_evaluate 129 = .ok (.aload_n 0, 1) := by decide +kernel
theorem dX12_evaluate_130 : decode cX12_evaluate 130 = .ok (.invokevirtual 637, 3) := by decide +kernel
theorem dX12_evaluate_133 : decode cX12_evaluate 133 = .ok (.aload_n 0, 1) := by decide +kernel
theorem dX12_evaluate_134 : decode cX12_evaluate 134 = .ok (.invokevirtual 634, 3) := by decide +kernel
theorem dX12_evaluate_137 : decode cX12_evaluate 137 = .ok (.goto 38, 3) := by decide +kernel
theorem dX12_evaluate_140 : decode cX12_evaluate 140 = .ok (.aload_n 0, 1) := by decide +kernel
theorem dX12_evaluate_141 : decode cX12_evaluate 141 = .ok (.getfield 471, 3) := by decide +kernel
theorem dX12_evaluate_144 : decode cX12_evaluate 144 = .ok (.aload_n 0, 1) := by decide +kernel
theorem dX12_evaluate_145 : decode cX12_evaluate 145 = .ok (.getfield 465, 3) := by decide +kernel
theorem dX12_evaluate_148 : decode cX12_evaluate 148 = .ok (.if_icmp .ne 22, 3) := by decide +kernel
theorem dX12_evaluate_151 : decode cX12_evaluate 151 = .ok (.aload_n 0, 1) := by decide +kernel
theorem dX12_evaluate_152 : decode cX12_evaluate 152 = .ok (.getfield 508, 3) := by decide +kernel
theorem dX12_evaluate_155 : decode cX12_evaluate 155 = .ok (.aload_n 0, 1) := by decide +kernel
theorem dX12_evaluate_156 : decode cX12_evaluate 156 = .ok (.getfield 493, 3) := by decide +kernel
theorem dX12_evaluate_159 : decode cX12_evaluate 159 = .ok (.if_icmp .ge 11, 3) := by decide +kernel
theorem dX12_evaluate_162 : decode cX12_evaluate 162 = .ok (.aload_n 0, 1) := by decide +kernel
theorem dX12_evaluate_163 : decode cX12_evaluate 163 = .ok (.iload_n 1, 1) := by decide +kernel
theorem dX12_evaluate_164 : decode cX12_evaluate 164 = .ok (.invokevirtual 640, 3) := by decide +kernel
theorem dX12_evaluate_167 : decode cX12_evaluate 167 = .ok (.goto 8, 3) := by decide +kernel
theorem dX12_evaluate_170 : decode cX12_evaluate 170 = .ok (.aload_n 0, 1) := by decide +kernel
theorem dX12_evaluate_171 : decode cX12_evaluate 171 = .ok (.iload_n 1, 1) := by decide +kernel
theorem dX12_evaluate_172 : decode cX12_evaluate 172 = .ok (.invokevirtual 643, 3) := by decide +kernel
theorem dX12_evaluate_175 : decode cX12_evaluate 175 = .ok (.return_, 1) := by decide +kernel
theorem dX12_goOn_0 : decode cX12_goOn 0 = .ok (.aload_n 0, 1) := by decide +kernel
theorem dX12_goOn_1 : decode cX12_goOn 1 = .ok (.getfield 477, 3) := by decide +kernel
theorem dX12_goOn_4 : decode cX12_goOn 4 = .ok (.iconst 1, 1) := by decide +kernel
theorem dX12_goOn_5 : decode cX12_goOn 5 = .ok (.if_icmp .ne 257, 3) := by decide +kernel
theorem dX12_goOn_8 : decode cX12_goOn 8 = .ok (.aload_n 0, 1) := by decide +kernel
theorem dX12_goOn_9 : decode cX12_goOn 9 = .ok (.getfield 532, 3) := by decide +kernel
theorem dX12_goOn_12 : decode cX12_goOn 12 = .ok (.tableswitch 206 0 5 #[40, 113, 156, 176, 206, 164], 40) := by decide +kernel
theorem dX12_goOn_52 : decode cX12_goOn 52 = .ok (.aload_n 0, 1) := by decide +kernel
theorem dX12_goOn_53 : decode cX12_goOn 53 = .ok (.iconst 1, 1) := by decide +kernel
theorem dX12_goOn_54 : decode cX12_goOn 54 = .ok (.putfield 562, 3) := by decide +kernel
theorem dX12_goOn_57 : decode cX12_goOn 57 = .ok (.iconst 2, 1) := by decide +kernel
theorem dX12_goOn_58 : decode cX12_goOn 58 = .ok (.istore_n 2, 1) := by decide +kernel
theorem dX12_goOn_59 : decode cX12_goOn 59 = .ok (.iload_n 2, 1) := by decide +kernel
theorem dX12_goOn_60 : decode cX12_goOn 60 = .ok (.aload_n 0, 1) := by decide +kernel
theorem dX12_goOn_61 : decode cX12_goOn 61 = .ok (.getfield 483, 3) := by decide +kernel
theorem dX12_goOn_64 : decode cX12_goOn 64 = .ok (.if_icmp .gt 47, 3) := by decide +kernel
theorem dX12_goOn_67 : decode cX12_goOn 67 = .ok (.aload_n 0, 1) := by decide +kernel
theorem dX12_goOn_68 : decode cX12_goOn 68 = .ok (.getfield 103, 3) := by decide +kernel
theorem dX12_goOn_71 : decode cX12_goOn 71 = .ok (.aload_n 0, 1) := by decide +kernel
theorem dX12_goOn_72 : decode cX12_goOn 72 = .ok (.iload_n 2, 1) := by decide +kernel
theorem dX12_goOn_73 : decode cX12_goOn 73 = .ok (.iconst 1, 1) := by decide +kernel
theorem dX12_goOn_74 : decode cX12_goOn 74 = .ok (.iadd, 1) := by decide +kernel
theorem dX12_goOn_75 : decode cX12_goOn 75 = .ok (.iconst 0, 1) := by decide +kernel
theorem dX12_goOn_76 : decode cX12_goOn 76 = .ok (.invokevirtual 529, 3) := by decide +kernel
theorem dX12_goOn_79 : decode cX12_goOn 79 = .ok (.aload_n 0, 1) := by decide +kernel
theorem dX12_goOn_80 : decode cX12_goOn 80 = .ok (.getfield 103, 3) := by decide +kernel
theorem dX12_goOn_83 : decode cX12_goOn 83 = .ok (.aload_n 0, 1) := by decide +kernel
theorem dX12_goOn_84 : decode cX12_goOn 84 = .ok (.aload_n 0, 1) := by decide +kernel
theorem dX12_goOn_85 : decode cX12_goOn 85 = .ok (.getfield 562, 3) := by decide +kernel
theorem dX12_goOn_88 : decode cX12_goOn 88 = .ok (.iconst 1, 1) := by decide +kernel
theorem dX12_goOn_89 : decode cX12_goOn 89 = .ok (.iadd, 1) := by decide +kernel
theorem dX12_goOn_90 : decode cX12_goOn 90 = .ok (.iconst 0, 1) := by decide +kernel
theorem dX12_goOn_91 : decode cX12_goOn 91 = .ok (.invokevirtual 529, 3) := by decide +kernel
theorem dX12_goOn_94 : decode cX12_goOn 94 = .ok (.invokestatic 552, 3) := by decide +kernel
theorem dX12_goOn_97 : decode cX12_goOn 97 = .ok (.ifCond .ge 8, 3) := by decide +kernel
theorem dX12_goOn_100 : decode cX12_goOn 100 = .ok (.aload_n 0, 1) := by decide +kernel
theorem dX12_goOn_101 : decode cX12_goOn 101 = .ok (.iload_n 2, 1) := by decide +kernel
theorem dX12_goOn_102 : decode cX12_goOn 102 = .ok (.putfield 562, 3) := by decide +kernel
theorem dX12_goOn_105 : decode cX12_goOn 105 = .ok (.iinc 2 1, 3) := by decide +kernel
theorem dX12_goOn_108 : decode cX12_goOn 108 = .ok (.goto (-49), 3) := by decide +kernel
theorem dX12_goOn_111 : decode cX12_goOn 111 = .ok (.aload_n 0, 1) := by decide +kernel
theorem dX12_goOn_112 : decode cX12_goOn 112 = .ok (.aload_n 0, 1) := by decide +kernel
theorem dX12_goOn_113 : decode cX12_goOn 113 = .ok (.getfield 526, 3) := by decide +kernel
theorem dX12_goOn_116 : decode cX12_goOn 116 = .ok (.putfield 555, 3) := by decide +kernel
theorem dX12_goOn_119 : decode cX12_goOn 119 = .ok (.aload_n 0, 1) := by decide +kernel
theorem dX12_goOn_120 : decode cX12_goOn 120 = .ok (.iconst 1, 1) := by decide +kernel
theorem dX12_goOn_121 : decode cX12_goOn 121 = .ok (.putfield 532, 3) := by decide +kernel
theorem dX12_goOn_124 : decode cX12_goOn 124 = .ok (.return_, 1) := by decide +kernel
theorem dX12_goOn_125 : decode cX12_goOn 125 = .ok (.aload_n 0, 1) := by decide +kernel
theorem dX12_goOn_126 : decode cX12_goOn 126 = .ok (.iconst 1, 1) := by decide +kernel
theorem dX12_goOn_127 : decode cX12_goOn 127 = .ok (.invokevirtual 572, 3) := by decide +kernel
theorem dX12_goOn_130 : decode cX12_goOn 130 = .ok (.istore_n 1, 1) := by decide +kernel
theorem dX12_goOn_131 : decode cX12_goOn 131 = .ok (.iload_n 1, 1) := by decide +kernel
theorem dX12_goOn_132 : decode cX12_goOn 132 = .ok (.iconst 1, 1) := by decide +kernel
theorem dX12_goOn_133 : decode cX12_goOn 133 = .ok (.if_icmp .ne 4, 3) := by decide +kernel
theorem dX12_goOn_136 : decode cX12_goOn 136 = .ok (.return_, 1) := by decide +kernel
theorem dX12_goOn_137 : decode cX12_goOn 137 = .ok (.aload_n 0, 1) := by decide +kernel
theorem dX12_goOn_138 : decode cX12_goOn 138 = .ok (.getfield 103, 3) := by decide +kernel
theorem dX12_goOn_141 : decode cX12_goOn 141 = .ok (.aload_n 0, 1) := by decide +kernel
theorem dX12_goOn_142 : decode cX12_goOn 142 = .ok (.iconst 1, 1) := by decide +kernel
theorem dX12_goOn_143 : decode cX12_goOn 143 = .ok (.iconst 0, 1) := by decide +kernel
theorem dX12_goOn_144 : decode cX12_goOn 144 = .ok (.invokevirtual 529, 3) := by decide +kernel
theorem dX12_goOn_147 : decode cX12_goOn 147 = .ok (.iaload, 1) := by decide +kernel
theorem dX12_goOn_148 : decode cX12_goOn 148 = .ok (.ifCond .ge 12, 3) := by decide +kernel
theorem dX12_goOn_151 : decode cX12_goOn 151 = .ok (.aload_n 0, 1) := by decide +kernel
theorem dX12_goOn_152 : decode cX12_goOn 152 = .ok (.iconst 1, 1) := by decide +kernel
theorem dX12_goOn_153 : decode cX12_goOn 153 = .ok (.iconst 0, 1) := by decide +kernel
theorem dX12_goOn_154 : decode cX12_goOn 154 = .ok (.invokevirtual 575, 3) := by decide +kernel
theorem dX12_goOn_157 : decode cX12_goOn 157 = .ok (.goto 102, 3) := by decide +kernel
theorem dX12_goOn_160 : decode cX12_goOn 160 = .ok (.aload_n 0, 1) := by decide +kernel
theorem dX12_goOn_161 : decode cX12_goOn 161 = .ok (.iconst 2, 1) := by decide +kernel
theorem dX12_goOn_162 : decode cX12_goOn 162 = .ok (.putfield 532, 3) := by decide +kernel
theorem dX12_goOn_165 : decode cX12_goOn 165 = .ok (.goto 94, 3) := by decide +kernel
theorem dX12_goOn_168 : decode cX12_goOn 168 = .ok (.aload_n 0, 1) := by decide +kernel
theorem dX12_goOn_169 : decode cX12_goOn 169 = .ok (.invokevirtual 578, 3) := by decide +kernel
theorem dX12_goOn_172 : decode cX12_goOn 172 = .ok (.ifCond .eq 87, 3) := by decide +kernel
theorem dX12_goOn_175 : decode cX12_goOn 175 = .ok (.return_, 1) := by decide +kernel
theorem dX12_goOn_176 : decode cX12_goOn 176 = .ok (.aload_n 0, 1) := by decide +kernel
theorem dX12_goOn_177 : decode cX12_goOn 177 = .ok (.invokevirtual 582, 3) := by decide +kernel
theorem dX12_goOn_180 : decode cX12_goOn 180 = .ok (.aload_n 0, 1) := by decide +kernel
theorem dX12_goOn_181 : decode cX12_goOn 181 = .ok (.iconst 3, 1) := by decide +kernel
theorem dX12_goOn_182 : decode cX12_goOn 182 = .ok (.putfield 532, 3) := by decide +kernel
theorem dX12_goOn_185 : decode cX12_goOn 185 = .ok (.goto 74, 3) := by decide +kernel
theorem dX12_goOn_188 : decode cX12_goOn 188 = .ok (.aload_n 0, 1) := by decide +kernel
theorem dX12_goOn_189 : decode cX12_goOn 189 = .ok (.iconst 0, 1) := by decide +kernel
theorem dX12_goOn_190 : decode cX12_goOn 190 = .ok (.invokevirtual 572, 3) := by decide +kernel
theorem dX12_goOn_193 : decode cX12_goOn 193 = .ok (.istore_n 1, 1) := by decide +kernel
theorem dX12_goOn_194 : decode cX12_goOn 194 = .ok (.iload_n 1, 1) := by decide +kernel
theorem dX12_goOn_195 : decode cX12_goOn 195 = .ok (.iconst 1, 1) := by decide +kernel
theorem dX12_goOn_196 : decode cX12_goOn 196 = .ok (.if_icmp .ne 4, 3) := by decide +kernel
theorem dX12_goOn_199 : decode cX12_goOn 199 = .ok (.return_, 1) := by decide +kernel
theorem dX12_goOn_200 : decode cX12_goOn 200 = .ok (.iload_n 1, 1) := by decide +kernel
theorem dX12_goOn_201 : decode cX12_goOn 201 = .ok (.ifCond .ne 10, 3) := by decide +kernel
theorem dX12_goOn_204 : decode cX12_goOn 204 = .ok (.aload_n 0, 1) := by decide +kernel
theorem dX12_goOn_205 : decode cX12_goOn 205 = .ok (.invokevirtual 585, 3) := by decide +kernel
theorem dX12_goOn_208 : decode cX12_goOn 208 = .ok (.goto 51, 3) := by decide +kernel
theorem dX12_goOn_211 : decode cX12_goOn 211 = .ok (.aload_n 0, 1) := by decide +kernel
theorem dX12_goOn_212 : decode cX12_goOn 212 = .ok (.invokevirtual 588, 3) := by decide +kernel
theorem dX12_goOn_215 : decode cX12_goOn 215 = .ok (.goto 44, 3) := by decide +kernel
theorem dX12_goOn_218 : decode cX12_goOn 218 = .ok (.aload_n 0, 1) := by decide +kernel
theorem dX12_goOn_219 : decode cX12_goOn 219 = .ok (.invokevirtual 591, 3) := by decide +kernel
theorem dX12_goOn_222 : decode cX12_goOn 222 = .ok (.istore_n 1, 1) := by decide +kernel
theorem dX12_goOn_223 : decode cX12_goOn 223 = .ok (.iload_n 1, 1) := by decide +kernel
theorem dX12_goOn_224 : decode cX12_goOn 224 = .ok (.iconst 1, 1) := by decide +kernel
theorem dX12_goOn_225 : decode cX12_goOn 225 = .ok (.if_icmp .ne 4, 3) := by decide +kernel
theorem dX12_goOn_228 : decode cX12_goOn 228 = .ok (.return_, 1) := by decide +kernel
theorem dX12_goOn_229 : decode cX12_goOn 229 = .ok (.iload_n 1, 1) := by decide +kernel
theorem dX12_goOn_230 : decode cX12_goOn 230 = .ok (.ifCond .ne 10, 3) := by decide +kernel
theorem dX12_goOn_233 : decode cX12_goOn 233 = .ok (.aload_n 0, 1) := by decide +kernel
theorem dX12_goOn_234 : decode cX12_goOn 234 = .ok (.invokevirtual 585, 3) := by decide +kernel
theorem dX12_goOn_237 : decode cX12_goOn 237 = .ok (.goto 22, 3) := by decide +kernel
theorem dX12_goOn_240 : decode cX12_goOn 240 = .ok (.aload_n 0, 1) := by decide +kernel
theorem dX12_goOn_241 : decode cX12_goOn 241 = .ok (.aload_n 0, 1) := by decide +kernel
theorem dX12_goOn_242 : decode cX12_goOn 242 = .ok (.getfield 562, 3) := by decide +kernel
theorem dX12_goOn_245 : decode cX12_goOn 245 = .ok (.iconst 1, 1) := by decide +kernel
theorem dX12_goOn_246 : decode cX12_goOn 246 = .ok (.iadd, 1) := by decide +kernel
theorem dX12_goOn_247 : decode cX12_goOn 247 = .ok (.aload_n 0, 1) := by decide +kernel
theorem dX12_goOn_248 : decode cX12_goOn 248 = .ok (.getfield 112, 3) := by decide +kernel
theorem dX12_goOn_251 : decode cX12_goOn 251 = .ok (.aload_n 0, 1) := by decide +kernel
theorem dX12_goOn_252 : decode cX12_goOn 252 = .ok (.getfield 562, 3) := by decide +kernel
theorem dX12_goOn_255 : decode cX12_goOn 255 = .ok (.iaload, 1) := by decide +kernel
theorem dX12_goOn_256 : decode cX12_goOn 256 = .ok (.invokevirtual 575, 3) := by decide +kernel
theorem dX12_goOn_259 : decode cX12_goOn 259 = .ok (.goto (-259), 3) := by decide +kernel
theorem dX12_goOn_262 : decode cX12_goOn 262 = .ok (.return_, 1) := by decide +kernel
theorem dX12_work_0 : decode cX12_work 0 = .ok (.iload_n 1, 1) := by decide +kernel
theorem dX12_work_1 : decode cX12_work 1 = .ok (.iconst 1, 1) := by decide +kernel
theorem dX12_work_2 : decode cX12_work 2 = .ok (.if_icmp .lt 10, 3) := by decide +kernel
theorem dX12_work_5 : decode cX12_work 5 = .ok (.iload_n 1, 1) := by decide +kernel
theorem dX12_work_6 : decode cX12_work 6 = .ok (.sipush 500, 3) := by decide +kernel
theorem dX12_work_9 : decode cX12_work 9 = .ok (.if_icmp .le 5, 3) := by decide +kernel
theorem dX12_work_12 : decode cX12_work 12 = .ok (.iconst (-1), 1) := by decide +kernel
theorem dX12_work_13 : decode cX12_work 13 = .ok (.ireturn, 1) := by decide +kernel
theorem dX12_work_14 : decode cX12_work 14 = .ok (.aload_n 0, 1) := by decide +kernel
theorem dX12_work_15 : decode cX12_work 15 = .ok (.getfield 477, 3) := by decide +kernel
theorem dX12_work_18 : decode cX12_work 18 = .ok (.iconst 1, 1) := by decide +kernel
theorem dX12_work_19 : decode cX12_work 19 = .ok (.if_icmp .eq 5, 3) := by decide +kernel
theorem dX12_work_22 : decode cX12_work 22 = .ok (.iconst 0, 1) := by decide +kernel
theorem dX12_work_23 : decode cX12_work 23 = .ok (.ireturn, 1) := by decide +kernel
theorem dX12_work_24 : decode cX12_work 24 = .ok (.aload_n 0, 1) := by decide +kernel
theorem dX12_work_25 : decode cX12_work 25 = .ok (.getfield 517, 3) := by decide +kernel
theorem dX12_work_28 : decode cX12_work 28 = .ok (.ifCond .ne 7, 3) := by decide +kernel
theorem dX12_work_31 : decode cX12_work 31 = .ok (.aload_n 0, 1) := by decide +kernel
theorem dX12_work_32 : decode cX12_work 32 = .ok (.invokevirtual 565, 3) := by decide +kernel
theorem dX12_work_35 : decode cX12_work 35 = .ok (.aload_n 0, 1) := by decide +kernel
theorem dX12_work_36 : decode cX12_work 36 = .ok (.iconst 1, 1) := by decide +kernel
theorem dX12_work_37 : decode cX12_work 37 = .ok (.putfield 517, 3) := by decide +kernel
theorem dX12_work_40 : decode cX12_work 40 = .ok (.iconst 0, 1) := by decide +kernel
theorem dX12_work_41 : decode cX12_work 41 = .ok (.istore_n 2, 1) := by decide +kernel
theorem dX12_work_42 : decode cX12_work 42 = .ok (.iload_n 2, 1) := by decide +kernel
theorem dX12_work_43 : decode cX12_work 43 = .ok (.iload_n 1, 1) := by decide +kernel
theorem dX12_work_44 : decode cX12_work 44 = .ok (.if_icmp .ge 54, 3) := by decide +kernel
theorem dX12_work_47 : decode cX12_work 47 = .ok (.aload_n 0, 1) := by decide +kernel
theorem dX12_work_48 : decode cX12_work 48 = .ok (.getfield 477, 3) := by decide +kernel
theorem dX12_work_51 : decode cX12_work 51 = .ok (.iconst 1, 1) := by decide +kernel
theorem dX12_work_52 : decode cX12_work 52 = .ok (.if_icmp .ne 46, 3) := by decide +kernel
theorem dX12_work_55 : decode cX12_work 55 = .ok (.aload_n 0, 1) := by decide +kernel
theorem dX12_work_56 : decode cX12_work 56 = .ok (.aload_n 0, 1) := by decide +kernel
theorem dX12_work_57 : decode cX12_work 57 = .ok (.getfield 562, 3) := by decide +kernel
theorem dX12_work_60 : decode cX12_work 60 = .ok (.aload_n 0, 1) := by decide +kernel
theorem dX12_work_61 : decode cX12_work 61 = .ok (.getfield 555, 3) := by decide +kernel
theorem dX12_work_64 : decode cX12_work 64 = .ok (.invokevirtual 568, 3) := by decide +kernel
theorem dX12_work_67 : decode cX12_work 67 = .ok (.ifCond .ne 11, 3) := by decide +kernel
theorem dX12_work_70 : decode cX12_work 70 = .ok (.aload_n 0, 1) := by decide +kernel
theorem dX12_work_71 : decode cX12_work 71 = .ok (.iconst 5, 1) := by decide +kernel
theorem dX12_work_72 : decode cX12_work 72 = .ok (.putfield 477, 3) := by decide +kernel
theorem dX12_work_75 : decode cX12_work 75 = .ok (.goto 23, 3) := by decide +kernel
theorem dX12_work_78 : decode cX12_work 78 = .ok (.aload_n 0, 1) := by decide +kernel
theorem dX12_work_79 : decode cX12_work 79 = .ok (.dup, 1) := by decide +kernel
theorem dX12_work_80 : decode cX12_work 80 = .ok (.getfield 496, 3) := by decide +kernel
theorem dX12_work_83 : decode cX12_work 83 = .ok (.iconst 1, 1) := by decide +kernel
theorem dX12_work_84 : decode cX12_work 84 = .ok (.iadd, 1) := by decide +kernel
theorem dX12_work_85 : decode cX12_work 85 = .ok (.putfield 496, 3) := by decide +kernel
theorem dX12_work_88 : decode cX12_work 88 = .ok (.iinc 2 1, 3) := by decide +kernel
theorem dX12_work_91 : decode cX12_work 91 = .ok (.aload_n 0, 1) := by decide +kernel
theorem dX12_work_92 : decode cX12_work 92 = .ok (.invokevirtual 565, 3) := by decide +kernel
theorem dX12_work_95 : decode cX12_work 95 = .ok (.goto (-53), 3) := by decide +kernel
theorem dX12_work_98 : decode cX12_work 98 = .ok (.iload_n 2, 1) := by decide +kernel
theorem dX12_work_99 : decode cX12_work 99 = .ok (.ireturn, 1) := by decide +kernel
theorem w_145 : Cond.selects RX12 yX12_goOn yX12_goOn ∈ tb := sel_10 (q := (yX12_goOn, 105)) 1 (by decide +kernel)
theorem w_146 : Cond.selects RX12 yX12_stepUp yX12_stepUp ∈ tb := sel_10 (q := (yX12_stepUp, 105)) 2 (by decide +kernel)
theorem w_148 : Cond.selects RX12 yX12_leafFarkas yX12_leafFarkas ∈ tb := sel_10 (q := (yX12_leafFarkas, 105)) 4 (by decide +kernel)
theorem w_168 : Cond.selects RX12 yX12_outOfBasis yX12_outOfBasis ∈ tb := sel_11 (q := (yX12_outOfBasis, 105)) 8 (by decide +kernel)
theorem w_169 : Cond.selects RX12 yX12_dropPlace yX12_dropPlace ∈ tb := sel_11 (q := (yX12_dropPlace, 105)) 9 (by decide +kernel)
theorem w_170 : Cond.selects RX12 yX12_evaluate yX12_evaluate ∈ tb := sel_11 (q := (yX12_evaluate, 105)) 10 (by decide +kernel)
theorem w_171 : Cond.selects RX12 yX12_isNoBetter yX12_isNoBetter ∈ tb := sel_11 (q := (yX12_isNoBetter, 105)) 11 (by decide +kernel)
theorem w_173 : Cond.selects RX12 yX12_leafBound yX12_leafBound ∈ tb := sel_11 (q := (yX12_leafBound, 105)) 13 (by decide +kernel)
theorem w_174 : Cond.selects RX12 yX12_takeBest yX12_takeBest ∈ tb := sel_11 (q := (yX12_takeBest, 105)) 14 (by decide +kernel)
theorem w_175 : Cond.selects RX12 yX12_cut yX12_cut ∈ tb := sel_11 (q := (yX12_cut, 105)) 15 (by decide +kernel)
theorem w_176 : Cond.selects RX12 yX12_branch yX12_branch ∈ tb := sel_12 (q := (yX12_branch, 105)) 0 (by decide +kernel)
theorem w_177 : Cond.selects RX12 yX12_ray yX12_ray ∈ tb := sel_12 (q := (yX12_ray, 105)) 1 (by decide +kernel)
theorem w_178 : Cond.selects RX12 yX12_stepDown yX12_stepDown ∈ tb := sel_12 (q := (yX12_stepDown, 105)) 2 (by decide +kernel)
theorem w_179 : Cond.selects RX12 yX12_pivot yX12_pivot ∈ tb := sel_12 (q := (yX12_pivot, 105)) 3 (by decide +kernel)
theorem w_2009 : Cond.fieldLink RX12 471 (TX12 48).1 (TX12 48).2.1 (TX12 48).2.2.1 ∈ tb := tbc_8 126 (by decide +kernel) rfl
theorem w_2501 : Cond.methodLink RX12 565 yX12_goOn ∈ tb := tbc_10 138 (by decide +kernel) rfl
theorem w_2503 : Cond.instanceMethod yX12_goOn ∈ tb := tbc_10 140 (by decide +kernel) rfl
theorem w_2504 : Cond.code yX12_goOn cX12_goOn 3 none ∈ tb := tbc_10 141 (by decide +kernel) rfl
theorem w_2514 : Cond.methodLink RX12 572 yX12_stepUp ∈ tb := tbc_10 151 (by decide +kernel) rfl
theorem w_2516 : Cond.instanceMethod yX12_stepUp ∈ tb := tbc_10 153 (by decide +kernel) rfl
theorem w_2517 : Cond.code yX12_stepUp cX12_stepUp 6 (some .int) ∈ tb := tbc_10 154 (by decide +kernel) rfl
theorem w_2525 : Cond.methodLink RX12 575 yX12_leafFarkas ∈ tb := tbc_10 162 (by decide +kernel) rfl
theorem w_2527 : Cond.instanceMethod yX12_leafFarkas ∈ tb := tbc_10 164 (by decide +kernel) rfl
theorem w_2528 : Cond.code yX12_leafFarkas cX12_leafFarkas 3 none ∈ tb := tbc_10 165 (by decide +kernel) rfl
theorem w_2630 : Cond.methodLink RX12 578 yX12_outOfBasis ∈ tb := tbc_11 27 (by decide +kernel) rfl
theorem w_2632 : Cond.instanceMethod yX12_outOfBasis ∈ tb := tbc_11 29 (by decide +kernel) rfl
theorem w_2633 : Cond.code yX12_outOfBasis cX12_outOfBasis 4 (some .boolean) ∈ tb := tbc_11 30 (by decide +kernel) rfl
theorem w_2634 : Cond.methodLink RX12 582 yX12_dropPlace ∈ tb := tbc_11 31 (by decide +kernel) rfl
theorem w_2636 : Cond.instanceMethod yX12_dropPlace ∈ tb := tbc_11 33 (by decide +kernel) rfl
theorem w_2637 : Cond.code yX12_dropPlace cX12_dropPlace 3 none ∈ tb := tbc_11 34 (by decide +kernel) rfl
theorem w_2638 : Cond.methodLink RX12 585 yX12_evaluate ∈ tb := tbc_11 35 (by decide +kernel) rfl
theorem w_2640 : Cond.instanceMethod yX12_evaluate ∈ tb := tbc_11 37 (by decide +kernel) rfl
theorem w_2641 : Cond.code yX12_evaluate cX12_evaluate 4 none ∈ tb := tbc_11 38 (by decide +kernel) rfl
theorem w_2642 : Cond.methodLink RX12 631 yX12_isNoBetter ∈ tb := tbc_11 39 (by decide +kernel) rfl
theorem w_2644 : Cond.instanceMethod yX12_isNoBetter ∈ tb := tbc_11 41 (by decide +kernel) rfl
theorem w_2645 : Cond.code yX12_isNoBetter cX12_isNoBetter 1 (some .boolean) ∈ tb := tbc_11 42 (by decide +kernel) rfl
theorem w_2650 : Cond.methodLink RX12 634 yX12_leafBound ∈ tb := tbc_11 47 (by decide +kernel) rfl
theorem w_2652 : Cond.instanceMethod yX12_leafBound ∈ tb := tbc_11 49 (by decide +kernel) rfl
theorem w_2653 : Cond.code yX12_leafBound cX12_leafBound 1 none ∈ tb := tbc_11 50 (by decide +kernel) rfl
theorem w_2655 : Cond.methodLink RX12 637 yX12_takeBest ∈ tb := tbc_11 52 (by decide +kernel) rfl
theorem w_2657 : Cond.instanceMethod yX12_takeBest ∈ tb := tbc_11 54 (by decide +kernel) rfl
theorem w_2658 : Cond.code yX12_takeBest cX12_takeBest 2 none ∈ tb := tbc_11 55 (by decide +kernel) rfl
theorem w_2659 : Cond.methodLink RX12 640 yX12_cut ∈ tb := tbc_11 56 (by decide +kernel) rfl
theorem w_2661 : Cond.instanceMethod yX12_cut ∈ tb := tbc_11 58 (by decide +kernel) rfl
theorem w_2662 : Cond.code yX12_cut cX12_cut 5 none ∈ tb := tbc_11 59 (by decide +kernel) rfl
theorem w_2664 : Cond.methodLink RX12 643 yX12_branch ∈ tb := tbc_11 61 (by decide +kernel) rfl
theorem w_2666 : Cond.instanceMethod yX12_branch ∈ tb := tbc_11 63 (by decide +kernel) rfl
theorem w_2667 : Cond.code yX12_branch cX12_branch 4 none ∈ tb := tbc_11 64 (by decide +kernel) rfl
theorem w_2669 : Cond.methodLink RX12 588 yX12_ray ∈ tb := tbc_11 66 (by decide +kernel) rfl
theorem w_2671 : Cond.instanceMethod yX12_ray ∈ tb := tbc_11 68 (by decide +kernel) rfl
theorem w_2672 : Cond.code yX12_ray cX12_ray 2 none ∈ tb := tbc_11 69 (by decide +kernel) rfl
theorem w_2676 : Cond.methodLink RX12 591 yX12_stepDown ∈ tb := tbc_11 73 (by decide +kernel) rfl
theorem w_2678 : Cond.instanceMethod yX12_stepDown ∈ tb := tbc_11 75 (by decide +kernel) rfl
theorem w_2679 : Cond.code yX12_stepDown cX12_stepDown 5 (some .int) ∈ tb := tbc_11 76 (by decide +kernel) rfl
theorem w_2680 : Cond.methodLink RX12 568 yX12_pivot ∈ tb := tbc_11 77 (by decide +kernel) rfl
theorem w_2682 : Cond.instanceMethod yX12_pivot ∈ tb := tbc_11 79 (by decide +kernel) rfl
theorem w_2683 : Cond.code yX12_pivot cX12_pivot 8 (some .boolean) ∈ tb := tbc_11 80 (by decide +kernel) rfl
section RW68
variable {p : Program} {l : Launch} {e : Env} {R : Room} {s : State} {m : MethodId} {args : Array Value} {below : List Frame} {meth : Method} {c : Code} {H : Heap} {locs : List Loc} {cells slots : Nat} {Q : State → Prop}
variable {cc : ByteArray} {pc nL : Nat} {ls : Array Slot} {rest st0 : List Value} {G : sG} {n : Nat} {S : sS}
theorem g_X12_471 (Cx : sC G p m c cc nL s args RX12) (hW : sW G n S H) {k : Nat} (hk : k < n) (ht : tau k = .inl 12) {v : Int} (hv : S.1 k 48 = v) (hdg : decode cc pc = .ok (.getfield 471, 3)) (kk : W p l e R s m args below meth c H locs cells slots Q (F0 m (pc + 3) ls (.int (iv v) :: rest))) : W p l e R s m args below meth c H locs cells slots Q (F0 m pc ls (.ref (G.2.2.1 + k) :: rest)) :=
  sGet Cx inX12 rfl 48 (by decide) w_2009 hW hk ht (congrArg (fun z => Value.int (iv z)) hv) hdg kk
theorem c_X12_643 (Cx : sC G p m c cc nL s args RX12) {rm : Room} {mc ms : Nat} (h1 : rm.cells = mc) (h2 : rm.slots = ms) (h3 : rm.frames + 1 ≤ R.frames ∧ 8 + (4 + 11) + rm.locals ≤ R.locals) : CallW R s args RX12 RX12 643 yX12_branch cX12_branch 4 none (.code yX12_branch cX12_branch 4 none :: tb) rm mc ms 1 :=
  sCw Cx 1 w_2664 w_2666 w_176 w_217 w_2667 (by decide +kernel) h1 h2 h3
theorem g_X12_493 (Cx : sC G p m c cc nL s args RX12) (hW : sW G n S H) {k : Nat} (hk : k < n) (ht : tau k = .inl 12) {v : Int} (hv : S.1 k 68 = v) (hdg : decode cc pc = .ok (.getfield 493, 3)) (kk : W p l e R s m args below meth c H locs cells slots Q (F0 m (pc + 3) ls (.int (iv v) :: rest))) : W p l e R s m args below meth c H locs cells slots Q (F0 m pc ls (.ref (G.2.2.1 + k) :: rest)) :=
  sGet Cx inX12 rfl 68 (by decide) w_2029 hW hk ht (congrArg (fun z => Value.int (iv z)) hv) hdg kk
theorem c_X12_640 (Cx : sC G p m c cc nL s args RX12) {rm : Room} {mc ms : Nat} (h1 : rm.cells = mc) (h2 : rm.slots = ms) (h3 : rm.frames + 1 ≤ R.frames ∧ 8 + (5 + 11) + rm.locals ≤ R.locals) : CallW R s args RX12 RX12 640 yX12_cut cX12_cut 5 none (.code yX12_cut cX12_cut 5 none :: tb) rm mc ms 1 :=
  sCw Cx 1 w_2659 w_2661 w_175 w_217 w_2662 (by decide +kernel) h1 h2 h3
theorem c_X12_637 (Cx : sC G p m c cc nL s args RX12) {rm : Room} {mc ms : Nat} (h1 : rm.cells = mc) (h2 : rm.slots = ms) (h3 : rm.frames + 1 ≤ R.frames ∧ 8 + (2 + 11) + rm.locals ≤ R.locals) : CallW R s args RX12 RX12 637 yX12_takeBest cX12_takeBest 2 none (.code yX12_takeBest cX12_takeBest 2 none :: tb) rm mc ms 0 :=
  sCw Cx 0 w_2655 w_2657 w_174 w_217 w_2658 (by decide +kernel) h1 h2 h3
theorem c_X12_634 (Cx : sC G p m c cc nL s args RX12) {rm : Room} {mc ms : Nat} (h1 : rm.cells = mc) (h2 : rm.slots = ms) (h3 : rm.frames + 1 ≤ R.frames ∧ 8 + (1 + 11) + rm.locals ≤ R.locals) : CallW R s args RX12 RX12 634 yX12_leafBound cX12_leafBound 1 none (.code yX12_leafBound cX12_leafBound 1 none :: tb) rm mc ms 0 :=
  sCw Cx 0 w_2650 w_2652 w_173 w_217 w_2653 (by decide +kernel) h1 h2 h3
theorem c_X12_631 (Cx : sC G p m c cc nL s args RX12) {rm : Room} {mc ms : Nat} (h1 : rm.cells = mc) (h2 : rm.slots = ms) (h3 : rm.frames + 1 ≤ R.frames ∧ 8 + (1 + 11) + rm.locals ≤ R.locals) : CallW R s args RX12 RX12 631 yX12_isNoBetter cX12_isNoBetter 1 (some .boolean) (.code yX12_isNoBetter cX12_isNoBetter 1 (some .boolean) :: tb) rm mc ms 0 :=
  sCw Cx 0 w_2642 w_2644 w_171 w_217 w_2645 (by decide +kernel) h1 h2 h3
theorem g_X12_532 (Cx : sC G p m c cc nL s args RX12) (hW : sW G n S H) {k : Nat} (hk : k < n) (ht : tau k = .inl 12) {v : Int} (hv : S.1 k 62 = v) (hdg : decode cc pc = .ok (.getfield 532, 3)) (kk : W p l e R s m args below meth c H locs cells slots Q (F0 m (pc + 3) ls (.int (iv v) :: rest))) : W p l e R s m args below meth c H locs cells slots Q (F0 m pc ls (.ref (G.2.2.1 + k) :: rest)) :=
  sGet Cx inX12 rfl 62 (by decide) w_2023 hW hk ht (congrArg (fun z => Value.int (iv z)) hv) hdg kk
theorem g_X12_562 (Cx : sC G p m c cc nL s args RX12) (hW : sW G n S H) {k : Nat} (hk : k < n) (ht : tau k = .inl 12) {v : Int} (hv : S.1 k 71 = v) (hdg : decode cc pc = .ok (.getfield 562, 3)) (kk : W p l e R s m args below meth c H locs cells slots Q (F0 m (pc + 3) ls (.int (iv v) :: rest))) : W p l e R s m args below meth c H locs cells slots Q (F0 m pc ls (.ref (G.2.2.1 + k) :: rest)) :=
  sGet Cx inX12 rfl 71 (by decide) w_2032 hW hk ht (congrArg (fun z => Value.int (iv z)) hv) hdg kk
theorem c_X12_572 (Cx : sC G p m c cc nL s args RX12) {rm : Room} {mc ms : Nat} (h1 : rm.cells = mc) (h2 : rm.slots = ms) (h3 : rm.frames + 1 ≤ R.frames ∧ 8 + (6 + 11) + rm.locals ≤ R.locals) : CallW R s args RX12 RX12 572 yX12_stepUp cX12_stepUp 6 (some .int) (.code yX12_stepUp cX12_stepUp 6 (some .int) :: tb) rm mc ms 1 :=
  sCw Cx 1 w_2514 w_2516 w_146 w_217 w_2517 (by decide +kernel) h1 h2 h3
theorem c_X12_575 (Cx : sC G p m c cc nL s args RX12) {rm : Room} {mc ms : Nat} (h1 : rm.cells = mc) (h2 : rm.slots = ms) (h3 : rm.frames + 1 ≤ R.frames ∧ 8 + (3 + 11) + rm.locals ≤ R.locals) : CallW R s args RX12 RX12 575 yX12_leafFarkas cX12_leafFarkas 3 none (.code yX12_leafFarkas cX12_leafFarkas 3 none :: tb) rm mc ms 2 :=
  sCw Cx 2 w_2525 w_2527 w_148 w_217 w_2528 (by decide +kernel) h1 h2 h3
theorem c_X12_578 (Cx : sC G p m c cc nL s args RX12) {rm : Room} {mc ms : Nat} (h1 : rm.cells = mc) (h2 : rm.slots = ms) (h3 : rm.frames + 1 ≤ R.frames ∧ 8 + (4 + 11) + rm.locals ≤ R.locals) : CallW R s args RX12 RX12 578 yX12_outOfBasis cX12_outOfBasis 4 (some .boolean) (.code yX12_outOfBasis cX12_outOfBasis 4 (some .boolean) :: tb) rm mc ms 0 :=
  sCw Cx 0 w_2630 w_2632 w_168 w_217 w_2633 (by decide +kernel) h1 h2 h3
theorem c_X12_588 (Cx : sC G p m c cc nL s args RX12) {rm : Room} {mc ms : Nat} (h1 : rm.cells = mc) (h2 : rm.slots = ms) (h3 : rm.frames + 1 ≤ R.frames ∧ 8 + (2 + 11) + rm.locals ≤ R.locals) : CallW R s args RX12 RX12 588 yX12_ray cX12_ray 2 none (.code yX12_ray cX12_ray 2 none :: tb) rm mc ms 0 :=
  sCw Cx 0 w_2669 w_2671 w_177 w_217 w_2672 (by decide +kernel) h1 h2 h3
theorem c_X12_585 (Cx : sC G p m c cc nL s args RX12) {rm : Room} {mc ms : Nat} (h1 : rm.cells = mc) (h2 : rm.slots = ms) (h3 : rm.frames + 1 ≤ R.frames ∧ 8 + (4 + 11) + rm.locals ≤ R.locals) : CallW R s args RX12 RX12 585 yX12_evaluate cX12_evaluate 4 none (.code yX12_evaluate cX12_evaluate 4 none :: tb) rm mc ms 0 :=
  sCw Cx 0 w_2638 w_2640 w_170 w_217 w_2641 (by decide +kernel) h1 h2 h3
theorem c_X12_591 (Cx : sC G p m c cc nL s args RX12) {rm : Room} {mc ms : Nat} (h1 : rm.cells = mc) (h2 : rm.slots = ms) (h3 : rm.frames + 1 ≤ R.frames ∧ 8 + (5 + 11) + rm.locals ≤ R.locals) : CallW R s args RX12 RX12 591 yX12_stepDown cX12_stepDown 5 (some .int) (.code yX12_stepDown cX12_stepDown 5 (some .int) :: tb) rm mc ms 0 :=
  sCw Cx 0 w_2676 w_2678 w_178 w_217 w_2679 (by decide +kernel) h1 h2 h3
theorem c_X12_582 (Cx : sC G p m c cc nL s args RX12) {rm : Room} {mc ms : Nat} (h1 : rm.cells = mc) (h2 : rm.slots = ms) (h3 : rm.frames + 1 ≤ R.frames ∧ 8 + (3 + 11) + rm.locals ≤ R.locals) : CallW R s args RX12 RX12 582 yX12_dropPlace cX12_dropPlace 3 none (.code yX12_dropPlace cX12_dropPlace 3 none :: tb) rm mc ms 0 :=
  sCw Cx 0 w_2634 w_2636 w_169 w_217 w_2637 (by decide +kernel) h1 h2 h3
theorem g_X12_517 (Cx : sC G p m c cc nL s args RX12) (hW : sW G n S H) {k : Nat} (hk : k < n) (ht : tau k = .inl 12) {v : Int} (hv : S.1 k 70 = v) (hdg : decode cc pc = .ok (.getfield 517, 3)) (kk : W p l e R s m args below meth c H locs cells slots Q (F0 m (pc + 3) ls (.int (iv v) :: rest))) : W p l e R s m args below meth c H locs cells slots Q (F0 m pc ls (.ref (G.2.2.1 + k) :: rest)) :=
  sGet Cx inX12 rfl 70 (by decide) w_2031 hW hk ht (congrArg (fun z => Value.int (iv z)) hv) hdg kk
theorem c_X12_568 (Cx : sC G p m c cc nL s args RX12) {rm : Room} {mc ms : Nat} (h1 : rm.cells = mc) (h2 : rm.slots = ms) (h3 : rm.frames + 1 ≤ R.frames ∧ 8 + (8 + 11) + rm.locals ≤ R.locals) : CallW R s args RX12 RX12 568 yX12_pivot cX12_pivot 8 (some .boolean) (.code yX12_pivot cX12_pivot 8 (some .boolean) :: tb) rm mc ms 2 :=
  sCw Cx 2 w_2680 w_2682 w_179 w_217 w_2683 (by decide +kernel) h1 h2 h3
theorem g_X12_496 (Cx : sC G p m c cc nL s args RX12) (hW : sW G n S H) {k : Nat} (hk : k < n) (ht : tau k = .inl 12) {v : Int} (hv : S.1 k 64 = v) (hdg : decode cc pc = .ok (.getfield 496, 3)) (kk : W p l e R s m args below meth c H locs cells slots Q (F0 m (pc + 3) ls (.int (iv v) :: rest))) : W p l e R s m args below meth c H locs cells slots Q (F0 m pc ls (.ref (G.2.2.1 + k) :: rest)) :=
  sGet Cx inX12 rfl 64 (by decide) w_2025 hW hk ht (congrArg (fun z => Value.int (iv z)) hv) hdg kk
theorem c_X12_565 (Cx : sC G p m c cc nL s args RX12) {rm : Room} {mc ms : Nat} (h1 : rm.cells = mc) (h2 : rm.slots = ms) (h3 : rm.frames + 1 ≤ R.frames ∧ 8 + (3 + 11) + rm.locals ≤ R.locals) : CallW R s args RX12 RX12 565 yX12_goOn cX12_goOn 3 none (.code yX12_goOn cX12_goOn 3 none :: tb) rm mc ms 0 :=
  sCw Cx 0 w_2501 w_2503 w_145 w_217 w_2504 (by decide +kernel) h1 h2 h3
end RW68
