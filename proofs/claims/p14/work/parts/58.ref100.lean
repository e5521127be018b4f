theorem dX12_across_0 : decode cX12_across 0 = .ok (.aload_n 0, 1) := by decide +kernel
theorem dX12_across_1 : decode cX12_across 1 = .ok (.getfield 103, 3) := by decide +kernel
theorem dX12_across_4 : decode cX12_across 4 = .ok (.iload 6, 2) := by decide +kernel
theorem dX12_across_6 : decode cX12_across 6 = .ok (.aload_n 0, 1) := by decide +kernel
theorem dX12_across_7 : decode cX12_across 7 = .ok (.getfield 103, 3) := by decide +kernel
theorem dX12_across_10 : decode cX12_across 10 = .ok (.iload 5, 2) := by decide +kernel
theorem dX12_across_12 : decode cX12_across 12 = .ok (.aload_n 0, 1) := by decide +kernel
theorem dX12_across_13 : decode cX12_across 13 = .ok (.getfield 26, 3) := by decide +kernel
theorem dX12_across_16 : decode cX12_across 16 = .ok (.iconst 0, 1) := by decide +kernel
theorem dX12_across_17 : decode cX12_across 17 = .ok (.invokestatic 548, 3) := by decide +kernel
theorem dX12_across_20 : decode cX12_across 20 = .ok (.aload_n 0, 1) := by decide +kernel
theorem dX12_across_21 : decode cX12_across 21 = .ok (.getfield 103, 3) := by decide +kernel
theorem dX12_across_24 : decode cX12_across 24 = .ok (.aload_n 0, 1) := by decide +kernel
theorem dX12_across_25 : decode cX12_across 25 = .ok (.iload_n 1, 1) := by decide +kernel
theorem dX12_across_26 : decode cX12_across 26 = .ok (.iload 4, 2) := by decide +kernel
theorem dX12_across_28 : decode cX12_across 28 = .ok (.invokevirtual 529, 3) := by decide +kernel
theorem dX12_across_31 : decode cX12_across 31 = .ok (.aload_n 0, 1) := by decide +kernel
theorem dX12_across_32 : decode cX12_across 32 = .ok (.getfield 103, 3) := by decide +kernel
theorem dX12_across_35 : decode cX12_across 35 = .ok (.aload_n 0, 1) := by decide +kernel
theorem dX12_across_36 : decode cX12_across 36 = .ok (.iload_n 3, 1) := by decide +kernel
theorem dX12_across_37 : decode cX12_across 37 = .ok (.iconst 1, 1) := by decide +kernel
theorem dX12_across_38 : decode cX12_across 38 = .ok (.iadd, 1) := by decide +kernel
theorem dX12_across_39 : decode cX12_across 39 = .ok (.iload_n 2, 1) := by decide +kernel
theorem dX12_across_40 : decode cX12_across 40 = .ok (.invokevirtual 529, 3) := by decide +kernel
theorem dX12_across_43 : decode cX12_across 43 = .ok (.aload_n 0, 1) := by decide +kernel
theorem dX12_across_44 : decode cX12_across 44 = .ok (.getfield 29, 3) := by decide +kernel
theorem dX12_across_47 : decode cX12_across 47 = .ok (.iconst 0, 1) := by decide +kernel
theorem dX12_across_48 : decode cX12_across 48 = .ok (.invokestatic 548, 3) := by decide +kernel
theorem dX12_across_51 : decode cX12_across 51 = .ok (.aload_n 0, 1) := by decide +kernel
theorem dX12_across_52 : decode cX12_across 52 = .ok (.getfield 26, 3) := by decide +kernel
theorem dX12_across_55 : decode cX12_across 55 = .ok (.iconst 0, 1) := by decide +kernel
theorem dX12_across_56 : decode cX12_across 56 = .ok (.aload_n 0, 1) := by decide +kernel
theorem dX12_across_57 : decode cX12_across 57 = .ok (.getfield 29, 3) := by decide +kernel
theorem dX12_across_60 : decode cX12_across 60 = .ok (.iconst 0, 1) := by decide +kernel
theorem dX12_across_61 : decode cX12_across 61 = .ok (.iconst 1, 1) := by decide +kernel
theorem dX12_across_62 : decode cX12_across 62 = .ok (.aload_n 0, 1) := by decide +kernel
theorem dX12_across_63 : decode cX12_across 63 = .ok (.getfield 26, 3) := by decide +kernel
theorem dX12_across_66 : decode cX12_across 66 = .ok (.iconst 0, 1) := by decide +kernel
theorem dX12_across_67 : decode cX12_across 67 = .ok (.invokestatic 249, 3) := by decide +kernel
theorem dX12_across_70 : decode cX12_across 70 = .ok (.aload_n 0, 1) := by decide +kernel
theorem dX12_across_71 : decode cX12_across 71 = .ok (.aload_n 0, 1) := by decide +kernel
theorem dX12_across_72 : decode cX12_across 72 = .ok (.getfield 26, 3) := by decide +kernel
theorem dX12_across_75 : decode cX12_across 75 = .ok (.iconst 0, 1) := by decide +kernel
theorem dX12_across_76 : decode cX12_across 76 = .ok (.aload_n 0, 1) := by decide +kernel
theorem dX12_across_77 : decode cX12_across 77 = .ok (.getfield 109, 3) := by decide +kernel
theorem dX12_across_80 : decode cX12_across 80 = .ok (.iconst 0, 1) := by decide +kernel
theorem dX12_across_81 : decode cX12_across 81 = .ok (.aload_n 0, 1) := by decide +kernel
theorem dX12_across_82 : decode cX12_across 82 = .ok (.getfield 32, 3) := by decide +kernel
theorem dX12_across_85 : decode cX12_across 85 = .ok (.iconst 0, 1) := by decide +kernel
theorem dX12_across_86 : decode cX12_across 86 = .ok (.aload_n 0, 1) := by decide +kernel
theorem dX12_across_87 : decode cX12_across 87 = .ok (.getfield 35, 3) := by decide +kernel
theorem dX12_across_90 : decode cX12_across 90 = .ok (.iconst 0, 1) := by decide +kernel
theorem dX12_across_91 : decode cX12_across 91 = .ok (.invokevirtual 266, 3) := by decide +kernel
theorem dX12_across_94 : decode cX12_across 94 = .ok (.aload_n 0, 1) := by decide +kernel
theorem dX12_across_95 : decode cX12_across 95 = .ok (.getfield 32, 3) := by decide +kernel
theorem dX12_across_98 : decode cX12_across 98 = .ok (.iconst 0, 1) := by decide +kernel
theorem dX12_across_99 : decode cX12_across 99 = .ok (.invokestatic 221, 3) := by decide +kernel
theorem dX12_across_102 : decode cX12_across 102 = .ok (.bipush 6, 2) := by decide +kernel
theorem dX12_across_104 : decode cX12_across 104 = .ok (.if_icmp .le 5, 3) := by decide +kernel
theorem dX12_across_107 : decode cX12_across 107 = .ok (.iconst 0, 1) := by decide +kernel
theorem dX12_across_108 : decode cX12_across 108 = .ok (.ireturn, 1) := by decide +kernel
theorem dX12_across_109 : decode cX12_across 109 = .ok (.aload_n 0, 1) := by decide +kernel
theorem dX12_across_110 : decode cX12_across 110 = .ok (.getfield 32, 3) := by decide +kernel
theorem dX12_across_113 : decode cX12_across 113 = .ok (.iconst 0, 1) := by decide +kernel
theorem dX12_across_114 : decode cX12_across 114 = .ok (.aload_n 0, 1) := by decide +kernel
theorem dX12_across_115 : decode cX12_across 115 = .ok (.getfield 106, 3) := by decide +kernel
theorem dX12_across_118 : decode cX12_across 118 = .ok (.iload 6, 2) := by decide +kernel
theorem dX12_across_120 : decode cX12_across 120 = .ok (.invokestatic 233, 3) := by decide +kernel
theorem dX12_across_123 : decode cX12_across 123 = .ok (.iload 7, 2) := by decide +kernel
theorem dX12_across_125 : decode cX12_across 125 = .ok (.ifCond .eq 12, 3) := by decide +kernel
theorem dX12_across_128 : decode cX12_across 128 = .ok (.aload_n 0, 1) := by decide +kernel
theorem dX12_across_129 : decode cX12_across 129 = .ok (.getfield 106, 3) := by decide +kernel
theorem dX12_across_132 : decode cX12_across 132 = .ok (.iload 6, 2) := by decide +kernel
theorem dX12_across_134 : decode cX12_across 134 = .ok (.invokestatic 540, 3) := by decide +kernel
theorem dX12_across_137 : decode cX12_across 137 = .ok (.iconst 1, 1) := by decide +kernel
theorem dX12_across_138 : decode cX12_across 138 = .ok (.ireturn, 1) := by decide +kernel
theorem dX12_pivot_0 : decode cX12_pivot 0 = .ok (.aload_n 0, 1) := by decide +kernel
theorem dX12_pivot_1 : decode cX12_pivot 1 = .ok (.iload_n 1, 1) := by decide +kernel
theorem dX12_pivot_2 : decode cX12_pivot 2 = .ok (.iconst 1, 1) := by decide +kernel
theorem dX12_pivot_3 : decode cX12_pivot 3 = .ok (.iadd, 1) := by decide +kernel
theorem dX12_pivot_4 : decode cX12_pivot 4 = .ok (.iload_n 2, 1) := by decide +kernel
theorem dX12_pivot_5 : decode cX12_pivot 5 = .ok (.invokevirtual 529, 3) := by decide +kernel
theorem dX12_pivot_8 : decode cX12_pivot 8 = .ok (.istore_n 3, 1) := by decide +kernel
theorem dX12_pivot_9 : decode cX12_pivot 9 = .ok (.aload_n 0, 1) := by decide +kernel
theorem dX12_pivot_10 : decode cX12_pivot 10 = .ok (.getfield 103, 3) := by decide +kernel
theorem dX12_pivot_13 : decode cX12_pivot 13 = .ok (.iload_n 3, 1) := by decide +kernel
theorem dX12_pivot_14 : decode cX12_pivot 14 = .ok (.iaload, 1) := by decide +kernel
theorem dX12_pivot_15 : decode cX12_pivot 15 = .ok (.ifCond .ge 7, 3) := by decide +kernel
theorem dX12_pivot_18 : decode cX12_pivot 18 = .ok (.iconst 1, 1) := by decide +kernel
theorem dX12_pivot_19 : decode cX12_pivot 19 = .ok (.goto 4, 3) := by decide +kernel
theorem dX12_pivot_22 : decode cX12_pivot 22 = .ok (.iconst 0, 1) := by decide +kernel
theorem dX12_pivot_23 : decode cX12_pivot 23 = .ok (.istore 4, 2) := by decide +kernel
theorem dX12_pivot_25 : decode cX12_pivot 25 = .ok (.iconst 0, 1) := by decide +kernel
theorem dX12_pivot_26 : decode cX12_pivot 26 = .ok (.istore 5, 2) := by decide +kernel
theorem dX12_pivot_28 : decode cX12_pivot 28 = .ok (.iload 5, 2) := by decide +kernel
theorem dX12_pivot_30 : decode cX12_pivot 30 = .ok (.aload_n 0, 1) := by decide +kernel
theorem dX12_pivot_31 : decode cX12_pivot 31 = .ok (.getfield 483, 3) := by decide +kernel
theorem dX12_pivot_34 : decode cX12_pivot 34 = .ok (.iconst 1, 1) := by decide +kernel
theorem dX12_pivot_35 : decode cX12_pivot 35 = .ok (.iadd, 1) := by decide +kernel
theorem dX12_pivot_36 : decode cX12_pivot 36 = .ok (.if_icmp .gt 196, 3) := by decide +kernel
theorem dX12_pivot_39 : decode cX12_pivot 39 = .ok (.iload 5, 2) := by decide +kernel
theorem dX12_pivot_41 : decode cX12_pivot 41 = .ok (.iconst 1, 1) := by decide +kernel
theorem dX12_pivot_42 : decode cX12_pivot 42 = .ok (.if_icmp .ne 13, 3) := by decide +kernel
theorem dX12_pivot_45 : decode cX12_pivot 45 = .ok (.aload_n 0, 1) := by decide +kernel
theorem dX12_pivot_46 : decode cX12_pivot 46 = .ok (.getfield 535, 3) := by decide +kernel
theorem dX12_pivot_49 : decode cX12_pivot 49 = .ok (.ifCond .ne 6, 3) := by decide +kernel
theorem dX12_pivot_52 : decode cX12_pivot 52 = .ok (.goto 174, 3) := by decide +kernel
theorem dX12_pivot_55 : decode cX12_pivot 55 = .ok (.iconst 0, 1) := by decide +kernel
theorem dX12_pivot_56 : decode cX12_pivot 56 = .ok (.istore 6, 2) := by decide +kernel
theorem dX12_pivot_58 : decode cX12_pivot 58 = .ok (.iload 6, 2) := by decide +kernel
theorem dX12_pivot_60 : decode cX12_pivot 60 = .ok (.aload_n 0, 1) := by decide +kernel
theorem dX12_pivot_61 : decode cX12_pivot 61 = .ok (.getfield 526, 3) := by decide +kernel
theorem dX12_pivot_64 : decode cX12_pivot 64 = .ok (.if_icmp .gt 162, 3) := by decide +kernel
theorem dX12_pivot_67 : decode cX12_pivot 67 = .ok (.aload_n 0, 1) := by decide +kernel
theorem dX12_pivot_68 : decode cX12_pivot 68 = .ok (.iload 5, 2) := by decide +kernel
theorem dX12_pivot_70 : decode cX12_pivot 70 = .ok (.iload 6, 2) := by decide +kernel
theorem dX12_pivot_72 : decode cX12_pivot 72 = .ok (.invokevirtual 529, 3) := by decide +kernel
theorem dX12_pivot_75 : decode cX12_pivot 75 = .ok (.istore 7, 2) := by decide +kernel
theorem dX12_pivot_77 : decode cX12_pivot 77 = .ok (.iload 5, 2) := by decide +kernel
theorem dX12_pivot_79 : decode cX12_pivot 79 = .ok (.iload_n 1, 1) := by decide +kernel
theorem dX12_pivot_80 : decode cX12_pivot 80 = .ok (.iconst 1, 1) := by decide +kernel
theorem dX12_pivot_81 : decode cX12_pivot 81 = .ok (.iadd, 1) := by decide +kernel
theorem dX12_pivot_82 : decode cX12_pivot 82 = .ok (.if_icmp .ne 40, 3) := by decide +kernel
theorem dX12_pivot_85 : decode cX12_pivot 85 = .ok (.iload 6, 2) := by decide +kernel
theorem dX12_pivot_87 : decode cX12_pivot 87 = .ok (.iload_n 2, 1) := by decide +kernel
theorem dX12_pivot_88 : decode cX12_pivot 88 = .ok (.if_icmp .ne 34, 3) := by decide +kernel
theorem dX12_pivot_91 : decode cX12_pivot 91 = .ok (.aload_n 0, 1) := by decide +kernel
theorem dX12_pivot_92 : decode cX12_pivot 92 = .ok (.getfield 109, 3) := by decide +kernel
theorem dX12_pivot_95 : decode cX12_pivot 95 = .ok (.iconst 0, 1) := by decide +kernel
theorem dX12_pivot_96 : decode cX12_pivot 96 = .ok (.aload_n 0, 1) := by decide +kernel
theorem dX12_pivot_97 : decode cX12_pivot 97 = .ok (.getfield 106, 3) := by decide +kernel
theorem dX12_pivot_100 : decode cX12_pivot 100 = .ok (.iload 7, 2) := by decide +kernel
theorem dX12_pivot_102 : decode cX12_pivot 102 = .ok (.invokestatic 233, 3) := by decide +kernel
theorem dX12_pivot_105 : decode cX12_pivot 105 = .ok (.iload 4, 2) := by decide +kernel
theorem dX12_pivot_107 : decode cX12_pivot 107 = .ok (.ifCond .eq 113, 3) := by decide +kernel
theorem dX12_pivot_110 : decode cX12_pivot 110 = .ok (.aload_n 0, 1) := by decide +kernel
theorem dX12_pivot_111 : decode cX12_pivot 111 = .ok (.getfield 106, 3) := by decide +kernel
theorem dX12_pivot_114 : decode cX12_pivot 114 = .ok (.iload 7, 2) := by decide +kernel
theorem dX12_pivot_116 : decode cX12_pivot 116 = .ok (.invokestatic 540, 3) := by decide +kernel
theorem dX12_pivot_119 : decode cX12_pivot 119 = .ok (.goto 101, 3) := by decide +kernel
theorem dX12_pivot_122 : decode cX12_pivot 122 = .ok (.iload 5, 2) := by decide +kernel
theorem dX12_pivot_124 : decode cX12_pivot 124 = .ok (.iload_n 1, 1) := by decide +kernel
theorem dX12_pivot_125 : decode cX12_pivot 125 = .ok (.iconst 1, 1) := by decide +kernel
theorem dX12_pivot_126 : decode cX12_pivot 126 = .ok (.iadd, 1) := by decide +kernel
theorem dX12_pivot_127 : decode cX12_pivot 127 = .ok (.if_icmp .ne 35, 3) := by decide +kernel
theorem dX12_pivot_130 : decode cX12_pivot 130 = .ok (.aload_n 0, 1) := by decide +kernel
theorem dX12_pivot_131 : decode cX12_pivot 131 = .ok (.getfield 103, 3) := by decide +kernel
theorem dX12_pivot_134 : decode cX12_pivot 134 = .ok (.iload 7, 2) := by decide +kernel
theorem dX12_pivot_136 : decode cX12_pivot 136 = .ok (.aload_n 0, 1) := by decide +kernel
theorem dX12_pivot_137 : decode cX12_pivot 137 = .ok (.getfield 106, 3) := by decide +kernel
theorem dX12_pivot_140 : decode cX12_pivot 140 = .ok (.iload 7, 2) := by decide +kernel
theorem dX12_pivot_142 : decode cX12_pivot 142 = .ok (.invokestatic 233, 3) := by decide +kernel
theorem dX12_pivot_145 : decode cX12_pivot 145 = .ok (.iload 4, 2) := by decide +kernel
theorem dX12_pivot_147 : decode cX12_pivot 147 = .ok (.ifCond .eq 73, 3) := by decide +kernel
theorem dX12_pivot_150 : decode cX12_pivot 150 = .ok (.aload_n 0, 1) := by decide +kernel
theorem dX12_pivot_151 : decode cX12_pivot 151 = .ok (.getfield 106, 3) := by decide +kernel
theorem dX12_pivot_154 : decode cX12_pivot 154 = .ok (.iload 7, 2) := by decide +kernel
theorem dX12_pivot_156 : decode cX12_pivot 156 = .ok (.invokestatic 540, 3) := by decide +kernel
theorem dX12_pivot_159 : decode cX12_pivot 159 = .ok (.goto 61, 3) := by decide +kernel
theorem dX12_pivot_162 : decode cX12_pivot 162 = .ok (.iload 6, 2) := by decide +kernel
theorem dX12_pivot_164 : decode cX12_pivot 164 = .ok (.iload_n 2, 1) := by decide +kernel
theorem dX12_pivot_165 : decode cX12_pivot 165 = .ok (.if_icmp .ne 35, 3) := by decide +kernel
theorem dX12_pivot_168 : decode cX12_pivot 168 = .ok (.aload_n 0, 1) := by decide +kernel
theorem dX12_pivot_169 : decode cX12_pivot 169 = .ok (.getfield 103, 3) := by decide +kernel
theorem dX12_pivot_172 : decode cX12_pivot 172 = .ok (.iload 7, 2) := by decide +kernel
theorem dX12_pivot_174 : decode cX12_pivot 174 = .ok (.aload_n 0, 1) := by decide +kernel
theorem dX12_pivot_175 : decode cX12_pivot 175 = .ok (.getfield 106, 3) := by decide +kernel
theorem dX12_pivot_178 : decode cX12_pivot 178 = .ok (.iload 7, 2) := by decide +kernel
theorem dX12_pivot_180 : decode cX12_pivot 180 = .ok (.invokestatic 233, 3) := by decide +kernel
theorem dX12_pivot_183 : decode cX12_pivot 183 = .ok (.iload 4, 2) := by decide +kernel
theorem dX12_pivot_185 : decode cX12_pivot 185 = .ok (.ifCond .ne 35, 3) := by decide +kernel
theorem dX12_pivot_188 : decode cX12_pivot 188 = .ok (.aload_n 0, 1) := by decide +kernel
theorem dX12_pivot_189 : decode cX12_pivot 189 = .ok (.getfield 106, 3) := by decide +kernel
theorem dX12_pivot_192 : decode cX12_pivot 192 = .ok (.iload 7, 2) := by decide +kernel
theorem dX12_pivot_194 : decode cX12_pivot 194 = .ok (.invokestatic 540, 3) := by decide +kernel
theorem dX12_pivot_197 : decode cX12_pivot 197 = .ok (.goto 23, 3) := by decide +kernel
theorem dX12_pivot_200 : decode cX12_pivot 200 = .ok (.aload_n 0, 1) := by decide +kernel
theorem dX12_pivot_201 : decode cX12_pivot 201 = .ok (.iload 5, 2) := by decide +kernel
theorem dX12_pivot_203 : decode cX12_pivot 203 = .ok (.iload 6, 2) := by decide +kernel
theorem dX12_pivot_205 : decode cX12_pivot 205 = .ok (.iload_n 1, 1) := by decide +kernel
theorem dX12_pivot_206 : decode cX12_pivot 206 = .ok (.iload_n 2, 1) := by decide +kernel
theorem dX12_pivot_207 : decode cX12_pivot 207 = .ok (.iload_n 3, 1) := by decide +kernel
theorem dX12_pivot_208 : decode cX12_pivot 208 = .ok (.iload 7, 2) := by decide +kernel
theorem dX12_pivot_210 : decode cX12_pivot 210 = .ok (.iload 4, 2) := by decide +kernel
theorem dX12_pivot_212 : decode cX12_pivot 212 = .ok (.invokevirtual 544, 3) := by decide +kernel
theorem dX12_pivot_215 : decode cX12_pivot 215 = .ok (.ifCond .ne 5, 3) := by decide +kernel
theorem dX12_pivot_218 : decode cX12_pivot 218 = .ok (.iconst 0, 1) := by decide +kernel
theorem dX12_pivot_219 : decode cX12_pivot 219 = .ok (.ireturn, 1) := by decide +kernel
theorem dX12_pivot_220 : decode cX12_pivot 220 = .ok (.iinc 6 1, 3) := by decide +kernel
theorem dX12_pivot_223 : decode cX12_pivot 223 = .ok (.goto (-165), 3) := by decide +kernel
theorem dX12_pivot_226 : decode cX12_pivot 226 = .ok (.iinc 5 1, 3) := by decide +kernel
theorem dX12_pivot_229 : decode cX12_pivot 229 = .ok (.goto (-201), 3) := by decide +kernel
theorem dX12_pivot_232 : decode cX12_pivot 232 = .ok (.aload_n 0, 1) := by decide +kernel
theorem dX12_pivot_233 : decode cX12_pivot 233 = .ok (.getfield 103, 3) := by decide +kernel
theorem dX12_pivot_236 : decode cX12_pivot 236 = .ok (.iload_n 3, 1) := by decide +kernel
theorem dX12_pivot_237 : decode cX12_pivot 237 = .ok (.aload_n 0, 1) := by decide +kernel
theorem dX12_pivot_238 : decode cX12_pivot 238 = .ok (.getfield 109, 3) := by decide +kernel
theorem dX12_pivot_241 : decode cX12_pivot 241 = .ok (.iconst 0, 1) := by decide +kernel
theorem dX12_pivot_242 : decode cX12_pivot 242 = .ok (.invokestatic 233, 3) := by decide +kernel
theorem dX12_pivot_245 : decode cX12_pivot 245 = .ok (.iload 4, 2) := by decide +kernel
theorem dX12_pivot_247 : decode cX12_pivot 247 = .ok (.ifCond .eq 11, 3) := by decide +kernel
theorem dX12_pivot_250 : decode cX12_pivot 250 = .ok (.aload_n 0, 1) := by decide +kernel
theorem dX12_pivot_251 : decode cX12_pivot 251 = .ok (.getfield 109, 3) := by decide +kernel
theorem dX12_pivot_254 : decode cX12_pivot 254 = .ok (.iconst 0, 1) := by decide +kernel
theorem dX12_pivot_255 : decode cX12_pivot 255 = .ok (.invokestatic 540, 3) := by decide +kernel
theorem dX12_pivot_258 : decode cX12_pivot 258 = .ok (.iconst 0, 1) := by decide +kernel
theorem dX12_pivot_259 : decode cX12_pivot 259 = .ok (.istore 5, 2) := by decide +kernel
theorem dX12_pivot_261 : decode cX12_pivot 261 = .ok (.iload 5, 2) := by decide +kernel
theorem dX12_pivot_263 : decode cX12_pivot 263 = .ok (.aload_n 0, 1) := by decide +kernel
theorem dX12_pivot_264 : decode cX12_pivot 264 = .ok (.getfield 483, 3) := by decide +kernel
theorem dX12_pivot_267 : decode cX12_pivot 267 = .ok (.iconst 1, 1) := by decide +kernel
theorem dX12_pivot_268 : decode cX12_pivot 268 = .ok (.iadd, 1) := by decide +kernel
theorem dX12_pivot_269 : decode cX12_pivot 269 = .ok (.if_icmp .gt 70, 3) := by decide +kernel
theorem dX12_pivot_272 : decode cX12_pivot 272 = .ok (.iload 5, 2) := by decide +kernel
theorem dX12_pivot_274 : decode cX12_pivot 274 = .ok (.iconst 1, 1) := by decide +kernel
theorem dX12_pivot_275 : decode cX12_pivot 275 = .ok (.if_icmp .ne 13, 3) := by decide +kernel
theorem dX12_pivot_278 : decode cX12_pivot 278 = .ok (.aload_n 0, 1) := by decide +kernel
theorem dX12_pivot_279 : decode cX12_pivot 279 = .ok (.getfield 535, 3) := by decide +kernel
theorem dX12_pivot_282 : decode cX12_pivot 282 = .ok (.ifCond .ne 6, 3) := by decide +kernel
theorem dX12_pivot_285 : decode cX12_pivot 285 = .ok (.goto 48, 3) := by decide +kernel
theorem dX12_pivot_288 : decode cX12_pivot 288 = .ok (.iconst 0, 1) := by decide +kernel
theorem dX12_pivot_289 : decode cX12_pivot 289 = .ok (.istore 6, 2) := by decide +kernel
theorem dX12_pivot_291 : decode cX12_pivot 291 = .ok (.iload 6, 2) := by decide +kernel
theorem dX12_pivot_293 : decode cX12_pivot 293 = .ok (.aload_n 0, 1) := by decide +kernel
theorem dX12_pivot_294 : decode cX12_pivot 294 = .ok (.getfield 526, 3) := by decide +kernel
theorem dX12_pivot_297 : decode cX12_pivot 297 = .ok (.if_icmp .gt 36, 3) := by decide +kernel
theorem dX12_pivot_300 : decode cX12_pivot 300 = .ok (.aload_n 0, 1) := by decide +kernel
theorem dX12_pivot_301 : decode cX12_pivot 301 = .ok (.getfield 106, 3) := by decide +kernel
theorem dX12_pivot_304 : decode cX12_pivot 304 = .ok (.aload_n 0, 1) := by decide +kernel
theorem dX12_pivot_305 : decode cX12_pivot 305 = .ok (.iload 5, 2) := by decide +kernel
theorem dX12_pivot_307 : decode cX12_pivot 307 = .ok (.iload 6, 2) := by decide +kernel
theorem dX12_pivot_309 : decode cX12_pivot 309 = .ok (.invokevirtual 529, 3) := by decide +kernel
theorem dX12_pivot_312 : decode cX12_pivot 312 = .ok (.aload_n 0, 1) := by decide +kernel
theorem dX12_pivot_313 : decode cX12_pivot 313 = .ok (.getfield 103, 3) := by decide +kernel
theorem dX12_pivot_316 : decode cX12_pivot 316 = .ok (.aload_n 0, 1) := by decide +kernel
theorem dX12_pivot_317 : decode cX12_pivot 317 = .ok (.iload 5, 2) := by decide +kernel
theorem dX12_pivot_319 : decode cX12_pivot 319 = .ok (.iload 6, 2) := by decide +kernel
theorem dX12_pivot_321 : decode cX12_pivot 321 = .ok (.invokevirtual 529, 3) := by decide +kernel
theorem dX12_pivot_324 : decode cX12_pivot 324 = .ok (.invokestatic 233, 3) := by decide +kernel
theorem dX12_pivot_327 : decode cX12_pivot 327 = .ok (.iinc 6 1, 3) := by decide +kernel
theorem dX12_pivot_330 : decode cX12_pivot 330 = .ok (.goto (-39), 3) := by decide +kernel
theorem dX12_pivot_333 : decode cX12_pivot 333 = .ok (.iinc 5 1, 3) := by decide +kernel
theorem dX12_pivot_336 : decode cX12_pivot 336 = .ok (.goto (-75), 3) := by decide +kernel
theorem dX12_pivot_339 : decode cX12_pivot 339 = .ok (.aload_n 0, 1) := by decide +kernel
theorem dX12_pivot_340 : decode cX12_pivot 340 = .ok (.getfield 112, 3) := by decide +kernel
theorem dX12_pivot_343 : decode cX12_pivot 343 = .ok (.iload_n 1, 1) := by decide +kernel
theorem dX12_pivot_344 : decode cX12_pivot 344 = .ok (.iaload, 1) := by decide +kernel
theorem dX12_pivot_345 : decode cX12_pivot 345 = .ok (.istore 5, 2) := by decide +kernel
theorem dX12_pivot_347 : decode cX12_pivot 347 = .ok (.aload_n 0, 1) := by decide +kernel
theorem dX12_pivot_348 : decode cX12_pivot 348 = .ok (.getfield 112, 3) := by decide +kernel
theorem dX12_pivot_351 : decode cX12_pivot 351 = .ok (.iload_n 1, 1) := by decide +kernel
theorem dX12_pivot_352 : decode cX12_pivot 352 = .ok (.aload_n 0, 1) := by decide +kernel
theorem dX12_pivot_353 : decode cX12_pivot 353 = .ok (.getfield 115, 3) := by decide +kernel
theorem dX12_pivot_356 : decode cX12_pivot 356 = .ok (.iload_n 2, 1) := by decide +kernel
theorem dX12_pivot_357 : decode cX12_pivot 357 = .ok (.iaload, 1) := by decide +kernel
theorem dX12_pivot_358 : decode cX12_pivot 358 = .ok (.iastore, 1) := by decide +kernel
theorem dX12_pivot_359 : decode cX12_pivot 359 = .ok (.aload_n 0, 1) := by decide +kernel
theorem dX12_pivot_360 : decode cX12_pivot 360 = .ok (.getfield 115, 3) := by decide +kernel
theorem dX12_pivot_363 : decode cX12_pivot 363 = .ok (.iload_n 2, 1) := by decide +kernel
theorem dX12_pivot_364 : decode cX12_pivot 364 = .ok (.iload 5, 2) := by decide +kernel
theorem dX12_pivot_366 : decode cX12_pivot 366 = .ok (.iastore, 1) := by decide +kernel
theorem dX12_pivot_367 : decode cX12_pivot 367 = .ok (.iconst 1, 1) := by decide +kernel
theorem dX12_pivot_368 : decode cX12_pivot 368 = .ok (.ireturn, 1) := by decide +kernel
theorem w_180 : Cond.selects RX12 yX12_across yX12_across ∈ tb := sel_12 (q := (yX12_across, 105)) 4 (by decide +kernel)
theorem w_2015 : Cond.fieldLink RX12 106 (TX12 54).1 (TX12 54).2.1 (TX12 54).2.2.1 ∈ tb := tbc_8 132 (by decide +kernel) rfl
theorem w_2016 : Cond.fieldLink RX12 109 (TX12 55).1 (TX12 55).2.1 (TX12 55).2.2.1 ∈ tb := tbc_8 133 (by decide +kernel) rfl
theorem w_2021 : Cond.fieldLink RX12 535 (TX12 60).1 (TX12 60).2.1 (TX12 60).2.2.1 ∈ tb := tbc_8 138 (by decide +kernel) rfl
theorem w_2608 : Cond.methodLink RX12 540 yX12_negate ∈ tb := tbc_11 5 (by decide +kernel) rfl
theorem w_2609 : Cond.static yX12_negate ∈ tb := tbc_11 6 (by decide +kernel) rfl
theorem w_2610 : Cond.code yX12_negate cX12_negate 2 none ∈ tb := tbc_11 7 (by decide +kernel) rfl
theorem w_2684 : Cond.methodLink RX12 544 yX12_across ∈ tb := tbc_11 81 (by decide +kernel) rfl
theorem w_2686 : Cond.instanceMethod yX12_across ∈ tb := tbc_11 83 (by decide +kernel) rfl
theorem w_2687 : Cond.code yX12_across cX12_across 8 (some .boolean) ∈ tb := tbc_11 84 (by decide +kernel) rfl
section RW58
variable {p : Program} {l : Launch} {e : Env} {R : Room} {s : State} {m : MethodId} {args : Array Value} {below : List Frame} {meth : Method} {c : Code} {H : Heap} {locs : List Loc} {cells slots : Nat} {Q : State → Prop}
variable {cc : ByteArray} {pc nL : Nat} {ls : Array Slot} {rest st0 : List Value} {G : sG} {n : Nat} {S : sS}
theorem g_X12_109 (Cx : sC G p m c cc nL s args RX12) (hW : sW G n S H) {k : Nat} (hk : k < n) (ht : tau k = .inl 12) {v : Value} (hv : S.2.2.2 k 55 = v) (hdg : decode cc pc = .ok (.getfield 109, 3)) (kk : W p l e R s m args below meth c H locs cells slots Q (F0 m (pc + 3) ls (v :: rest))) : W p l e R s m args below meth c H locs cells slots Q (F0 m pc ls (.ref (G.2.2.1 + k) :: rest)) :=
  sGet Cx inX12 rfl 55 (by decide) w_2016 hW hk ht hv hdg kk
theorem g_X12_106 (Cx : sC G p m c cc nL s args RX12) (hW : sW G n S H) {k : Nat} (hk : k < n) (ht : tau k = .inl 12) {v : Value} (hv : S.2.2.2 k 54 = v) (hdg : decode cc pc = .ok (.getfield 106, 3)) (kk : W p l e R s m args below meth c H locs cells slots Q (F0 m (pc + 3) ls (v :: rest))) : W p l e R s m args below meth c H locs cells slots Q (F0 m pc ls (.ref (G.2.2.1 + k) :: rest)) :=
  sGet Cx inX12 rfl 54 (by decide) w_2015 hW hk ht hv hdg kk
theorem c_X12_540 (Cx : sC G p m c cc nL s args RX12) {rm : Room} {mc ms : Nat} (h1 : rm.cells = mc) (h2 : rm.slots = ms) (h3 : rm.frames + 1 ≤ R.frames ∧ 8 + (2 + 11) + rm.locals ≤ R.locals) : CallB R s args RX12 540 yX12_negate cX12_negate 2 none (.code yX12_negate cX12_negate 2 none :: tb) rm mc ms 2 ∧ (Cond.static yX12_negate).before args s = true :=
  sCS Cx 2 w_2608 w_2609 w_217 w_2610 (by decide +kernel) h1 h2 h3
theorem g_X12_535 (Cx : sC G p m c cc nL s args RX12) (hW : sW G n S H) {k : Nat} (hk : k < n) (ht : tau k = .inl 12) {v : Int} (hv : S.1 k 60 = v) (hdg : decode cc pc = .ok (.getfield 535, 3)) (kk : W p l e R s m args below meth c H locs cells slots Q (F0 m (pc + 3) ls (.int (iv v) :: rest))) : W p l e R s m args below meth c H locs cells slots Q (F0 m pc ls (.ref (G.2.2.1 + k) :: rest)) :=
  sGet Cx inX12 rfl 60 (by decide) w_2021 hW hk ht (congrArg (fun z => Value.int (iv z)) hv) hdg kk
theorem c_X12_544 (Cx : sC G p m c cc nL s args RX12) {rm : Room} {mc ms : Nat} (h1 : rm.cells = mc) (h2 : rm.slots = ms) (h3 : rm.frames + 1 ≤ R.frames ∧ 8 + (8 + 11) + rm.locals ≤ R.locals) : CallW R s args RX12 RX12 544 yX12_across cX12_across 8 (some .boolean) (.code yX12_across cX12_across 8 (some .boolean) :: tb) rm mc ms 7 :=
  sCw Cx 7 w_2684 w_2686 w_180 w_217 w_2687 (by decide +kernel) h1 h2 h3
end RW58
