theorem dX12_factorRead_0 : decode cX12_factorRead 0 = .ok (.aload_n 0, 1) := by decide +kernel
theorem dX12_factorRead_1 : decode cX12_factorRead 1 = .ok (.getfield 270, 3) := by decide +kernel
theorem dX12_factorRead_4 : decode cX12_factorRead 4 = .ok (.ifCond .eq 4, 3) := by decide +kernel
theorem dX12_factorRead_7 : decode cX12_factorRead 7 = .ok (.return_, 1) := by decide +kernel
theorem dX12_factorRead_8 : decode cX12_factorRead 8 = .ok (.iload_n 1, 1) := by decide +kernel
theorem dX12_factorRead_9 : decode cX12_factorRead 9 = .ok (.bipush 30, 2) := by decide +kernel
theorem dX12_factorRead_11 : decode cX12_factorRead 11 = .ok (.if_icmp .lt 13, 3) := by decide +kernel
theorem dX12_factorRead_14 : decode cX12_factorRead 14 = .ok (.aload_n 0, 1) := by decide +kernel
theorem dX12_factorRead_15 : decode cX12_factorRead 15 = .ok (.iconst 1, 1) := by decide +kernel
theorem dX12_factorRead_16 : decode cX12_factorRead 16 = .ok (.aload_n 0, 1) := by decide +kernel
theorem dX12_factorRead_17 : decode cX12_factorRead 17 = .ok (.getfield 315, 3) := by decide +kernel
theorem dX12_factorRead_20 : decode cX12_factorRead 20 = .ok (.invokevirtual 321, 3) := by decide +kernel
theorem dX12_factorRead_23 : decode cX12_factorRead 23 = .ok (.return_, 1) := by decide +kernel
theorem dX12_factorRead_24 : decode cX12_factorRead 24 = .ok (.aload_n 0, 1) := by decide +kernel
theorem dX12_factorRead_25 : decode cX12_factorRead 25 = .ok (.bipush 45, 2) := by decide +kernel
theorem dX12_factorRead_27 : decode cX12_factorRead 27 = .ok (.invokevirtual 318, 3) := by decide +kernel
theorem dX12_factorRead_30 : decode cX12_factorRead 30 = .ok (.ifCond .eq 23, 3) := by decide +kernel
theorem dX12_factorRead_33 : decode cX12_factorRead 33 = .ok (.aload_n 0, 1) := by decide +kernel
theorem dX12_factorRead_34 : decode cX12_factorRead 34 = .ok (.dup, 1) := by decide +kernel
theorem dX12_factorRead_35 : decode cX12_factorRead 35 = .ok (.getfield 315, 3) := by decide +kernel
theorem dX12_factorRead_38 : decode cX12_factorRead 38 = .ok (.iconst 1, 1) := by decide +kernel
theorem dX12_factorRead_39 : decode cX12_factorRead 39 = .ok (.iadd, 1) := by decide +kernel
theorem dX12_factorRead_40 : decode cX12_factorRead 40 = .ok (.putfield 315, 3) := by decide +kernel
theorem dX12_factorRead_43 : decode cX12_factorRead 43 = .ok (.aload_n 0, 1) := by decide +kernel
theorem dX12_factorRead_44 : decode cX12_factorRead 44 = .ok (.iload_n 1, 1) := by decide +kernel
theorem dX12_factorRead_45 : decode cX12_factorRead 45 = .ok (.iconst 1, 1) := by decide +kernel
theorem dX12_factorRead_46 : decode cX12_factorRead 46 = .ok (.iadd, 1) := by decide +kernel
theorem dX12_factorRead_47 : decode cX12_factorRead 47 = .ok (.invokevirtual 352, 3) := by decide +kernel
theorem dX12_factorRead_50 : decode cX12_factorRead 50 = .ok (.goto 216, 3) := by decide +kernel
theorem dX12_factorRead_53 : decode cX12_factorRead 53 = .ok (.aload_n 0, 1) := by decide +kernel
theorem dX12_factorRead_54 : decode cX12_factorRead 54 = .ok (.getfield 47, 3) := by decide +kernel
theorem dX12_factorRead_57 : decode cX12_factorRead 57 = .ok (.aload_n 0, 1) := by decide +kernel
theorem dX12_factorRead_58 : decode cX12_factorRead 58 = .ok (.getfield 315, 3) := by decide +kernel
theorem dX12_factorRead_61 : decode cX12_factorRead 61 = .ok (.iaload, 1) := by decide +kernel
theorem dX12_factorRead_62 : decode cX12_factorRead 62 = .ok (.iconst 2, 1) := by decide +kernel
theorem dX12_factorRead_63 : decode cX12_factorRead 63 = .ok (.if_icmp .ne 16, 3) := by decide +kernel
theorem dX12_factorRead_66 : decode cX12_factorRead 66 = .ok (.aload_n 0, 1) := by decide +kernel
theorem dX12_factorRead_67 : decode cX12_factorRead 67 = .ok (.dup, 1) := by decide +kernel
theorem dX12_factorRead_68 : decode cX12_factorRead 68 = .ok (.getfield 315, 3) := by decide +kernel
theorem dX12_factorRead_71 : decode cX12_factorRead 71 = .ok (.iconst 1, 1) := by decide +kernel
theorem dX12_factorRead_72 : decode cX12_factorRead 72 = .ok (.iadd, 1) := by decide +kernel
theorem dX12_factorRead_73 : decode cX12_factorRead 73 = .ok (.putfield 315, 3) := by decide +kernel
theorem dX12_factorRead_76 : decode cX12_factorRead 76 = .ok (.goto 190, 3) := by decide +kernel
theorem dX12_factorRead_79 : decode cX12_factorRead 79 = .ok (.aload_n 0, 1) := by decide +kernel
theorem dX12_factorRead_80 : decode cX12_factorRead 80 = .ok (.bipush 40, 2) := by decide +kernel
theorem dX12_factorRead_82 : decode cX12_factorRead 82 = .ok (.invokevirtual 318, 3) := by decide +kernel
theorem dX12_factorRead_85 : decode cX12_factorRead 85 = .ok (.ifCond .eq 29, 3) := by decide +kernel
theorem dX12_factorRead_88 : decode cX12_factorRead 88 = .ok (.aload_n 0, 1) := by decide +kernel
theorem dX12_factorRead_89 : decode cX12_factorRead 89 = .ok (.dup, 1) := by decide +kernel
theorem dX12_factorRead_90 : decode cX12_factorRead 90 = .ok (.getfield 315, 3) := by decide +kernel
theorem dX12_factorRead_93 : decode cX12_factorRead 93 = .ok (.iconst 1, 1) := by decide +kernel
theorem dX12_factorRead_94 : decode cX12_factorRead 94 = .ok (.iadd, 1) := by decide +kernel
theorem dX12_factorRead_95 : decode cX12_factorRead 95 = .ok (.putfield 315, 3) := by decide +kernel
theorem dX12_factorRead_98 : decode cX12_factorRead 98 = .ok (.aload_n 0, 1) := by decide +kernel
theorem dX12_factorRead_99 : decode cX12_factorRead 99 = .ok (.iload_n 1, 1) := by decide +kernel
theorem dX12_factorRead_100 : decode cX12_factorRead 100 = .ok (.iconst 1, 1) := by decide +kernel
theorem dX12_factorRead_101 : decode cX12_factorRead 101 = .ok (.iadd, 1) := by decide +kernel
theorem dX12_factorRead_102 : decode cX12_factorRead 102 = .ok (.invokevirtual 337, 3) := by decide +kernel
theorem dX12_factorRead_105 : decode cX12_factorRead 105 = .ok (.aload_n 0, 1) := by decide +kernel
theorem dX12_factorRead_106 : decode cX12_factorRead 106 = .ok (.bipush 41, 2) := by decide +kernel
theorem dX12_factorRead_108 : decode cX12_factorRead 108 = .ok (.invokevirtual 331, 3) := by decide +kernel
theorem dX12_factorRead_111 : decode cX12_factorRead 111 = .ok (.goto 155, 3) := by decide +kernel
theorem dX12_factorRead_114 : decode cX12_factorRead 114 = .ok (.aload_n 0, 1) := by decide +kernel
theorem dX12_factorRead_115 : decode cX12_factorRead 115 = .ok (.bipush 7, 2) := by decide +kernel
theorem dX12_factorRead_117 : decode cX12_factorRead 117 = .ok (.invokevirtual 325, 3) := by decide +kernel
theorem dX12_factorRead_120 : decode cX12_factorRead 120 = .ok (.ifCond .eq 51, 3) := by decide +kernel
theorem dX12_factorRead_123 : decode cX12_factorRead 123 = .ok (.aload_n 0, 1) := by decide +kernel
theorem dX12_factorRead_124 : decode cX12_factorRead 124 = .ok (.dup, 1) := by decide +kernel
theorem dX12_factorRead_125 : decode cX12_factorRead 125 = .ok (.getfield 315, 3) := by decide +kernel
theorem dX12_factorRead_128 : decode cX12_factorRead 128 = .ok (.iconst 1, 1) := by decide +kernel
theorem dX12_factorRead_129 : decode cX12_factorRead 129 = .ok (.iadd, 1) := by decide +kernel
theorem dX12_factorRead_130 : decode cX12_factorRead 130 = .ok (.putfield 315, 3) := by decide +kernel
theorem dX12_factorRead_133 : decode cX12_factorRead 133 = .ok (.aload_n 0, 1) := by decide +kernel
theorem dX12_factorRead_134 : decode cX12_factorRead 134 = .ok (.iconst 1, 1) := by decide +kernel
theorem dX12_factorRead_135 : decode cX12_factorRead 135 = .ok (.invokevirtual 328, 3) := by decide +kernel
theorem dX12_factorRead_138 : decode cX12_factorRead 138 = .ok (.aload_n 0, 1) := by decide +kernel
theorem dX12_factorRead_139 : decode cX12_factorRead 139 = .ok (.bipush 8, 2) := by decide +kernel
theorem dX12_factorRead_141 : decode cX12_factorRead 141 = .ok (.invokevirtual 340, 3) := by decide +kernel
theorem dX12_factorRead_144 : decode cX12_factorRead 144 = .ok (.aload_n 0, 1) := by decide +kernel
theorem dX12_factorRead_145 : decode cX12_factorRead 145 = .ok (.iconst 1, 1) := by decide +kernel
theorem dX12_factorRead_146 : decode cX12_factorRead 146 = .ok (.invokevirtual 328, 3) := by decide +kernel
theorem dX12_factorRead_149 : decode cX12_factorRead 149 = .ok (.aload_n 0, 1) := by decide +kernel
theorem dX12_factorRead_150 : decode cX12_factorRead 150 = .ok (.bipush 40, 2) := by decide +kernel
theorem dX12_factorRead_152 : decode cX12_factorRead 152 = .ok (.invokevirtual 331, 3) := by decide +kernel
theorem dX12_factorRead_155 : decode cX12_factorRead 155 = .ok (.aload_n 0, 1) := by decide +kernel
theorem dX12_factorRead_156 : decode cX12_factorRead 156 = .ok (.iload_n 1, 1) := by decide +kernel
theorem dX12_factorRead_157 : decode cX12_factorRead 157 = .ok (.iconst 1, 1) := by decide +kernel
theorem dX12_factorRead_158 : decode cX12_factorRead 158 = .ok (.iadd, 1) := by decide +kernel
theorem dX12_factorRead_159 : decode cX12_factorRead 159 = .ok (.invokevirtual 337, 3) := by decide +kernel
theorem dX12_factorRead_162 : decode cX12_factorRead 162 = .ok (.aload_n 0, 1) := by decide +kernel
theorem dX12_factorRead_163 : decode cX12_factorRead 163 = .ok (.bipush 41, 2) := by decide +kernel
theorem dX12_factorRead_165 : decode cX12_factorRead 165 = .ok (.invokevirtual 331, 3) := by decide +kernel
theorem dX12_factorRead_168 : decode cX12_factorRead 168 = .ok (.goto 98, 3) := by decide +kernel
theorem dX12_factorRead_171 : decode cX12_factorRead 171 = .ok (.aload_n 0, 1) := by decide +kernel
theorem dX12_factorRead_172 : decode cX12_factorRead 172 = .ok (.getfield 47, 3) := by decide +kernel
theorem dX12_factorRead_175 : decode cX12_factorRead 175 = .ok (.aload_n 0, 1) := by decide +kernel
theorem dX12_factorRead_176 : decode cX12_factorRead 176 = .ok (.getfield 315, 3) := by decide +kernel
theorem dX12_factorRead_179 : decode cX12_factorRead 179 = .ok (.iaload, 1) := by decide +kernel
theorem dX12_factorRead_180 : decode cX12_factorRead 180 = .ok (.iconst 1, 1) := by decide +kernel
theorem dX12_factorRead_181 : decode cX12_factorRead 181 = .ok (.if_icmp .ne 76, 3) := by decide +kernel
theorem dX12_factorRead_184 : decode cX12_factorRead 184 = .ok (.aload_n 0, 1) := by decide +kernel
theorem dX12_factorRead_185 : decode cX12_factorRead 185 = .ok (.dup, 1) := by decide +kernel
theorem dX12_factorRead_186 : decode cX12_factorRead 186 = .ok (.getfield 315, 3) := by decide +kernel
theorem dX12_factorRead_189 : decode cX12_factorRead 189 = .ok (.iconst 1, 1) := by decide +kernel
theorem dX12_factorRead_190 : decode cX12_factorRead 190 = .ok (.iadd, 1) := by decide +kernel
theorem dX12_factorRead_191 : decode cX12_factorRead 191 = .ok (.putfield 315, 3) := by decide +kernel
theorem dX12_factorRead_194 : decode cX12_factorRead 194 = .ok (.aload_n 0, 1) := by decide +kernel
theorem dX12_factorRead_195 : decode cX12_factorRead 195 = .ok (.bipush 91, 2) := by decide +kernel
theorem dX12_factorRead_197 : decode cX12_factorRead 197 = .ok (.invokevirtual 318, 3) := by decide +kernel
theorem dX12_factorRead_200 : decode cX12_factorRead 200 = .ok (.ifCond .ne 4, 3) := by decide +kernel
theorem dX12_factorRead_203 : decode cX12_factorRead 203 = .ok (.return_, 1) := by decide +kernel
theorem dX12_factorRead_204 : decode cX12_factorRead 204 = .ok (.aload_n 0, 1) := by decide +kernel
theorem dX12_factorRead_205 : decode cX12_factorRead 205 = .ok (.dup, 1) := by decide +kernel
theorem dX12_factorRead_206 : decode cX12_factorRead 206 = .ok (.getfield 315, 3) := by decide +kernel
theorem dX12_factorRead_209 : decode cX12_factorRead 209 = .ok (.iconst 1, 1) := by decide +kernel
theorem dX12_factorRead_210 : decode cX12_factorRead 210 = .ok (.iadd, 1) := by decide +kernel
theorem dX12_factorRead_211 : decode cX12_factorRead 211 = .ok (.putfield 315, 3) := by decide +kernel
theorem dX12_factorRead_214 : decode cX12_factorRead 214 = .ok (.aload_n 0, 1) := by decide +kernel
theorem dX12_factorRead_215 : decode cX12_factorRead 215 = .ok (.invokevirtual 355, 3) := by decide +kernel
theorem dX12_factorRead_218 : decode cX12_factorRead 218 = .ok (.aload_n 0, 1) := by decide +kernel
theorem dX12_factorRead_219 : decode cX12_factorRead 219 = .ok (.getfield 270, 3) := by decide +kernel
theorem dX12_factorRead_222 : decode cX12_factorRead 222 = .ok (.ifCond .ne 26, 3) := by decide +kernel
theorem dX12_factorRead_225 : decode cX12_factorRead 225 = .ok (.aload_n 0, 1) := by decide +kernel
theorem dX12_factorRead_226 : decode cX12_factorRead 226 = .ok (.bipush 44, 2) := by decide +kernel
theorem dX12_factorRead_228 : decode cX12_factorRead 228 = .ok (.invokevirtual 318, 3) := by decide +kernel
theorem dX12_factorRead_231 : decode cX12_factorRead 231 = .ok (.ifCond .eq 17, 3) := by decide +kernel
theorem dX12_factorRead_234 : decode cX12_factorRead 234 = .ok (.aload_n 0, 1) := by decide +kernel
theorem dX12_factorRead_235 : decode cX12_factorRead 235 = .ok (.dup, 1) := by decide +kernel
theorem dX12_factorRead_236 : decode cX12_factorRead 236 = .ok (.getfield 315, 3) := by decide +kernel
theorem dX12_factorRead_239 : decode cX12_factorRead 239 = .ok (.iconst 1, 1) := by decide +kernel
theorem dX12_factorRead_240 : decode cX12_factorRead 240 = .ok (.iadd, 1) := by decide +kernel
theorem dX12_factorRead_241 : decode cX12_factorRead 241 = .ok (.putfield 315, 3) := by decide +kernel
theorem dX12_factorRead_244 : decode cX12_factorRead 244 = .ok (.aload_n 0, 1) := by decide +kernel
theorem dX12_factorRead_245 : decode cX12_factorRead 245 = .ok (.invokevirtual 355, 3) := by decide +kernel
theorem dX12_factorRead_248 : decode cX12_factorRead 248 = .ok (.aload_n 0, 1) := by decide +kernel
theorem dX12_factorRead_249 : decode cX12_factorRead 249 = .ok (.bipush 93, 2) := by decide +kernel
theorem dX12_factorRead_251 : decode cX12_factorRead 251 = .ok (.invokevirtual 331, 3) := by decide +kernel
theorem dX12_factorRead_254 : decode cX12_factorRead 254 = .ok (.goto 12, 3) := by decide +kernel
theorem dX12_factorRead_257 : decode cX12_factorRead 257 = .ok (.aload_n 0, 1) := by decide +kernel
theorem dX12_factorRead_258 : decode cX12_factorRead 258 = .ok (.iconst 1, 1) := by decide +kernel
theorem dX12_factorRead_259 : decode cX12_factorRead 259 = .ok (.aload_n 0, 1) := by decide +kernel
theorem dX12_factorRead_260 : decode cX12_factorRead 260 = .ok (.getfield 315, 3) := by decide +kernel
theorem dX12_factorRead_263 : decode cX12_factorRead 263 = .ok (.invokevirtual 321, 3) := by decide +kernel
theorem dX12_factorRead_266 : decode cX12_factorRead 266 = .ok (.return_, 1) := by decide +kernel
theorem dX12_productRead_0 : decode cX12_productRead 0 = .ok (.aload_n 0, 1) := by decide +kernel
theorem dX12_productRead_1 : decode cX12_productRead 1 = .ok (.iload_n 1, 1) := by decide +kernel
theorem dX12_productRead_2 : decode cX12_productRead 2 = .ok (.invokevirtual 352, 3) := by decide +kernel
theorem dX12_productRead_5 : decode cX12_productRead 5 = .ok (.aload_n 0, 1) := by decide +kernel
theorem dX12_productRead_6 : decode cX12_productRead 6 = .ok (.getfield 270, 3) := by decide +kernel
theorem dX12_productRead_9 : decode cX12_productRead 9 = .ok (.ifCond .ne 30, 3) := by decide +kernel
theorem dX12_productRead_12 : decode cX12_productRead 12 = .ok (.aload_n 0, 1) := by decide +kernel
theorem dX12_productRead_13 : decode cX12_productRead 13 = .ok (.bipush 42, 2) := by decide +kernel
theorem dX12_productRead_15 : decode cX12_productRead 15 = .ok (.invokevirtual 318, 3) := by decide +kernel
theorem dX12_productRead_18 : decode cX12_productRead 18 = .ok (.ifCond .eq 21, 3) := by decide +kernel
theorem dX12_productRead_21 : decode cX12_productRead 21 = .ok (.aload_n 0, 1) := by decide +kernel
theorem dX12_productRead_22 : decode cX12_productRead 22 = .ok (.dup, 1) := by decide +kernel
theorem dX12_productRead_23 : decode cX12_productRead 23 = .ok (.getfield 315, 3) := by decide +kernel
theorem dX12_productRead_26 : decode cX12_productRead 26 = .ok (.iconst 1, 1) := by decide +kernel
theorem dX12_productRead_27 : decode cX12_productRead 27 = .ok (.iadd, 1) := by decide +kernel
theorem dX12_productRead_28 : decode cX12_productRead 28 = .ok (.putfield 315, 3) := by decide +kernel
theorem dX12_productRead_31 : decode cX12_productRead 31 = .ok (.aload_n 0, 1) := by decide +kernel
theorem dX12_productRead_32 : decode cX12_productRead 32 = .ok (.iload_n 1, 1) := by decide +kernel
theorem dX12_productRead_33 : decode cX12_productRead 33 = .ok (.invokevirtual 352, 3) := by decide +kernel
theorem dX12_productRead_36 : decode cX12_productRead 36 = .ok (.goto (-31), 3) := by decide +kernel
theorem dX12_productRead_39 : decode cX12_productRead 39 = .ok (.return_, 1) := by decide +kernel
theorem dX12_read_0 : decode cX12_read 0 = .ok (.aload_n 0, 1) := by decide +kernel
theorem dX12_read_1 : decode cX12_read 1 = .ok (.iconst 0, 1) := by decide +kernel
theorem dX12_read_2 : decode cX12_read 2 = .ok (.putfield 315, 3) := by decide +kernel
theorem dX12_read_5 : decode cX12_read 5 = .ok (.aload_n 0, 1) := by decide +kernel
theorem dX12_read_6 : decode cX12_read 6 = .ok (.getfield 270, 3) := by decide +kernel
theorem dX12_read_9 : decode cX12_read 9 = .ok (.ifCond .ne 34, 3) := by decide +kernel
theorem dX12_read_12 : decode cX12_read 12 = .ok (.aload_n 0, 1) := by decide +kernel
theorem dX12_read_13 : decode cX12_read 13 = .ok (.iconst 2, 1) := by decide +kernel
theorem dX12_read_14 : decode cX12_read 14 = .ok (.invokevirtual 325, 3) := by decide +kernel
theorem dX12_read_17 : decode cX12_read 17 = .ok (.ifCond .ne 19, 3) := by decide +kernel
theorem dX12_read_20 : decode cX12_read 20 = .ok (.aload_n 0, 1) := by decide +kernel
theorem dX12_read_21 : decode cX12_read 21 = .ok (.iconst 3, 1) := by decide +kernel
theorem dX12_read_22 : decode cX12_read 22 = .ok (.invokevirtual 325, 3) := by decide +kernel
theorem dX12_read_25 : decode cX12_read 25 = .ok (.ifCond .ne 11, 3) := by decide +kernel
theorem dX12_read_28 : decode cX12_read 28 = .ok (.aload_n 0, 1) := by decide +kernel
theorem dX12_read_29 : decode cX12_read 29 = .ok (.iconst 4, 1) := by decide +kernel
theorem dX12_read_30 : decode cX12_read 30 = .ok (.invokevirtual 325, 3) := by decide +kernel
theorem dX12_read_33 : decode cX12_read 33 = .ok (.ifCond .eq 10, 3) := by decide +kernel
theorem dX12_read_36 : decode cX12_read 36 = .ok (.aload_n 0, 1) := by decide +kernel
theorem dX12_read_37 : decode cX12_read 37 = .ok (.invokevirtual 334, 3) := by decide +kernel
theorem dX12_read_40 : decode cX12_read 40 = .ok (.goto (-35), 3) := by decide +kernel
theorem dX12_read_43 : decode cX12_read 43 = .ok (.aload_n 0, 1) := by decide +kernel
theorem dX12_read_44 : decode cX12_read 44 = .ok (.getfield 270, 3) := by decide +kernel
theorem dX12_read_47 : decode cX12_read 47 = .ok (.ifCond .ne 28, 3) := by decide +kernel
theorem dX12_read_50 : decode cX12_read 50 = .ok (.aload_n 0, 1) := by decide +kernel
theorem dX12_read_51 : decode cX12_read 51 = .ok (.iconst 0, 1) := by decide +kernel
theorem dX12_read_52 : decode cX12_read 52 = .ok (.invokevirtual 325, 3) := by decide +kernel
theorem dX12_read_55 : decode cX12_read 55 = .ok (.ifCond .ne 20, 3) := by decide +kernel
theorem dX12_read_58 : decode cX12_read 58 = .ok (.aload_n 0, 1) := by decide +kernel
theorem dX12_read_59 : decode cX12_read 59 = .ok (.iconst 1, 1) := by decide +kernel
theorem dX12_read_60 : decode cX12_read 60 = .ok (.invokevirtual 325, 3) := by decide +kernel
theorem dX12_read_63 : decode cX12_read 63 = .ok (.ifCond .ne 12, 3) := by decide +kernel
theorem dX12_read_66 : decode cX12_read 66 = .ok (.aload_n 0, 1) := by decide +kernel
theorem dX12_read_67 : decode cX12_read 67 = .ok (.iconst 1, 1) := by decide +kernel
theorem dX12_read_68 : decode cX12_read 68 = .ok (.aload_n 0, 1) := by decide +kernel
theorem dX12_read_69 : decode cX12_read 69 = .ok (.getfield 315, 3) := by decide +kernel
theorem dX12_read_72 : decode cX12_read 72 = .ok (.invokevirtual 321, 3) := by decide +kernel
theorem dX12_read_75 : decode cX12_read 75 = .ok (.aload_n 0, 1) := by decide +kernel
theorem dX12_read_76 : decode cX12_read 76 = .ok (.dup, 1) := by decide +kernel
theorem dX12_read_77 : decode cX12_read 77 = .ok (.getfield 315, 3) := by decide +kernel
theorem dX12_read_80 : decode cX12_read 80 = .ok (.iconst 1, 1) := by decide +kernel
theorem dX12_read_81 : decode cX12_read 81 = .ok (.iadd, 1) := by decide +kernel
theorem dX12_read_82 : decode cX12_read 82 = .ok (.putfield 315, 3) := by decide +kernel
theorem dX12_read_85 : decode cX12_read 85 = .ok (.aload_n 0, 1) := by decide +kernel
theorem dX12_read_86 : decode cX12_read 86 = .ok (.iconst 0, 1) := by decide +kernel
theorem dX12_read_87 : decode cX12_read 87 = .ok (.invokevirtual 337, 3) := by decide +kernel
theorem dX12_read_90 : decode cX12_read 90 = .ok (.aload_n 0, 1) := by decide +kernel
theorem dX12_read_91 : decode cX12_read 91 = .ok (.bipush 59, 2) := by decide +kernel
theorem dX12_read_93 : decode cX12_read 93 = .ok (.invokevirtual 331, 3) := by decide +kernel
theorem dX12_read_96 : decode cX12_read 96 = .ok (.aload_n 0, 1) := by decide +kernel
theorem dX12_read_97 : decode cX12_read 97 = .ok (.getfield 270, 3) := by decide +kernel
theorem dX12_read_100 : decode cX12_read 100 = .ok (.ifCond .ne 151, 3) := by decide +kernel
theorem dX12_read_103 : decode cX12_read 103 = .ok (.aload_n 0, 1) := by decide +kernel
theorem dX12_read_104 : decode cX12_read 104 = .ok (.bipush 6, 2) := by decide +kernel
theorem dX12_read_106 : decode cX12_read 106 = .ok (.invokevirtual 325, 3) := by decide +kernel
theorem dX12_read_109 : decode cX12_read 109 = .ok (.ifCond .eq 142, 3) := by decide +kernel
theorem dX12_read_112 : decode cX12_read 112 = .ok (.aload_n 0, 1) := by decide +kernel
theorem dX12_read_113 : decode cX12_read 113 = .ok (.dup, 1) := by decide +kernel
theorem dX12_read_114 : decode cX12_read 114 = .ok (.getfield 315, 3) := by decide +kernel
theorem dX12_read_117 : decode cX12_read 117 = .ok (.iconst 1, 1) := by decide +kernel
theorem dX12_read_118 : decode cX12_read 118 = .ok (.iadd, 1) := by decide +kernel
theorem dX12_read_119 : decode cX12_read 119 = .ok (.putfield 315, 3) := by decide +kernel
theorem dX12_read_122 : decode cX12_read 122 = .ok (.aload_n 0, 1) := by decide +kernel
theorem dX12_read_123 : decode cX12_read 123 = .ok (.iconst 1, 1) := by decide +kernel
theorem dX12_read_124 : decode cX12_read 124 = .ok (.invokevirtual 328, 3) := by decide +kernel
theorem dX12_read_127 : decode cX12_read 127 = .ok (.aload_n 0, 1) := by decide +kernel
theorem dX12_read_128 : decode cX12_read 128 = .ok (.getfield 270, 3) := by decide +kernel
theorem dX12_read_131 : decode cX12_read 131 = .ok (.ifCond .ne 44, 3) := by decide +kernel
theorem dX12_read_134 : decode cX12_read 134 = .ok (.aload_n 0, 1) := by decide +kernel
theorem dX12_read_135 : decode cX12_read 135 = .ok (.bipush 91, 2) := by decide +kernel
theorem dX12_read_137 : decode cX12_read 137 = .ok (.invokevirtual 318, 3) := by decide +kernel
theorem dX12_read_140 : decode cX12_read 140 = .ok (.ifCond .eq 35, 3) := by decide +kernel
theorem dX12_read_143 : decode cX12_read 143 = .ok (.aload_n 0, 1) := by decide +kernel
theorem dX12_read_144 : decode cX12_read 144 = .ok (.dup, 1) := by decide +kernel
theorem dX12_read_145 : decode cX12_read 145 = .ok (.getfield 315, 3) := by decide +kernel
theorem dX12_read_148 : decode cX12_read 148 = .ok (.iconst 1, 1) := by decide +kernel
theorem dX12_read_149 : decode cX12_read 149 = .ok (.iadd, 1) := by decide +kernel
theorem dX12_read_150 : decode cX12_read 150 = .ok (.putfield 315, 3) := by decide +kernel
theorem dX12_read_153 : decode cX12_read 153 = .ok (.aload_n 0, 1) := by decide +kernel
theorem dX12_read_154 : decode cX12_read 154 = .ok (.iconst 1, 1) := by decide +kernel
theorem dX12_read_155 : decode cX12_read 155 = .ok (.invokevirtual 328, 3) := by decide +kernel
theorem dX12_read_158 : decode cX12_read 158 = .ok (.aload_n 0, 1) := by decide +kernel
theorem dX12_read_159 : decode cX12_read 159 = .ok (.bipush 8, 2) := by decide +kernel
theorem dX12_read_161 : decode cX12_read 161 = .ok (.invokevirtual 340, 3) := by decide +kernel
theorem dX12_read_164 : decode cX12_read 164 = .ok (.aload_n 0, 1) := by decide +kernel
theorem dX12_read_165 : decode cX12_read 165 = .ok (.iconst 1, 1) := by decide +kernel
theorem dX12_read_166 : decode cX12_read 166 = .ok (.invokevirtual 328, 3) := by decide +kernel
theorem dX12_read_169 : decode cX12_read 169 = .ok (.aload_n 0, 1) := by decide +kernel
theorem dX12_read_170 : decode cX12_read 170 = .ok (.bipush 93, 2) := by decide +kernel
theorem dX12_read_172 : decode cX12_read 172 = .ok (.invokevirtual 331, 3) := by decide +kernel
theorem dX12_read_175 : decode cX12_read 175 = .ok (.aload_n 0, 1) := by decide +kernel
theorem dX12_read_176 : decode cX12_read 176 = .ok (.bipush 58, 2) := by decide +kernel
theorem dX12_read_178 : decode cX12_read 178 = .ok (.invokevirtual 331, 3) := by decide +kernel
theorem dX12_read_181 : decode cX12_read 181 = .ok (.aload_n 0, 1) := by decide +kernel
theorem dX12_read_182 : decode cX12_read 182 = .ok (.iconst 0, 1) := by decide +kernel
theorem dX12_read_183 : decode cX12_read 183 = .ok (.invokevirtual 337, 3) := by decide +kernel
theorem dX12_read_186 : decode cX12_read 186 = .ok (.aload_n 0, 1) := by decide +kernel
theorem dX12_read_187 : decode cX12_read 187 = .ok (.getfield 270, 3) := by decide +kernel
theorem dX12_read_190 : decode cX12_read 190 = .ok (.ifCond .ne 37, 3) := by decide +kernel
theorem dX12_read_193 : decode cX12_read 193 = .ok (.aload_n 0, 1) := by decide +kernel
theorem dX12_read_194 : decode cX12_read 194 = .ok (.iconst 2, 1) := by decide +kernel
theorem dX12_read_195 : decode cX12_read 195 = .ok (.invokevirtual 318, 3) := by decide +kernel
theorem dX12_read_198 : decode cX12_read 198 = .ok (.ifCond .ne 29, 3) := by decide +kernel
theorem dX12_read_201 : decode cX12_read 201 = .ok (.aload_n 0, 1) := by decide +kernel
theorem dX12_read_202 : decode cX12_read 202 = .ok (.iconst 3, 1) := by decide +kernel
theorem dX12_read_203 : decode cX12_read 203 = .ok (.invokevirtual 318, 3) := by decide +kernel
theorem dX12_read_206 : decode cX12_read 206 = .ok (.ifCond .ne 21, 3) := by decide +kernel
theorem dX12_read_209 : decode cX12_read 209 = .ok (.aload_n 0, 1) := by decide +kernel
theorem dX12_read_210 : decode cX12_read 210 = .ok (.bipush 61, 2) := by decide +kernel
theorem dX12_read_212 : decode cX12_read 212 = .ok (.invokevirtual 318, 3) := by decide +kernel
theorem dX12_read_215 : decode cX12_read 215 = .ok (.ifCond .ne 12, 3) := by decide +kernel
theorem dX12_read_218 : decode cX12_read 218 = .ok (.aload_n 0, 1) := by decide +kernel
theorem dX12_read_219 : decode cX12_read 219 = .ok (.iconst 1, 1) := by decide +kernel
theorem dX12_read_220 : decode cX12_read 220 = .ok (.aload_n 0, 1) := by decide +kernel
theorem dX12_read_221 : decode cX12_read 221 = .ok (.getfield 315, 3) := by decide +kernel
theorem dX12_read_224 : decode cX12_read 224 = .ok (.invokevirtual 321, 3) := by decide +kernel
theorem dX12_read_227 : decode cX12_read 227 = .ok (.aload_n 0, 1) := by decide +kernel
theorem dX12_read_228 : decode cX12_read 228 = .ok (.dup, 1) := by decide +kernel
theorem dX12_read_229 : decode cX12_read 229 = .ok (.getfield 315, 3) := by decide +kernel
theorem dX12_read_232 : decode cX12_read 232 = .ok (.iconst 1, 1) := by decide +kernel
theorem dX12_read_233 : decode cX12_read 233 = .ok (.iadd, 1) := by decide +kernel
theorem dX12_read_234 : decode cX12_read 234 = .ok (.putfield 315, 3) := by decide +kernel
theorem dX12_read_237 : decode cX12_read 237 = .ok (.aload_n 0, 1) := by decide +kernel
theorem dX12_read_238 : decode cX12_read 238 = .ok (.iconst 0, 1) := by decide +kernel
theorem dX12_read_239 : decode cX12_read 239 = .ok (.invokevirtual 337, 3) := by decide +kernel
theorem dX12_read_242 : decode cX12_read 242 = .ok (.aload_n 0, 1) := by decide +kernel
theorem dX12_read_243 : decode cX12_read 243 = .ok (.bipush 59, 2) := by decide +kernel
theorem dX12_read_245 : decode cX12_read 245 = .ok (.invokevirtual 331, 3) := by decide +kernel
theorem dX12_read_248 : decode cX12_read 248 = .ok (.goto (-152), 3) := by decide +kernel
theorem dX12_read_251 : decode cX12_read 251 = .ok (.aload_n 0, 1) := by decide +kernel
theorem dX12_read_252 : decode cX12_read 252 = .ok (.getfield 270, 3) := by decide +kernel
theorem dX12_read_255 : decode cX12_read 255 = .ok (.ifCond .ne 25, 3) := by decide +kernel
theorem dX12_read_258 : decode cX12_read 258 = .ok (.aload_n 0, 1) := by decide +kernel
theorem dX12_read_259 : decode cX12_read 259 = .ok (.getfield 47, 3) := by decide +kernel
theorem dX12_read_262 : decode cX12_read 262 = .ok (.aload_n 0, 1) := by decide +kernel
theorem dX12_read_263 : decode cX12_read 263 = .ok (.getfield 315, 3) := by decide +kernel
theorem dX12_read_266 : decode cX12_read 266 = .ok (.iaload, 1) := by decide +kernel
theorem dX12_read_267 : decode cX12_read 267 = .ok (.iconst 5, 1) := by decide +kernel
theorem dX12_read_268 : decode cX12_read 268 = .ok (.if_icmp .eq 12, 3) := by decide +kernel
theorem dX12_read_271 : decode cX12_read 271 = .ok (.aload_n 0, 1) := by decide +kernel
theorem dX12_read_272 : decode cX12_read 272 = .ok (.iconst 1, 1) := by decide +kernel
theorem dX12_read_273 : decode cX12_read 273 = .ok (.aload_n 0, 1) := by decide +kernel
theorem dX12_read_274 : decode cX12_read 274 = .ok (.getfield 315, 3) := by decide +kernel
theorem dX12_read_277 : decode cX12_read 277 = .ok (.invokevirtual 321, 3) := by decide +kernel
theorem dX12_read_280 : decode cX12_read 280 = .ok (.return_, 1) := by decide +kernel
theorem dX12_sumRead_0 : decode cX12_sumRead 0 = .ok (.aload_n 0, 1) := by decide +kernel
theorem dX12_sumRead_1 : decode cX12_sumRead 1 = .ok (.iload_n 1, 1) := by decide +kernel
theorem dX12_sumRead_2 : decode cX12_sumRead 2 = .ok (.invokevirtual 349, 3) := by decide +kernel
theorem dX12_sumRead_5 : decode cX12_sumRead 5 = .ok (.aload_n 0, 1) := by decide +kernel
theorem dX12_sumRead_6 : decode cX12_sumRead 6 = .ok (.getfield 270, 3) := by decide +kernel
theorem dX12_sumRead_9 : decode cX12_sumRead 9 = .ok (.ifCond .ne 39, 3) := by decide +kernel
theorem dX12_sumRead_12 : decode cX12_sumRead 12 = .ok (.aload_n 0, 1) := by decide +kernel
theorem dX12_sumRead_13 : decode cX12_sumRead 13 = .ok (.bipush 43, 2) := by decide +kernel
theorem dX12_sumRead_15 : decode cX12_sumRead 15 = .ok (.invokevirtual 318, 3) := by decide +kernel
theorem dX12_sumRead_18 : decode cX12_sumRead 18 = .ok (.ifCond .ne 12, 3) := by decide +kernel
theorem dX12_sumRead_21 : decode cX12_sumRead 21 = .ok (.aload_n 0, 1) := by decide +kernel
theorem dX12_sumRead_22 : decode cX12_sumRead 22 = .ok (.bipush 45, 2) := by decide +kernel
theorem dX12_sumRead_24 : decode cX12_sumRead 24 = .ok (.invokevirtual 318, 3) := by decide +kernel
theorem dX12_sumRead_27 : decode cX12_sumRead 27 = .ok (.ifCond .eq 21, 3) := by decide +kernel
theorem dX12_sumRead_30 : decode cX12_sumRead 30 = .ok (.aload_n 0, 1) := by decide +kernel
theorem dX12_sumRead_31 : decode cX12_sumRead 31 = .ok (.dup, 1) := by decide +kernel
theorem dX12_sumRead_32 : decode cX12_sumRead 32 = .ok (.getfield 315, 3) := by decide +kernel
theorem dX12_sumRead_35 : decode cX12_sumRead 35 = .ok (.iconst 1, 1) := by decide +kernel
theorem dX12_sumRead_36 : decode cX12_sumRead 36 = .ok (.iadd, 1) := by decide +kernel
theorem dX12_sumRead_37 : decode cX12_sumRead 37 = .ok (.putfield 315, 3) := by decide +kernel
theorem dX12_sumRead_40 : decode cX12_sumRead 40 = .ok (.aload_n 0, 1) := by decide +kernel
theorem dX12_sumRead_41 : decode cX12_sumRead 41 = .ok (.iload_n 1, 1) := by decide +kernel
theorem dX12_sumRead_42 : decode cX12_sumRead 42 = .ok (.invokevirtual 349, 3) := by decide +kernel
theorem dX12_sumRead_45 : decode cX12_sumRead 45 = .ok (.goto (-40), 3) := by decide +kernel
theorem dX12_sumRead_48 : decode cX12_sumRead 48 = .ok (.return_, 1) := by decide +kernel
theorem w_111 : Cond.selects RX12 yX12_told yX12_told ∈ tb := sel_7 (q := (yX12_told, 105)) 15 (by decide +kernel)
theorem w_118 : Cond.selects RX12 yX12_sumRead yX12_sumRead ∈ tb := sel_8 (q := (yX12_sumRead, 105)) 6 (by decide +kernel)
theorem w_119 : Cond.selects RX12 yX12_productRead yX12_productRead ∈ tb := sel_8 (q := (yX12_productRead, 105)) 7 (by decide +kernel)
theorem w_120 : Cond.selects RX12 yX12_factorRead yX12_factorRead ∈ tb := sel_8 (q := (yX12_factorRead, 105)) 8 (by decide +kernel)
theorem w_121 : Cond.selects RX12 yX12_wantWord yX12_wantWord ∈ tb := sel_8 (q := (yX12_wantWord, 105)) 9 (by decide +kernel)
theorem w_122 : Cond.selects RX12 yX12_indexRead yX12_indexRead ∈ tb := sel_8 (q := (yX12_indexRead, 105)) 10 (by decide +kernel)
theorem w_2330 : Cond.methodLink RX12 334 yX12_told ∈ tb := tbc_9 207 (by decide +kernel) rfl
theorem w_2332 : Cond.instanceMethod yX12_told ∈ tb := tbc_9 209 (by decide +kernel) rfl
theorem w_2333 : Cond.code yX12_told cX12_told 2 none ∈ tb := tbc_9 210 (by decide +kernel) rfl
theorem w_2358 : Cond.methodLink RX12 337 yX12_sumRead ∈ tb := tbc_9 235 (by decide +kernel) rfl
theorem w_2360 : Cond.instanceMethod yX12_sumRead ∈ tb := tbc_9 237 (by decide +kernel) rfl
theorem w_2361 : Cond.code yX12_sumRead cX12_sumRead 2 none ∈ tb := tbc_9 238 (by decide +kernel) rfl
theorem w_2362 : Cond.methodLink RX12 349 yX12_productRead ∈ tb := tbc_9 239 (by decide +kernel) rfl
theorem w_2364 : Cond.instanceMethod yX12_productRead ∈ tb := tbc_10 1 (by decide +kernel) rfl
theorem w_2365 : Cond.code yX12_productRead cX12_productRead 2 none ∈ tb := tbc_10 2 (by decide +kernel) rfl
theorem w_2366 : Cond.methodLink RX12 352 yX12_factorRead ∈ tb := tbc_10 3 (by decide +kernel) rfl
theorem w_2368 : Cond.instanceMethod yX12_factorRead ∈ tb := tbc_10 5 (by decide +kernel) rfl
theorem w_2369 : Cond.code yX12_factorRead cX12_factorRead 2 none ∈ tb := tbc_10 6 (by decide +kernel) rfl
theorem w_2370 : Cond.methodLink RX12 340 yX12_wantWord ∈ tb := tbc_10 7 (by decide +kernel) rfl
theorem w_2372 : Cond.instanceMethod yX12_wantWord ∈ tb := tbc_10 9 (by decide +kernel) rfl
theorem w_2373 : Cond.code yX12_wantWord cX12_wantWord 2 none ∈ tb := tbc_10 10 (by decide +kernel) rfl
theorem w_2374 : Cond.methodLink RX12 355 yX12_indexRead ∈ tb := tbc_10 11 (by decide +kernel) rfl
theorem w_2376 : Cond.instanceMethod yX12_indexRead ∈ tb := tbc_10 13 (by decide +kernel) rfl
theorem w_2377 : Cond.code yX12_indexRead cX12_indexRead 1 none ∈ tb := tbc_10 14 (by decide +kernel) rfl
section RW72
variable {p : Program} {l : Launch} {e : Env} {R : Room} {s : State} {m : MethodId} {args : Array Value} {below : List Frame} {meth : Method} {c : Code} {H : Heap} {locs : List Loc} {cells slots : Nat} {Q : State → Prop}
variable {cc : ByteArray} {pc nL : Nat} {ls : Array Slot} {rest st0 : List Value} {G : sG} {n : Nat} {S : sS}
theorem c_X12_355 (Cx : sC G p m c cc nL s args RX12) {rm : Room} {mc ms : Nat} (h1 : rm.cells = mc) (h2 : rm.slots = ms) (h3 : rm.frames + 1 ≤ R.frames ∧ 8 + (1 + 11) + rm.locals ≤ R.locals) : CallW R s args RX12 RX12 355 yX12_indexRead cX12_indexRead 1 none (.code yX12_indexRead cX12_indexRead 1 none :: tb) rm mc ms 0 :=
  sCw Cx 0 w_2374 w_2376 w_122 w_217 w_2377 (by decide +kernel) h1 h2 h3
theorem c_X12_340 (Cx : sC G p m c cc nL s args RX12) {rm : Room} {mc ms : Nat} (h1 : rm.cells = mc) (h2 : rm.slots = ms) (h3 : rm.frames + 1 ≤ R.frames ∧ 8 + (2 + 11) + rm.locals ≤ R.locals) : CallW R s args RX12 RX12 340 yX12_wantWord cX12_wantWord 2 none (.code yX12_wantWord cX12_wantWord 2 none :: tb) rm mc ms 1 :=
  sCw Cx 1 w_2370 w_2372 w_121 w_217 w_2373 (by decide +kernel) h1 h2 h3
theorem c_X12_337 (Cx : sC G p m c cc nL s args RX12) {rm : Room} {mc ms : Nat} (h1 : rm.cells = mc) (h2 : rm.slots = ms) (h3 : rm.frames + 1 ≤ R.frames ∧ 8 + (2 + 11) + rm.locals ≤ R.locals) : CallW R s args RX12 RX12 337 yX12_sumRead cX12_sumRead 2 none (.code yX12_sumRead cX12_sumRead 2 none :: tb) rm mc ms 1 :=
  sCw Cx 1 w_2358 w_2360 w_118 w_217 w_2361 (by decide +kernel) h1 h2 h3
theorem c_X12_352 (Cx : sC G p m c cc nL s args RX12) {rm : Room} {mc ms : Nat} (h1 : rm.cells = mc) (h2 : rm.slots = ms) (h3 : rm.frames + 1 ≤ R.frames ∧ 8 + (2 + 11) + rm.locals ≤ R.locals) : CallW R s args RX12 RX12 352 yX12_factorRead cX12_factorRead 2 none (.code yX12_factorRead cX12_factorRead 2 none :: tb) rm mc ms 1 :=
  sCw Cx 1 w_2366 w_2368 w_120 w_217 w_2369 (by decide +kernel) h1 h2 h3
theorem c_X12_349 (Cx : sC G p m c cc nL s args RX12) {rm : Room} {mc ms : Nat} (h1 : rm.cells = mc) (h2 : rm.slots = ms) (h3 : rm.frames + 1 ≤ R.frames ∧ 8 + (2 + 11) + rm.locals ≤ R.locals) : CallW R s args RX12 RX12 349 yX12_productRead cX12_productRead 2 none (.code yX12_productRead cX12_productRead 2 none :: tb) rm mc ms 1 :=
  sCw Cx 1 w_2362 w_2364 w_119 w_217 w_2365 (by decide +kernel) h1 h2 h3
theorem c_X12_334 (Cx : sC G p m c cc nL s args RX12) {rm : Room} {mc ms : Nat} (h1 : rm.cells = mc) (h2 : rm.slots = ms) (h3 : rm.frames + 1 ≤ R.frames ∧ 8 + (2 + 11) + rm.locals ≤ R.locals) : CallW R s args RX12 RX12 334 yX12_told cX12_told 2 none (.code yX12_told cX12_told 2 none :: tb) rm mc ms 0 :=
  sCw Cx 0 w_2330 w_2332 w_111 w_217 w_2333 (by decide +kernel) h1 h2 h3
end RW72
