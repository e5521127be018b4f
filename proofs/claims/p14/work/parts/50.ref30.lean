theorem dX12_multiply_0 : decode cX12_multiply 0 = .ok (.aload_n 0, 1) := by decide +kernel
theorem dX12_multiply_1 : decode cX12_multiply 1 = .ok (.iload_n 1, 1) := by decide +kernel
theorem dX12_multiply_2 : decode cX12_multiply 2 = .ok (.invokestatic 221, 3) := by decide +kernel
theorem dX12_multiply_5 : decode cX12_multiply 5 = .ok (.istore 6, 2) := by decide +kernel
theorem dX12_multiply_7 : decode cX12_multiply 7 = .ok (.aload_n 2, 1) := by decide +kernel
theorem dX12_multiply_8 : decode cX12_multiply 8 = .ok (.iload_n 3, 1) := by decide +kernel
theorem dX12_multiply_9 : decode cX12_multiply 9 = .ok (.invokestatic 221, 3) := by decide +kernel
theorem dX12_multiply_12 : decode cX12_multiply 12 = .ok (.istore 7, 2) := by decide +kernel
theorem dX12_multiply_14 : decode cX12_multiply 14 = .ok (.aload_n 0, 1) := by decide +kernel
theorem dX12_multiply_15 : decode cX12_multiply 15 = .ok (.iload_n 1, 1) := by decide +kernel
theorem dX12_multiply_16 : decode cX12_multiply 16 = .ok (.invokestatic 225, 3) := by decide +kernel
theorem dX12_multiply_19 : decode cX12_multiply 19 = .ok (.aload_n 2, 1) := by decide +kernel
theorem dX12_multiply_20 : decode cX12_multiply 20 = .ok (.iload_n 3, 1) := by decide +kernel
theorem dX12_multiply_21 : decode cX12_multiply 21 = .ok (.invokestatic 225, 3) := by decide +kernel
theorem dX12_multiply_24 : decode cX12_multiply 24 = .ok (.imul, 1) := by decide +kernel
theorem dX12_multiply_25 : decode cX12_multiply 25 = .ok (.istore 8, 2) := by decide +kernel
theorem dX12_multiply_27 : decode cX12_multiply 27 = .ok (.iload 8, 2) := by decide +kernel
theorem dX12_multiply_29 : decode cX12_multiply 29 = .ok (.ifCond .ne 10, 3) := by decide +kernel
theorem dX12_multiply_32 : decode cX12_multiply 32 = .ok (.aload 4, 2) := by decide +kernel
theorem dX12_multiply_34 : decode cX12_multiply 34 = .ok (.iload 5, 2) := by decide +kernel
theorem dX12_multiply_36 : decode cX12_multiply 36 = .ok (.iconst 0, 1) := by decide +kernel
theorem dX12_multiply_37 : decode cX12_multiply 37 = .ok (.iastore, 1) := by decide +kernel
theorem dX12_multiply_38 : decode cX12_multiply 38 = .ok (.return_, 1) := by decide +kernel
theorem dX12_multiply_39 : decode cX12_multiply 39 = .ok (.iconst 1, 1) := by decide +kernel
theorem dX12_multiply_40 : decode cX12_multiply 40 = .ok (.istore 9, 2) := by decide +kernel
theorem dX12_multiply_42 : decode cX12_multiply 42 = .ok (.iload 9, 2) := by decide +kernel
theorem dX12_multiply_44 : decode cX12_multiply 44 = .ok (.iload 6, 2) := by decide +kernel
theorem dX12_multiply_46 : decode cX12_multiply 46 = .ok (.iload 7, 2) := by decide +kernel
theorem dX12_multiply_48 : decode cX12_multiply 48 = .ok (.iadd, 1) := by decide +kernel
theorem dX12_multiply_49 : decode cX12_multiply 49 = .ok (.if_icmp .gt 18, 3) := by decide +kernel
theorem dX12_multiply_52 : decode cX12_multiply 52 = .ok (.aload 4, 2) := by decide +kernel
theorem dX12_multiply_54 : decode cX12_multiply 54 = .ok (.iload 5, 2) := by decide +kernel
theorem dX12_multiply_56 : decode cX12_multiply 56 = .ok (.iload 9, 2) := by decide +kernel
theorem dX12_multiply_58 : decode cX12_multiply 58 = .ok (.iadd, 1) := by decide +kernel
theorem dX12_multiply_59 : decode cX12_multiply 59 = .ok (.iconst 0, 1) := by decide +kernel
theorem dX12_multiply_60 : decode cX12_multiply 60 = .ok (.iastore, 1) := by decide +kernel
theorem dX12_multiply_61 : decode cX12_multiply 61 = .ok (.iinc 9 1, 3) := by decide +kernel
theorem dX12_multiply_64 : decode cX12_multiply 64 = .ok (.goto (-22), 3) := by decide +kernel
theorem dX12_multiply_67 : decode cX12_multiply 67 = .ok (.iconst 1, 1) := by decide +kernel
theorem dX12_multiply_68 : decode cX12_multiply 68 = .ok (.istore 9, 2) := by decide +kernel
theorem dX12_multiply_70 : decode cX12_multiply 70 = .ok (.iload 9, 2) := by decide +kernel
theorem dX12_multiply_72 : decode cX12_multiply 72 = .ok (.iload 6, 2) := by decide +kernel
theorem dX12_multiply_74 : decode cX12_multiply 74 = .ok (.if_icmp .gt 105, 3) := by decide +kernel
theorem dX12_multiply_77 : decode cX12_multiply 77 = .ok (.lconst 0, 1) := by decide +kernel
theorem dX12_multiply_78 : decode cX12_multiply 78 = .ok (.lstore 10, 2) := by decide +kernel
theorem dX12_multiply_80 : decode cX12_multiply 80 = .ok (.iconst 1, 1) := by decide +kernel
theorem dX12_multiply_81 : decode cX12_multiply 81 = .ok (.istore 12, 2) := by decide +kernel
theorem dX12_multiply_83 : decode cX12_multiply 83 = .ok (.iload 12, 2) := by decide +kernel
theorem dX12_multiply_85 : decode cX12_multiply 85 = .ok (.iload 7, 2) := by decide +kernel
theorem dX12_multiply_87 : decode cX12_multiply 87 = .ok (.if_icmp .gt 72, 3) := by decide +kernel
theorem dX12_multiply_90 : decode cX12_multiply 90 = .ok (.aload_n 0, 1) := by decide +kernel
theorem dX12_multiply_91 : decode cX12_multiply 91 = .ok (.iload_n 1, 1) := by decide +kernel
theorem dX12_multiply_92 : decode cX12_multiply 92 = .ok (.iload 9, 2) := by decide +kernel
theorem dX12_multiply_94 : decode cX12_multiply 94 = .ok (.iadd, 1) := by decide +kernel
theorem dX12_multiply_95 : decode cX12_multiply 95 = .ok (.iaload, 1) := by decide +kernel
theorem dX12_multiply_96 : decode cX12_multiply 96 = .ok (.i2l, 1) := by decide +kernel
theorem dX12_multiply_97 : decode cX12_multiply 97 = .ok (.aload_n 2, 1) := by decide +kernel
theorem dX12_multiply_98 : decode cX12_multiply 98 = .ok (.iload_n 3, 1) := by decide +kernel
theorem dX12_multiply_99 : decode cX12_multiply 99 = .ok (.iload 12, 2) := by decide +kernel
theorem dX12_multiply_101 : decode cX12_multiply 101 = .ok (.iadd, 1) := by decide +kernel
theorem dX12_multiply_102 : decode cX12_multiply 102 = .ok (.iaload, 1) := by decide +kernel
theorem dX12_multiply_103 : decode cX12_multiply 103 = .ok (.i2l, 1) := by decide +kernel
theorem dX12_multiply_104 : decode cX12_multiply 104 = .ok (.lmul, 1) := by decide +kernel
theorem dX12_multiply_105 : decode cX12_multiply 105 = .ok (.aload 4, 2) := by decide +kernel
theorem dX12_multiply_107 : decode cX12_multiply 107 = .ok (.iload 5, 2) := by decide +kernel
theorem dX12_multiply_109 : decode cX12_multiply 109 = .ok (.iload 9, 2) := by decide +kernel
theorem dX12_multiply_111 : decode cX12_multiply 111 = .ok (.iadd, 1) := by decide +kernel
theorem dX12_multiply_112 : decode cX12_multiply 112 = .ok (.iload 12, 2) := by decide +kernel
theorem dX12_multiply_114 : decode cX12_multiply 114 = .ok (.iadd, 1) := by decide +kernel
theorem dX12_multiply_115 : decode cX12_multiply 115 = .ok (.iconst 1, 1) := by decide +kernel
theorem dX12_multiply_116 : decode cX12_multiply 116 = .ok (.isub, 1) := by decide +kernel
theorem dX12_multiply_117 : decode cX12_multiply 117 = .ok (.iaload, 1) := by decide +kernel
theorem dX12_multiply_118 : decode cX12_multiply 118 = .ok (.i2l, 1) := by decide +kernel
theorem dX12_multiply_119 : decode cX12_multiply 119 = .ok (.ladd, 1) := by decide +kernel
theorem dX12_multiply_120 : decode cX12_multiply 120 = .ok (.lload 10, 2) := by decide +kernel
theorem dX12_multiply_122 : decode cX12_multiply 122 = .ok (.ladd, 1) := by decide +kernel
theorem dX12_multiply_123 : decode cX12_multiply 123 = .ok (.lstore 13, 2) := by decide +kernel
theorem dX12_multiply_125 : decode cX12_multiply 125 = .ok (.aload 4, 2) := by decide +kernel
theorem dX12_multiply_127 : decode cX12_multiply 127 = .ok (.iload 5, 2) := by decide +kernel
theorem dX12_multiply_129 : decode cX12_multiply 129 = .ok (.iload 9, 2) := by decide +kernel
theorem dX12_multiply_131 : decode cX12_multiply 131 = .ok (.iadd, 1) := by decide +kernel
theorem dX12_multiply_132 : decode cX12_multiply 132 = .ok (.iload 12, 2) := by decide +kernel
theorem dX12_multiply_134 : decode cX12_multiply 134 = .ok (.iadd, 1) := by decide +kernel
theorem dX12_multiply_135 : decode cX12_multiply 135 = .ok (.iconst 1, 1) := by decide +kernel
theorem dX12_multiply_136 : decode cX12_multiply 136 = .ok (.isub, 1) := by decide +kernel
theorem dX12_multiply_137 : decode cX12_multiply 137 = .ok (.lload 13, 2) := by decide +kernel
theorem dX12_multiply_139 : decode cX12_multiply 139 = .ok (.ldc2_w 219, 3) := by decide +kernel
theorem dX12_multiply_142 : decode cX12_multiply 142 = .ok (.lrem, 1) := by decide +kernel
theorem dX12_multiply_143 : decode cX12_multiply 143 = .ok (.l2i, 1) := by decide +kernel
theorem dX12_multiply_144 : decode cX12_multiply 144 = .ok (.iastore, 1) := by decide +kernel
theorem dX12_multiply_145 : decode cX12_multiply 145 = .ok (.lload 13, 2) := by decide +kernel
theorem dX12_multiply_147 : decode cX12_multiply 147 = .ok (.ldc2_w 219, 3) := by decide +kernel
theorem dX12_multiply_150 : decode cX12_multiply 150 = .ok (.ldiv, 1) := by decide +kernel
theorem dX12_multiply_151 : decode cX12_multiply 151 = .ok (.lstore 10, 2) := by decide +kernel
theorem dX12_multiply_153 : decode cX12_multiply 153 = .ok (.iinc 12 1, 3) := by decide +kernel
theorem dX12_multiply_156 : decode cX12_multiply 156 = .ok (.goto (-73), 3) := by decide +kernel
theorem dX12_multiply_159 : decode cX12_multiply 159 = .ok (.aload 4, 2) := by decide +kernel
theorem dX12_multiply_161 : decode cX12_multiply 161 = .ok (.iload 5, 2) := by decide +kernel
theorem dX12_multiply_163 : decode cX12_multiply 163 = .ok (.iload 9, 2) := by decide +kernel
theorem dX12_multiply_165 : decode cX12_multiply 165 = .ok (.iadd, 1) := by decide +kernel
theorem dX12_multiply_166 : decode cX12_multiply 166 = .ok (.iload 7, 2) := by decide +kernel
theorem dX12_multiply_168 : decode cX12_multiply 168 = .ok (.iadd, 1) := by decide +kernel
theorem dX12_multiply_169 : decode cX12_multiply 169 = .ok (.lload 10, 2) := by decide +kernel
theorem dX12_multiply_171 : decode cX12_multiply 171 = .ok (.l2i, 1) := by decide +kernel
theorem dX12_multiply_172 : decode cX12_multiply 172 = .ok (.iastore, 1) := by decide +kernel
theorem dX12_multiply_173 : decode cX12_multiply 173 = .ok (.iinc 9 1, 3) := by decide +kernel
theorem dX12_multiply_176 : decode cX12_multiply 176 = .ok (.goto (-106), 3) := by decide +kernel
theorem dX12_multiply_179 : decode cX12_multiply 179 = .ok (.iload 6, 2) := by decide +kernel
theorem dX12_multiply_181 : decode cX12_multiply 181 = .ok (.iload 7, 2) := by decide +kernel
theorem dX12_multiply_183 : decode cX12_multiply 183 = .ok (.iadd, 1) := by decide +kernel
theorem dX12_multiply_184 : decode cX12_multiply 184 = .ok (.istore 9, 2) := by decide +kernel
theorem dX12_multiply_186 : decode cX12_multiply 186 = .ok (.aload 4, 2) := by decide +kernel
theorem dX12_multiply_188 : decode cX12_multiply 188 = .ok (.iload 5, 2) := by decide +kernel
theorem dX12_multiply_190 : decode cX12_multiply 190 = .ok (.iload 9, 2) := by decide +kernel
theorem dX12_multiply_192 : decode cX12_multiply 192 = .ok (.iadd, 1) := by decide +kernel
theorem dX12_multiply_193 : decode cX12_multiply 193 = .ok (.iaload, 1) := by decide +kernel
theorem dX12_multiply_194 : decode cX12_multiply 194 = .ok (.ifCond .ne 9, 3) := by decide +kernel
theorem dX12_multiply_197 : decode cX12_multiply 197 = .ok (.iinc 9 (-1), 3) := by decide +kernel
theorem dX12_multiply_200 : decode cX12_multiply 200 = .ok (.goto (-14), 3) := by decide +kernel
theorem dX12_multiply_203 : decode cX12_multiply 203 = .ok (.aload 4, 2) := by decide +kernel
theorem dX12_multiply_205 : decode cX12_multiply 205 = .ok (.iload 5, 2) := by decide +kernel
theorem dX12_multiply_207 : decode cX12_multiply 207 = .ok (.iload 8, 2) := by decide +kernel
theorem dX12_multiply_209 : decode cX12_multiply 209 = .ok (.iload 9, 2) := by decide +kernel
theorem dX12_multiply_211 : decode cX12_multiply 211 = .ok (.imul, 1) := by decide +kernel
theorem dX12_multiply_212 : decode cX12_multiply 212 = .ok (.iastore, 1) := by decide +kernel
theorem dX12_multiply_213 : decode cX12_multiply 213 = .ok (.return_, 1) := by decide +kernel
