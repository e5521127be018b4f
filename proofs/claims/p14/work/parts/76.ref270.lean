theorem dX12_indexesOf_0 : decode cX12_indexesOf 0 = .ok (.aload_n 0, 1) := by decide +kernel
theorem dX12_indexesOf_1 : decode cX12_indexesOf 1 = .ok (.getfield 270, 3) := by decide +kernel
theorem dX12_indexesOf_4 : decode cX12_indexesOf 4 = .ok (.ifCond .ne 12, 3) := by decide +kernel
theorem dX12_indexesOf_7 : decode cX12_indexesOf 7 = .ok (.aload_n 0, 1) := by decide +kernel
theorem dX12_indexesOf_8 : decode cX12_indexesOf 8 = .ok (.bipush 91, 2) := by decide +kernel
theorem dX12_indexesOf_10 : decode cX12_indexesOf 10 = .ok (.invokevirtual 318, 3) := by decide +kernel
theorem dX12_indexesOf_13 : decode cX12_indexesOf 13 = .ok (.ifCond .ne 4, 3) := by decide +kernel
theorem dX12_indexesOf_16 : decode cX12_indexesOf 16 = .ok (.return_, 1) := by decide +kernel
theorem dX12_indexesOf_17 : decode cX12_indexesOf 17 = .ok (.aload_n 0, 1) := by decide +kernel
theorem dX12_indexesOf_18 : decode cX12_indexesOf 18 = .ok (.dup, 1) := by decide +kernel
theorem dX12_indexesOf_19 : decode cX12_indexesOf 19 = .ok (.getfield 315, 3) := by decide +kernel
theorem dX12_indexesOf_22 : decode cX12_indexesOf 22 = .ok (.iconst 1, 1) := by decide +kernel
theorem dX12_indexesOf_23 : decode cX12_indexesOf 23 = .ok (.iadd, 1) := by decide +kernel
theorem dX12_indexesOf_24 : decode cX12_indexesOf 24 = .ok (.putfield 315, 3) := by decide +kernel
theorem dX12_indexesOf_27 : decode cX12_indexesOf 27 = .ok (.aload_n 0, 1) := by decide +kernel
theorem dX12_indexesOf_28 : decode cX12_indexesOf 28 = .ok (.getfield 65, 3) := by decide +kernel
theorem dX12_indexesOf_31 : decode cX12_indexesOf 31 = .ok (.iload_n 1, 1) := by decide +kernel
theorem dX12_indexesOf_32 : decode cX12_indexesOf 32 = .ok (.aload_n 0, 1) := by decide +kernel
theorem dX12_indexesOf_33 : decode cX12_indexesOf 33 = .ok (.invokevirtual 364, 3) := by decide +kernel
theorem dX12_indexesOf_36 : decode cX12_indexesOf 36 = .ok (.iastore, 1) := by decide +kernel
theorem dX12_indexesOf_37 : decode cX12_indexesOf 37 = .ok (.aload_n 0, 1) := by decide +kernel
theorem dX12_indexesOf_38 : decode cX12_indexesOf 38 = .ok (.getfield 270, 3) := by decide +kernel
theorem dX12_indexesOf_41 : decode cX12_indexesOf 41 = .ok (.ifCond .ne 32, 3) := by decide +kernel
theorem dX12_indexesOf_44 : decode cX12_indexesOf 44 = .ok (.aload_n 0, 1) := by decide +kernel
theorem dX12_indexesOf_45 : decode cX12_indexesOf 45 = .ok (.bipush 44, 2) := by decide +kernel
theorem dX12_indexesOf_47 : decode cX12_indexesOf 47 = .ok (.invokevirtual 318, 3) := by decide +kernel
theorem dX12_indexesOf_50 : decode cX12_indexesOf 50 = .ok (.ifCond .eq 23, 3) := by decide +kernel
theorem dX12_indexesOf_53 : decode cX12_indexesOf 53 = .ok (.aload_n 0, 1) := by decide +kernel
theorem dX12_indexesOf_54 : decode cX12_indexesOf 54 = .ok (.dup, 1) := by decide +kernel
theorem dX12_indexesOf_55 : decode cX12_indexesOf 55 = .ok (.getfield 315, 3) := by decide +kernel
theorem dX12_indexesOf_58 : decode cX12_indexesOf 58 = .ok (.iconst 1, 1) := by decide +kernel
theorem dX12_indexesOf_59 : decode cX12_indexesOf 59 = .ok (.iadd, 1) := by decide +kernel
theorem dX12_indexesOf_60 : decode cX12_indexesOf 60 = .ok (.putfield 315, 3) := by decide +kernel
theorem dX12_indexesOf_63 : decode cX12_indexesOf 63 = .ok (.aload_n 0, 1) := by decide +kernel
theorem dX12_indexesOf_64 : decode cX12_indexesOf 64 = .ok (.getfield 68, 3) := by decide +kernel
theorem dX12_indexesOf_67 : decode cX12_indexesOf 67 = .ok (.iload_n 1, 1) := by decide +kernel
theorem dX12_indexesOf_68 : decode cX12_indexesOf 68 = .ok (.aload_n 0, 1) := by decide +kernel
theorem dX12_indexesOf_69 : decode cX12_indexesOf 69 = .ok (.invokevirtual 364, 3) := by decide +kernel
theorem dX12_indexesOf_72 : decode cX12_indexesOf 72 = .ok (.iastore, 1) := by decide +kernel
theorem dX12_indexesOf_73 : decode cX12_indexesOf 73 = .ok (.aload_n 0, 1) := by decide +kernel
theorem dX12_indexesOf_74 : decode cX12_indexesOf 74 = .ok (.dup, 1) := by decide +kernel
theorem dX12_indexesOf_75 : decode cX12_indexesOf 75 = .ok (.getfield 315, 3) := by decide +kernel
theorem dX12_indexesOf_78 : decode cX12_indexesOf 78 = .ok (.iconst 1, 1) := by decide +kernel
theorem dX12_indexesOf_79 : decode cX12_indexesOf 79 = .ok (.iadd, 1) := by decide +kernel
theorem dX12_indexesOf_80 : decode cX12_indexesOf 80 = .ok (.putfield 315, 3) := by decide +kernel
theorem dX12_indexesOf_83 : decode cX12_indexesOf 83 = .ok (.return_, 1) := by decide +kernel
theorem dX12_tellPar_0 : decode cX12_tellPar 0 = .ok (.aload_n 0, 1) := by decide +kernel
theorem dX12_tellPar_1 : decode cX12_tellPar 1 = .ok (.iload_n 1, 1) := by decide +kernel
theorem dX12_tellPar_2 : decode cX12_tellPar 2 = .ok (.iconst 2, 1) := by decide +kernel
theorem dX12_tellPar_3 : decode cX12_tellPar 3 = .ok (.invokevirtual 404, 3) := by decide +kernel
theorem dX12_tellPar_6 : decode cX12_tellPar 6 = .ok (.istore_n 2, 1) := by decide +kernel
theorem dX12_tellPar_7 : decode cX12_tellPar 7 = .ok (.aload_n 0, 1) := by decide +kernel
theorem dX12_tellPar_8 : decode cX12_tellPar 8 = .ok (.getfield 270, 3) := by decide +kernel
theorem dX12_tellPar_11 : decode cX12_tellPar 11 = .ok (.ifCond .eq 4, 3) := by decide +kernel
theorem dX12_tellPar_14 : decode cX12_tellPar 14 = .ok (.return_, 1) := by decide +kernel
theorem dX12_tellPar_15 : decode cX12_tellPar 15 = .ok (.aload_n 0, 1) := by decide +kernel
theorem dX12_tellPar_16 : decode cX12_tellPar 16 = .ok (.iload_n 2, 1) := by decide +kernel
theorem dX12_tellPar_17 : decode cX12_tellPar 17 = .ok (.invokevirtual 407, 3) := by decide +kernel
theorem dX12_tellPar_20 : decode cX12_tellPar 20 = .ok (.aload_n 0, 1) := by decide +kernel
theorem dX12_tellPar_21 : decode cX12_tellPar 21 = .ok (.getfield 270, 3) := by decide +kernel
theorem dX12_tellPar_24 : decode cX12_tellPar 24 = .ok (.ifCond .eq 4, 3) := by decide +kernel
theorem dX12_tellPar_27 : decode cX12_tellPar 27 = .ok (.return_, 1) := by decide +kernel
theorem dX12_tellPar_28 : decode cX12_tellPar 28 = .ok (.aload_n 0, 1) := by decide +kernel
theorem dX12_tellPar_29 : decode cX12_tellPar 29 = .ok (.getfield 71, 3) := by decide +kernel
theorem dX12_tellPar_32 : decode cX12_tellPar 32 = .ok (.iload_n 2, 1) := by decide +kernel
theorem dX12_tellPar_33 : decode cX12_tellPar 33 = .ok (.aload_n 0, 1) := by decide +kernel
theorem dX12_tellPar_34 : decode cX12_tellPar 34 = .ok (.getfield 367, 3) := by decide +kernel
theorem dX12_tellPar_37 : decode cX12_tellPar 37 = .ok (.iastore, 1) := by decide +kernel
theorem dX12_tellPar_38 : decode cX12_tellPar 38 = .ok (.iconst 0, 1) := by decide +kernel
theorem dX12_tellPar_39 : decode cX12_tellPar 39 = .ok (.istore_n 3, 1) := by decide +kernel
theorem dX12_tellPar_40 : decode cX12_tellPar 40 = .ok (.aload_n 0, 1) := by decide +kernel
theorem dX12_tellPar_41 : decode cX12_tellPar 41 = .ok (.dup, 1) := by decide +kernel
theorem dX12_tellPar_42 : decode cX12_tellPar 42 = .ok (.getfield 315, 3) := by decide +kernel
theorem dX12_tellPar_45 : decode cX12_tellPar 45 = .ok (.iconst 1, 1) := by decide +kernel
theorem dX12_tellPar_46 : decode cX12_tellPar 46 = .ok (.iadd, 1) := by decide +kernel
theorem dX12_tellPar_47 : decode cX12_tellPar 47 = .ok (.putfield 315, 3) := by decide +kernel
theorem dX12_tellPar_50 : decode cX12_tellPar 50 = .ok (.aload_n 0, 1) := by decide +kernel
theorem dX12_tellPar_51 : decode cX12_tellPar 51 = .ok (.bipush 45, 2) := by decide +kernel
theorem dX12_tellPar_53 : decode cX12_tellPar 53 = .ok (.invokevirtual 318, 3) := by decide +kernel
theorem dX12_tellPar_56 : decode cX12_tellPar 56 = .ok (.istore 4, 2) := by decide +kernel
theorem dX12_tellPar_58 : decode cX12_tellPar 58 = .ok (.iload 4, 2) := by decide +kernel
theorem dX12_tellPar_60 : decode cX12_tellPar 60 = .ok (.ifCond .eq 13, 3) := by decide +kernel
theorem dX12_tellPar_63 : decode cX12_tellPar 63 = .ok (.aload_n 0, 1) := by decide +kernel
theorem dX12_tellPar_64 : decode cX12_tellPar 64 = .ok (.dup, 1) := by decide +kernel
theorem dX12_tellPar_65 : decode cX12_tellPar 65 = .ok (.getfield 315, 3) := by decide +kernel
theorem dX12_tellPar_68 : decode cX12_tellPar 68 = .ok (.iconst 1, 1) := by decide +kernel
theorem dX12_tellPar_69 : decode cX12_tellPar 69 = .ok (.iadd, 1) := by decide +kernel
theorem dX12_tellPar_70 : decode cX12_tellPar 70 = .ok (.putfield 315, 3) := by decide +kernel
theorem dX12_tellPar_73 : decode cX12_tellPar 73 = .ok (.aload_n 0, 1) := by decide +kernel
theorem dX12_tellPar_74 : decode cX12_tellPar 74 = .ok (.getfield 367, 3) := by decide +kernel
theorem dX12_tellPar_77 : decode cX12_tellPar 77 = .ok (.aload_n 0, 1) := by decide +kernel
theorem dX12_tellPar_78 : decode cX12_tellPar 78 = .ok (.getfield 74, 3) := by decide +kernel
theorem dX12_tellPar_81 : decode cX12_tellPar 81 = .ok (.arraylength, 1) := by decide +kernel
theorem dX12_tellPar_82 : decode cX12_tellPar 82 = .ok (.if_icmp .ge 39, 3) := by decide +kernel
theorem dX12_tellPar_85 : decode cX12_tellPar 85 = .ok (.aload_n 0, 1) := by decide +kernel
theorem dX12_tellPar_86 : decode cX12_tellPar 86 = .ok (.getfield 74, 3) := by decide +kernel
theorem dX12_tellPar_89 : decode cX12_tellPar 89 = .ok (.aload_n 0, 1) := by decide +kernel
theorem dX12_tellPar_90 : decode cX12_tellPar 90 = .ok (.getfield 367, 3) := by decide +kernel
theorem dX12_tellPar_93 : decode cX12_tellPar 93 = .ok (.iload 4, 2) := by decide +kernel
theorem dX12_tellPar_95 : decode cX12_tellPar 95 = .ok (.ifCond .eq 16, 3) := by decide +kernel
theorem dX12_tellPar_98 : decode cX12_tellPar 98 = .ok (.aload_n 0, 1) := by decide +kernel
theorem dX12_tellPar_99 : decode cX12_tellPar 99 = .ok (.getfield 56, 3) := by decide +kernel
theorem dX12_tellPar_102 : decode cX12_tellPar 102 = .ok (.aload_n 0, 1) := by decide +kernel
theorem dX12_tellPar_103 : decode cX12_tellPar 103 = .ok (.getfield 315, 3) := by decide +kernel
theorem dX12_tellPar_106 : decode cX12_tellPar 106 = .ok (.iaload, 1) := by decide +kernel
theorem dX12_tellPar_107 : decode cX12_tellPar 107 = .ok (.ineg, 1) := by decide +kernel
theorem dX12_tellPar_108 : decode cX12_tellPar 108 = .ok (.goto 12, 3) := by decide +kernel
theorem dX12_tellPar_111 : decode cX12_tellPar 111 = .ok (.aload_n 0, 1) := by decide +kernel
theorem dX12_tellPar_112 : decode cX12_tellPar 112 = .ok (.getfield 56, 3) := by decide +kernel
theorem dX12_tellPar_115 : decode cX12_tellPar 115 = .ok (.aload_n 0, 1) := by decide +kernel
theorem dX12_tellPar_116 : decode cX12_tellPar 116 = .ok (.getfield 315, 3) := by decide +kernel
theorem dX12_tellPar_119 : decode cX12_tellPar 119 = .ok (.iaload, 1) := by decide +kernel
theorem dX12_tellPar_120 : decode cX12_tellPar 120 = .ok (.iastore, 1) := by decide +kernel
theorem dX12_tellPar_121 : decode cX12_tellPar 121 = .ok (.aload_n 0, 1) := by decide +kernel
theorem dX12_tellPar_122 : decode cX12_tellPar 122 = .ok (.dup, 1) := by decide +kernel
theorem dX12_tellPar_123 : decode cX12_tellPar 123 = .ok (.getfield 367, 3) := by decide +kernel
theorem dX12_tellPar_126 : decode cX12_tellPar 126 = .ok (.iconst 1, 1) := by decide +kernel
theorem dX12_tellPar_127 : decode cX12_tellPar 127 = .ok (.iadd, 1) := by decide +kernel
theorem dX12_tellPar_128 : decode cX12_tellPar 128 = .ok (.putfield 367, 3) := by decide +kernel
theorem dX12_tellPar_131 : decode cX12_tellPar 131 = .ok (.iinc 3 1, 3) := by decide +kernel
theorem dX12_tellPar_134 : decode cX12_tellPar 134 = .ok (.aload_n 0, 1) := by decide +kernel
theorem dX12_tellPar_135 : decode cX12_tellPar 135 = .ok (.dup, 1) := by decide +kernel
theorem dX12_tellPar_136 : decode cX12_tellPar 136 = .ok (.getfield 315, 3) := by decide +kernel
theorem dX12_tellPar_139 : decode cX12_tellPar 139 = .ok (.iconst 1, 1) := by decide +kernel
theorem dX12_tellPar_140 : decode cX12_tellPar 140 = .ok (.iadd, 1) := by decide +kernel
theorem dX12_tellPar_141 : decode cX12_tellPar 141 = .ok (.putfield 315, 3) := by decide +kernel
theorem dX12_tellPar_144 : decode cX12_tellPar 144 = .ok (.aload_n 0, 1) := by decide +kernel
theorem dX12_tellPar_145 : decode cX12_tellPar 145 = .ok (.bipush 44, 2) := by decide +kernel
theorem dX12_tellPar_147 : decode cX12_tellPar 147 = .ok (.invokevirtual 318, 3) := by decide +kernel
theorem dX12_tellPar_150 : decode cX12_tellPar 150 = .ok (.ifCond .ne (-110), 3) := by decide +kernel
theorem dX12_tellPar_153 : decode cX12_tellPar 153 = .ok (.aload_n 0, 1) := by decide +kernel
theorem dX12_tellPar_154 : decode cX12_tellPar 154 = .ok (.dup, 1) := by decide +kernel
theorem dX12_tellPar_155 : decode cX12_tellPar 155 = .ok (.getfield 315, 3) := by decide +kernel
theorem dX12_tellPar_158 : decode cX12_tellPar 158 = .ok (.iconst 1, 1) := by decide +kernel
theorem dX12_tellPar_159 : decode cX12_tellPar 159 = .ok (.iadd, 1) := by decide +kernel
theorem dX12_tellPar_160 : decode cX12_tellPar 160 = .ok (.putfield 315, 3) := by decide +kernel
theorem dX12_tellPar_163 : decode cX12_tellPar 163 = .ok (.iload_n 3, 1) := by decide +kernel
theorem dX12_tellPar_164 : decode cX12_tellPar 164 = .ok (.aload_n 0, 1) := by decide +kernel
theorem dX12_tellPar_165 : decode cX12_tellPar 165 = .ok (.aload_n 0, 1) := by decide +kernel
theorem dX12_tellPar_166 : decode cX12_tellPar 166 = .ok (.getfield 65, 3) := by decide +kernel
theorem dX12_tellPar_169 : decode cX12_tellPar 169 = .ok (.iload_n 2, 1) := by decide +kernel
theorem dX12_tellPar_170 : decode cX12_tellPar 170 = .ok (.iaload, 1) := by decide +kernel
theorem dX12_tellPar_171 : decode cX12_tellPar 171 = .ok (.invokevirtual 410, 3) := by decide +kernel
theorem dX12_tellPar_174 : decode cX12_tellPar 174 = .ok (.aload_n 0, 1) := by decide +kernel
theorem dX12_tellPar_175 : decode cX12_tellPar 175 = .ok (.aload_n 0, 1) := by decide +kernel
theorem dX12_tellPar_176 : decode cX12_tellPar 176 = .ok (.getfield 68, 3) := by decide +kernel
theorem dX12_tellPar_179 : decode cX12_tellPar 179 = .ok (.iload_n 2, 1) := by decide +kernel
theorem dX12_tellPar_180 : decode cX12_tellPar 180 = .ok (.iaload, 1) := by decide +kernel
theorem dX12_tellPar_181 : decode cX12_tellPar 181 = .ok (.invokevirtual 410, 3) := by decide +kernel
theorem dX12_tellPar_184 : decode cX12_tellPar 184 = .ok (.imul, 1) := by decide +kernel
theorem dX12_tellPar_185 : decode cX12_tellPar 185 = .ok (.if_icmp .eq 9, 3) := by decide +kernel
theorem dX12_tellPar_188 : decode cX12_tellPar 188 = .ok (.aload_n 0, 1) := by decide +kernel
theorem dX12_tellPar_189 : decode cX12_tellPar 189 = .ok (.iconst 3, 1) := by decide +kernel
theorem dX12_tellPar_190 : decode cX12_tellPar 190 = .ok (.iload_n 1, 1) := by decide +kernel
theorem dX12_tellPar_191 : decode cX12_tellPar 191 = .ok (.invokevirtual 321, 3) := by decide +kernel
theorem dX12_tellPar_194 : decode cX12_tellPar 194 = .ok (.aload_n 0, 1) := by decide +kernel
theorem dX12_tellPar_195 : decode cX12_tellPar 195 = .ok (.dup, 1) := by decide +kernel
theorem dX12_tellPar_196 : decode cX12_tellPar 196 = .ok (.getfield 373, 3) := by decide +kernel
theorem dX12_tellPar_199 : decode cX12_tellPar 199 = .ok (.iconst 1, 1) := by decide +kernel
theorem dX12_tellPar_200 : decode cX12_tellPar 200 = .ok (.iadd, 1) := by decide +kernel
theorem dX12_tellPar_201 : decode cX12_tellPar 201 = .ok (.putfield 373, 3) := by decide +kernel
theorem dX12_tellPar_204 : decode cX12_tellPar 204 = .ok (.aload_n 0, 1) := by decide +kernel
theorem dX12_tellPar_205 : decode cX12_tellPar 205 = .ok (.getfield 373, 3) := by decide +kernel
theorem dX12_tellPar_208 : decode cX12_tellPar 208 = .ok (.bipush 12, 2) := by decide +kernel
theorem dX12_tellPar_210 : decode cX12_tellPar 210 = .ok (.if_icmp .le 10, 3) := by decide +kernel
theorem dX12_tellPar_213 : decode cX12_tellPar 213 = .ok (.aload_n 0, 1) := by decide +kernel
theorem dX12_tellPar_214 : decode cX12_tellPar 214 = .ok (.bipush 7, 2) := by decide +kernel
theorem dX12_tellPar_216 : decode cX12_tellPar 216 = .ok (.iload_n 1, 1) := by decide +kernel
theorem dX12_tellPar_217 : decode cX12_tellPar 217 = .ok (.invokevirtual 321, 3) := by decide +kernel
theorem dX12_tellPar_220 : decode cX12_tellPar 220 = .ok (.return_, 1) := by decide +kernel
theorem dX12_tellSet_0 : decode cX12_tellSet 0 = .ok (.aload_n 0, 1) := by decide +kernel
theorem dX12_tellSet_1 : decode cX12_tellSet 1 = .ok (.iload_n 1, 1) := by decide +kernel
theorem dX12_tellSet_2 : decode cX12_tellSet 2 = .ok (.iconst 1, 1) := by decide +kernel
theorem dX12_tellSet_3 : decode cX12_tellSet 3 = .ok (.invokevirtual 404, 3) := by decide +kernel
theorem dX12_tellSet_6 : decode cX12_tellSet 6 = .ok (.istore_n 2, 1) := by decide +kernel
theorem dX12_tellSet_7 : decode cX12_tellSet 7 = .ok (.aload_n 0, 1) := by decide +kernel
theorem dX12_tellSet_8 : decode cX12_tellSet 8 = .ok (.getfield 270, 3) := by decide +kernel
theorem dX12_tellSet_11 : decode cX12_tellSet 11 = .ok (.ifCond .eq 4, 3) := by decide +kernel
theorem dX12_tellSet_14 : decode cX12_tellSet 14 = .ok (.return_, 1) := by decide +kernel
theorem dX12_tellSet_15 : decode cX12_tellSet 15 = .ok (.aload_n 0, 1) := by decide +kernel
theorem dX12_tellSet_16 : decode cX12_tellSet 16 = .ok (.getfield 65, 3) := by decide +kernel
theorem dX12_tellSet_19 : decode cX12_tellSet 19 = .ok (.iload_n 2, 1) := by decide +kernel
theorem dX12_tellSet_20 : decode cX12_tellSet 20 = .ok (.aload_n 0, 1) := by decide +kernel
theorem dX12_tellSet_21 : decode cX12_tellSet 21 = .ok (.getfield 56, 3) := by decide +kernel
theorem dX12_tellSet_24 : decode cX12_tellSet 24 = .ok (.aload_n 0, 1) := by decide +kernel
theorem dX12_tellSet_25 : decode cX12_tellSet 25 = .ok (.getfield 315, 3) := by decide +kernel
theorem dX12_tellSet_28 : decode cX12_tellSet 28 = .ok (.iconst 1, 1) := by decide +kernel
theorem dX12_tellSet_29 : decode cX12_tellSet 29 = .ok (.iadd, 1) := by decide +kernel
theorem dX12_tellSet_30 : decode cX12_tellSet 30 = .ok (.iaload, 1) := by decide +kernel
theorem dX12_tellSet_31 : decode cX12_tellSet 31 = .ok (.iastore, 1) := by decide +kernel
theorem dX12_tellSet_32 : decode cX12_tellSet 32 = .ok (.aload_n 0, 1) := by decide +kernel
theorem dX12_tellSet_33 : decode cX12_tellSet 33 = .ok (.getfield 68, 3) := by decide +kernel
theorem dX12_tellSet_36 : decode cX12_tellSet 36 = .ok (.iload_n 2, 1) := by decide +kernel
theorem dX12_tellSet_37 : decode cX12_tellSet 37 = .ok (.aload_n 0, 1) := by decide +kernel
theorem dX12_tellSet_38 : decode cX12_tellSet 38 = .ok (.getfield 56, 3) := by decide +kernel
theorem dX12_tellSet_41 : decode cX12_tellSet 41 = .ok (.aload_n 0, 1) := by decide +kernel
theorem dX12_tellSet_42 : decode cX12_tellSet 42 = .ok (.getfield 315, 3) := by decide +kernel
theorem dX12_tellSet_45 : decode cX12_tellSet 45 = .ok (.iconst 3, 1) := by decide +kernel
theorem dX12_tellSet_46 : decode cX12_tellSet 46 = .ok (.iadd, 1) := by decide +kernel
theorem dX12_tellSet_47 : decode cX12_tellSet 47 = .ok (.iaload, 1) := by decide +kernel
theorem dX12_tellSet_48 : decode cX12_tellSet 48 = .ok (.iastore, 1) := by decide +kernel
theorem dX12_tellSet_49 : decode cX12_tellSet 49 = .ok (.aload_n 0, 1) := by decide +kernel
theorem dX12_tellSet_50 : decode cX12_tellSet 50 = .ok (.dup, 1) := by decide +kernel
theorem dX12_tellSet_51 : decode cX12_tellSet 51 = .ok (.getfield 315, 3) := by decide +kernel
theorem dX12_tellSet_54 : decode cX12_tellSet 54 = .ok (.iconst 5, 1) := by decide +kernel
theorem dX12_tellSet_55 : decode cX12_tellSet 55 = .ok (.iadd, 1) := by decide +kernel
theorem dX12_tellSet_56 : decode cX12_tellSet 56 = .ok (.putfield 315, 3) := by decide +kernel
theorem dX12_tellSet_59 : decode cX12_tellSet 59 = .ok (.aload_n 0, 1) := by decide +kernel
theorem dX12_tellSet_60 : decode cX12_tellSet 60 = .ok (.getfield 65, 3) := by decide +kernel
theorem dX12_tellSet_63 : decode cX12_tellSet 63 = .ok (.iload_n 2, 1) := by decide +kernel
theorem dX12_tellSet_64 : decode cX12_tellSet 64 = .ok (.iaload, 1) := by decide +kernel
theorem dX12_tellSet_65 : decode cX12_tellSet 65 = .ok (.aload_n 0, 1) := by decide +kernel
theorem dX12_tellSet_66 : decode cX12_tellSet 66 = .ok (.getfield 68, 3) := by decide +kernel
theorem dX12_tellSet_69 : decode cX12_tellSet 69 = .ok (.iload_n 2, 1) := by decide +kernel
theorem dX12_tellSet_70 : decode cX12_tellSet 70 = .ok (.iaload, 1) := by decide +kernel
theorem dX12_tellSet_71 : decode cX12_tellSet 71 = .ok (.if_icmp .gt 21, 3) := by decide +kernel
theorem dX12_tellSet_74 : decode cX12_tellSet 74 = .ok (.aload_n 0, 1) := by decide +kernel
theorem dX12_tellSet_75 : decode cX12_tellSet 75 = .ok (.getfield 68, 3) := by decide +kernel
theorem dX12_tellSet_78 : decode cX12_tellSet 78 = .ok (.iload_n 2, 1) := by decide +kernel
theorem dX12_tellSet_79 : decode cX12_tellSet 79 = .ok (.iaload, 1) := by decide +kernel
theorem dX12_tellSet_80 : decode cX12_tellSet 80 = .ok (.aload_n 0, 1) := by decide +kernel
theorem dX12_tellSet_81 : decode cX12_tellSet 81 = .ok (.getfield 65, 3) := by decide +kernel
theorem dX12_tellSet_84 : decode cX12_tellSet 84 = .ok (.iload_n 2, 1) := by decide +kernel
theorem dX12_tellSet_85 : decode cX12_tellSet 85 = .ok (.iaload, 1) := by decide +kernel
theorem dX12_tellSet_86 : decode cX12_tellSet 86 = .ok (.isub, 1) := by decide +kernel
theorem dX12_tellSet_87 : decode cX12_tellSet 87 = .ok (.bipush 12, 2) := by decide +kernel
theorem dX12_tellSet_89 : decode cX12_tellSet 89 = .ok (.if_icmp .lt 9, 3) := by decide +kernel
theorem dX12_tellSet_92 : decode cX12_tellSet 92 = .ok (.aload_n 0, 1) := by decide +kernel
theorem dX12_tellSet_93 : decode cX12_tellSet 93 = .ok (.iconst 3, 1) := by decide +kernel
theorem dX12_tellSet_94 : decode cX12_tellSet 94 = .ok (.iload_n 1, 1) := by decide +kernel
theorem dX12_tellSet_95 : decode cX12_tellSet 95 = .ok (.invokevirtual 321, 3) := by decide +kernel
theorem dX12_tellSet_98 : decode cX12_tellSet 98 = .ok (.aload_n 0, 1) := by decide +kernel
theorem dX12_tellSet_99 : decode cX12_tellSet 99 = .ok (.dup, 1) := by decide +kernel
theorem dX12_tellSet_100 : decode cX12_tellSet 100 = .ok (.getfield 370, 3) := by decide +kernel
theorem dX12_tellSet_103 : decode cX12_tellSet 103 = .ok (.iconst 1, 1) := by decide +kernel
theorem dX12_tellSet_104 : decode cX12_tellSet 104 = .ok (.iadd, 1) := by decide +kernel
theorem dX12_tellSet_105 : decode cX12_tellSet 105 = .ok (.putfield 370, 3) := by decide +kernel
theorem dX12_tellSet_108 : decode cX12_tellSet 108 = .ok (.aload_n 0, 1) := by decide +kernel
theorem dX12_tellSet_109 : decode cX12_tellSet 109 = .ok (.getfield 370, 3) := by decide +kernel
theorem dX12_tellSet_112 : decode cX12_tellSet 112 = .ok (.bipush 8, 2) := by decide +kernel
theorem dX12_tellSet_114 : decode cX12_tellSet 114 = .ok (.if_icmp .le 10, 3) := by decide +kernel
theorem dX12_tellSet_117 : decode cX12_tellSet 117 = .ok (.aload_n 0, 1) := by decide +kernel
theorem dX12_tellSet_118 : decode cX12_tellSet 118 = .ok (.bipush 7, 2) := by decide +kernel
theorem dX12_tellSet_120 : decode cX12_tellSet 120 = .ok (.iload_n 1, 1) := by decide +kernel
theorem dX12_tellSet_121 : decode cX12_tellSet 121 = .ok (.invokevirtual 321, 3) := by decide +kernel
theorem dX12_tellSet_124 : decode cX12_tellSet 124 = .ok (.return_, 1) := by decide +kernel
theorem dX12_tellVar_0 : decode cX12_tellVar 0 = .ok (.aload_n 0, 1) := by decide +kernel
theorem dX12_tellVar_1 : decode cX12_tellVar 1 = .ok (.iload_n 1, 1) := by decide +kernel
theorem dX12_tellVar_2 : decode cX12_tellVar 2 = .ok (.iconst 3, 1) := by decide +kernel
theorem dX12_tellVar_3 : decode cX12_tellVar 3 = .ok (.invokevirtual 404, 3) := by decide +kernel
theorem dX12_tellVar_6 : decode cX12_tellVar 6 = .ok (.istore_n 2, 1) := by decide +kernel
theorem dX12_tellVar_7 : decode cX12_tellVar 7 = .ok (.aload_n 0, 1) := by decide +kernel
theorem dX12_tellVar_8 : decode cX12_tellVar 8 = .ok (.getfield 270, 3) := by decide +kernel
theorem dX12_tellVar_11 : decode cX12_tellVar 11 = .ok (.ifCond .eq 4, 3) := by decide +kernel
theorem dX12_tellVar_14 : decode cX12_tellVar 14 = .ok (.return_, 1) := by decide +kernel
theorem dX12_tellVar_15 : decode cX12_tellVar 15 = .ok (.aload_n 0, 1) := by decide +kernel
theorem dX12_tellVar_16 : decode cX12_tellVar 16 = .ok (.iload_n 2, 1) := by decide +kernel
theorem dX12_tellVar_17 : decode cX12_tellVar 17 = .ok (.invokevirtual 407, 3) := by decide +kernel
theorem dX12_tellVar_20 : decode cX12_tellVar 20 = .ok (.aload_n 0, 1) := by decide +kernel
theorem dX12_tellVar_21 : decode cX12_tellVar 21 = .ok (.getfield 270, 3) := by decide +kernel
theorem dX12_tellVar_24 : decode cX12_tellVar 24 = .ok (.ifCond .eq 4, 3) := by decide +kernel
theorem dX12_tellVar_27 : decode cX12_tellVar 27 = .ok (.return_, 1) := by decide +kernel
theorem dX12_tellVar_28 : decode cX12_tellVar 28 = .ok (.aload_n 0, 1) := by decide +kernel
theorem dX12_tellVar_29 : decode cX12_tellVar 29 = .ok (.iconst 5, 1) := by decide +kernel
theorem dX12_tellVar_30 : decode cX12_tellVar 30 = .ok (.invokevirtual 325, 3) := by decide +kernel
theorem dX12_tellVar_33 : decode cX12_tellVar 33 = .ok (.istore_n 3, 1) := by decide +kernel
theorem dX12_tellVar_34 : decode cX12_tellVar 34 = .ok (.iload_n 3, 1) := by decide +kernel
theorem dX12_tellVar_35 : decode cX12_tellVar 35 = .ok (.ifCond .eq 13, 3) := by decide +kernel
theorem dX12_tellVar_38 : decode cX12_tellVar 38 = .ok (.aload_n 0, 1) := by decide +kernel
theorem dX12_tellVar_39 : decode cX12_tellVar 39 = .ok (.dup, 1) := by decide +kernel
theorem dX12_tellVar_40 : decode cX12_tellVar 40 = .ok (.getfield 315, 3) := by decide +kernel
theorem dX12_tellVar_43 : decode cX12_tellVar 43 = .ok (.iconst 1, 1) := by decide +kernel
theorem dX12_tellVar_44 : decode cX12_tellVar 44 = .ok (.iadd, 1) := by decide +kernel
theorem dX12_tellVar_45 : decode cX12_tellVar 45 = .ok (.putfield 315, 3) := by decide +kernel
theorem dX12_tellVar_48 : decode cX12_tellVar 48 = .ok (.aload_n 0, 1) := by decide +kernel
theorem dX12_tellVar_49 : decode cX12_tellVar 49 = .ok (.dup, 1) := by decide +kernel
theorem dX12_tellVar_50 : decode cX12_tellVar 50 = .ok (.getfield 315, 3) := by decide +kernel
theorem dX12_tellVar_53 : decode cX12_tellVar 53 = .ok (.iconst 1, 1) := by decide +kernel
theorem dX12_tellVar_54 : decode cX12_tellVar 54 = .ok (.iadd, 1) := by decide +kernel
theorem dX12_tellVar_55 : decode cX12_tellVar 55 = .ok (.putfield 315, 3) := by decide +kernel
theorem dX12_tellVar_58 : decode cX12_tellVar 58 = .ok (.aload_n 0, 1) := by decide +kernel
theorem dX12_tellVar_59 : decode cX12_tellVar 59 = .ok (.aload_n 0, 1) := by decide +kernel
theorem dX12_tellVar_60 : decode cX12_tellVar 60 = .ok (.getfield 65, 3) := by decide +kernel
theorem dX12_tellVar_63 : decode cX12_tellVar 63 = .ok (.iload_n 2, 1) := by decide +kernel
theorem dX12_tellVar_64 : decode cX12_tellVar 64 = .ok (.iaload, 1) := by decide +kernel
theorem dX12_tellVar_65 : decode cX12_tellVar 65 = .ok (.invokevirtual 410, 3) := by decide +kernel
theorem dX12_tellVar_68 : decode cX12_tellVar 68 = .ok (.aload_n 0, 1) := by decide +kernel
theorem dX12_tellVar_69 : decode cX12_tellVar 69 = .ok (.aload_n 0, 1) := by decide +kernel
theorem dX12_tellVar_70 : decode cX12_tellVar 70 = .ok (.getfield 68, 3) := by decide +kernel
theorem dX12_tellVar_73 : decode cX12_tellVar 73 = .ok (.iload_n 2, 1) := by decide +kernel
theorem dX12_tellVar_74 : decode cX12_tellVar 74 = .ok (.iaload, 1) := by decide +kernel
theorem dX12_tellVar_75 : decode cX12_tellVar 75 = .ok (.invokevirtual 410, 3) := by decide +kernel
theorem dX12_tellVar_78 : decode cX12_tellVar 78 = .ok (.imul, 1) := by decide +kernel
theorem dX12_tellVar_79 : decode cX12_tellVar 79 = .ok (.istore 4, 2) := by decide +kernel
theorem dX12_tellVar_81 : decode cX12_tellVar 81 = .ok (.aload_n 0, 1) := by decide +kernel
theorem dX12_tellVar_82 : decode cX12_tellVar 82 = .ok (.getfield 71, 3) := by decide +kernel
theorem dX12_tellVar_85 : decode cX12_tellVar 85 = .ok (.iload_n 2, 1) := by decide +kernel
theorem dX12_tellVar_86 : decode cX12_tellVar 86 = .ok (.aload_n 0, 1) := by decide +kernel
theorem dX12_tellVar_87 : decode cX12_tellVar 87 = .ok (.getfield 379, 3) := by decide +kernel
theorem dX12_tellVar_90 : decode cX12_tellVar 90 = .ok (.iconst 1, 1) := by decide +kernel
theorem dX12_tellVar_91 : decode cX12_tellVar 91 = .ok (.iadd, 1) := by decide +kernel
theorem dX12_tellVar_92 : decode cX12_tellVar 92 = .ok (.iastore, 1) := by decide +kernel
theorem dX12_tellVar_93 : decode cX12_tellVar 93 = .ok (.aload_n 0, 1) := by decide +kernel
theorem dX12_tellVar_94 : decode cX12_tellVar 94 = .ok (.getfield 379, 3) := by decide +kernel
theorem dX12_tellVar_97 : decode cX12_tellVar 97 = .ok (.iload 4, 2) := by decide +kernel
theorem dX12_tellVar_99 : decode cX12_tellVar 99 = .ok (.iadd, 1) := by decide +kernel
theorem dX12_tellVar_100 : decode cX12_tellVar 100 = .ok (.bipush 12, 2) := by decide +kernel
theorem dX12_tellVar_102 : decode cX12_tellVar 102 = .ok (.if_icmp .le 11, 3) := by decide +kernel
theorem dX12_tellVar_105 : decode cX12_tellVar 105 = .ok (.aload_n 0, 1) := by decide +kernel
theorem dX12_tellVar_106 : decode cX12_tellVar 106 = .ok (.bipush 7, 2) := by decide +kernel
theorem dX12_tellVar_108 : decode cX12_tellVar 108 = .ok (.iload_n 1, 1) := by decide +kernel
theorem dX12_tellVar_109 : decode cX12_tellVar 109 = .ok (.invokevirtual 321, 3) := by decide +kernel
theorem dX12_tellVar_112 : decode cX12_tellVar 112 = .ok (.return_, 1) := by decide +kernel
theorem dX12_tellVar_113 : decode cX12_tellVar 113 = .ok (.iconst 0, 1) := by decide +kernel
theorem dX12_tellVar_114 : decode cX12_tellVar 114 = .ok (.istore 5, 2) := by decide +kernel
theorem dX12_tellVar_116 : decode cX12_tellVar 116 = .ok (.iload 5, 2) := by decide +kernel
theorem dX12_tellVar_118 : decode cX12_tellVar 118 = .ok (.iload 4, 2) := by decide +kernel
theorem dX12_tellVar_120 : decode cX12_tellVar 120 = .ok (.if_icmp .ge 29, 3) := by decide +kernel
theorem dX12_tellVar_123 : decode cX12_tellVar 123 = .ok (.aload_n 0, 1) := by decide +kernel
theorem dX12_tellVar_124 : decode cX12_tellVar 124 = .ok (.dup, 1) := by decide +kernel
theorem dX12_tellVar_125 : decode cX12_tellVar 125 = .ok (.getfield 379, 3) := by decide +kernel
theorem dX12_tellVar_128 : decode cX12_tellVar 128 = .ok (.iconst 1, 1) := by decide +kernel
theorem dX12_tellVar_129 : decode cX12_tellVar 129 = .ok (.iadd, 1) := by decide +kernel
theorem dX12_tellVar_130 : decode cX12_tellVar 130 = .ok (.putfield 379, 3) := by decide +kernel
theorem dX12_tellVar_133 : decode cX12_tellVar 133 = .ok (.aload_n 0, 1) := by decide +kernel
theorem dX12_tellVar_134 : decode cX12_tellVar 134 = .ok (.getfield 77, 3) := by decide +kernel
theorem dX12_tellVar_137 : decode cX12_tellVar 137 = .ok (.aload_n 0, 1) := by decide +kernel
theorem dX12_tellVar_138 : decode cX12_tellVar 138 = .ok (.getfield 379, 3) := by decide +kernel
theorem dX12_tellVar_141 : decode cX12_tellVar 141 = .ok (.iload_n 3, 1) := by decide +kernel
theorem dX12_tellVar_142 : decode cX12_tellVar 142 = .ok (.bastore, 1) := by decide +kernel
theorem dX12_tellVar_143 : decode cX12_tellVar 143 = .ok (.iinc 5 1, 3) := by decide +kernel
theorem dX12_tellVar_146 : decode cX12_tellVar 146 = .ok (.goto (-30), 3) := by decide +kernel
theorem dX12_tellVar_149 : decode cX12_tellVar 149 = .ok (.return_, 1) := by decide +kernel
theorem w_128 : Cond.selects RX12 yX12_indexesOf yX12_indexesOf ∈ tb := sel_9 (q := (yX12_indexesOf, 105)) 0 (by decide +kernel)
theorem w_1993 : Cond.fieldLink RX12 367 (TX12 32).1 (TX12 32).2.1 (TX12 32).2.2.1 ∈ tb := tbc_8 110 (by decide +kernel) rfl
theorem w_1994 : Cond.fieldLink RX12 370 (TX12 33).1 (TX12 33).2.1 (TX12 33).2.2.1 ∈ tb := tbc_8 111 (by decide +kernel) rfl
theorem w_1995 : Cond.fieldLink RX12 373 (TX12 34).1 (TX12 34).2.1 (TX12 34).2.2.1 ∈ tb := tbc_8 112 (by decide +kernel) rfl
theorem w_1996 : Cond.fieldLink RX12 379 (TX12 35).1 (TX12 35).2.1 (TX12 35).2.2.1 ∈ tb := tbc_8 113 (by decide +kernel) rfl
theorem w_1998 : Cond.fieldLink RX12 77 (TX12 37).1 (TX12 37).2.1 (TX12 37).2.2.1 ∈ tb := tbc_8 115 (by decide +kernel) rfl
theorem w_2398 : Cond.methodLink RX12 407 yX12_indexesOf ∈ tb := tbc_10 35 (by decide +kernel) rfl
theorem w_2400 : Cond.instanceMethod yX12_indexesOf ∈ tb := tbc_10 37 (by decide +kernel) rfl
theorem w_2401 : Cond.code yX12_indexesOf cX12_indexesOf 2 none ∈ tb := tbc_10 38 (by decide +kernel) rfl
section RW76
variable {p : Program} {l : Launch} {e : Env} {R : Room} {s : State} {m : MethodId} {args : Array Value} {below : List Frame} {meth : Method} {c : Code} {H : Heap} {locs : List Loc} {cells slots : Nat} {Q : State → Prop}
variable {cc : ByteArray} {pc nL : Nat} {ls : Array Slot} {rest st0 : List Value} {G : sG} {n : Nat} {S : sS}
theorem g_X12_370 (Cx : sC G p m c cc nL s args RX12) (hW : sW G n S H) {k : Nat} (hk : k < n) (ht : tau k = .inl 12) {v : Int} (hv : S.1 k 33 = v) (hdg : decode cc pc = .ok (.getfield 370, 3)) (kk : W p l e R s m args below meth c H locs cells slots Q (F0 m (pc + 3) ls (.int (iv v) :: rest))) : W p l e R s m args below meth c H locs cells slots Q (F0 m pc ls (.ref (G.2.2.1 + k) :: rest)) :=
  sGet Cx inX12 rfl 33 (by decide) w_1994 hW hk ht (congrArg (fun z => Value.int (iv z)) hv) hdg kk
theorem p_X12_370 (Cx : sC G p m c cc nL s args RX12) (hW : sW G n S H) (hL : sL G locs) {k : Nat} (hk : k < n) (ht : tau k = .inl 12) {v : Int} (hdg : decode cc pc = .ok (.putfield 370, 3)) (kk : ∀ (H1 : Heap) (locs1 : List Loc), sW G n (uF S k 33 v) H1 → sL G locs1 → W p l e R s m args below meth c H1 locs1 cells slots Q (F0 m (pc + 3) ls rest)) : W p l e R s m args below meth c H locs cells slots Q (F0 m pc ls (.int (iv v) :: .ref (G.2.2.1 + k) :: rest)) :=
  sPut Cx inX12 tyX12 tyX12_ok nmX12 rfl 33 (by decide) w_1994 rfl hW hL hk ht rfl rfl (fun _ h => uF_same h) (fun _ h => uF_off h) (congrArg (fun z => Value.int (iv z)) uF_on) hdg kk
theorem c_X12_407 (Cx : sC G p m c cc nL s args RX12) {rm : Room} {mc ms : Nat} (h1 : rm.cells = mc) (h2 : rm.slots = ms) (h3 : rm.frames + 1 ≤ R.frames ∧ 8 + (2 + 11) + rm.locals ≤ R.locals) : CallW R s args RX12 RX12 407 yX12_indexesOf cX12_indexesOf 2 none (.code yX12_indexesOf cX12_indexesOf 2 none :: tb) rm mc ms 1 :=
  sCw Cx 1 w_2398 w_2400 w_128 w_217 w_2401 (by decide +kernel) h1 h2 h3
theorem g_X12_367 (Cx : sC G p m c cc nL s args RX12) (hW : sW G n S H) {k : Nat} (hk : k < n) (ht : tau k = .inl 12) {v : Int} (hv : S.1 k 32 = v) (hdg : decode cc pc = .ok (.getfield 367, 3)) (kk : W p l e R s m args below meth c H locs cells slots Q (F0 m (pc + 3) ls (.int (iv v) :: rest))) : W p l e R s m args below meth c H locs cells slots Q (F0 m pc ls (.ref (G.2.2.1 + k) :: rest)) :=
  sGet Cx inX12 rfl 32 (by decide) w_1993 hW hk ht (congrArg (fun z => Value.int (iv z)) hv) hdg kk
theorem p_X12_367 (Cx : sC G p m c cc nL s args RX12) (hW : sW G n S H) (hL : sL G locs) {k : Nat} (hk : k < n) (ht : tau k = .inl 12) {v : Int} (hdg : decode cc pc = .ok (.putfield 367, 3)) (kk : ∀ (H1 : Heap) (locs1 : List Loc), sW G n (uF S k 32 v) H1 → sL G locs1 → W p l e R s m args below meth c H1 locs1 cells slots Q (F0 m (pc + 3) ls rest)) : W p l e R s m args below meth c H locs cells slots Q (F0 m pc ls (.int (iv v) :: .ref (G.2.2.1 + k) :: rest)) :=
  sPut Cx inX12 tyX12 tyX12_ok nmX12 rfl 32 (by decide) w_1993 rfl hW hL hk ht rfl rfl (fun _ h => uF_same h) (fun _ h => uF_off h) (congrArg (fun z => Value.int (iv z)) uF_on) hdg kk
theorem g_X12_373 (Cx : sC G p m c cc nL s args RX12) (hW : sW G n S H) {k : Nat} (hk : k < n) (ht : tau k = .inl 12) {v : Int} (hv : S.1 k 34 = v) (hdg : decode cc pc = .ok (.getfield 373, 3)) (kk : W p l e R s m args below meth c H locs cells slots Q (F0 m (pc + 3) ls (.int (iv v) :: rest))) : W p l e R s m args below meth c H locs cells slots Q (F0 m pc ls (.ref (G.2.2.1 + k) :: rest)) :=
  sGet Cx inX12 rfl 34 (by decide) w_1995 hW hk ht (congrArg (fun z => Value.int (iv z)) hv) hdg kk
theorem p_X12_373 (Cx : sC G p m c cc nL s args RX12) (hW : sW G n S H) (hL : sL G locs) {k : Nat} (hk : k < n) (ht : tau k = .inl 12) {v : Int} (hdg : decode cc pc = .ok (.putfield 373, 3)) (kk : ∀ (H1 : Heap) (locs1 : List Loc), sW G n (uF S k 34 v) H1 → sL G locs1 → W p l e R s m args below meth c H1 locs1 cells slots Q (F0 m (pc + 3) ls rest)) : W p l e R s m args below meth c H locs cells slots Q (F0 m pc ls (.int (iv v) :: .ref (G.2.2.1 + k) :: rest)) :=
  sPut Cx inX12 tyX12 tyX12_ok nmX12 rfl 34 (by decide) w_1995 rfl hW hL hk ht rfl rfl (fun _ h => uF_same h) (fun _ h => uF_off h) (congrArg (fun z => Value.int (iv z)) uF_on) hdg kk
theorem g_X12_379 (Cx : sC G p m c cc nL s args RX12) (hW : sW G n S H) {k : Nat} (hk : k < n) (ht : tau k = .inl 12) {v : Int} (hv : S.1 k 35 = v) (hdg : decode cc pc = .ok (.getfield 379, 3)) (kk : W p l e R s m args below meth c H locs cells slots Q (F0 m (pc + 3) ls (.int (iv v) :: rest))) : W p l e R s m args below meth c H locs cells slots Q (F0 m pc ls (.ref (G.2.2.1 + k) :: rest)) :=
  sGet Cx inX12 rfl 35 (by decide) w_1996 hW hk ht (congrArg (fun z => Value.int (iv z)) hv) hdg kk
theorem p_X12_379 (Cx : sC G p m c cc nL s args RX12) (hW : sW G n S H) (hL : sL G locs) {k : Nat} (hk : k < n) (ht : tau k = .inl 12) {v : Int} (hdg : decode cc pc = .ok (.putfield 379, 3)) (kk : ∀ (H1 : Heap) (locs1 : List Loc), sW G n (uF S k 35 v) H1 → sL G locs1 → W p l e R s m args below meth c H1 locs1 cells slots Q (F0 m (pc + 3) ls rest)) : W p l e R s m args below meth c H locs cells slots Q (F0 m pc ls (.int (iv v) :: .ref (G.2.2.1 + k) :: rest)) :=
  sPut Cx inX12 tyX12 tyX12_ok nmX12 rfl 35 (by decide) w_1996 rfl hW hL hk ht rfl rfl (fun _ h => uF_same h) (fun _ h => uF_off h) (congrArg (fun z => Value.int (iv z)) uF_on) hdg kk
theorem g_X12_77 (Cx : sC G p m c cc nL s args RX12) (hW : sW G n S H) {k : Nat} (hk : k < n) (ht : tau k = .inl 12) {v : Value} (hv : S.2.2.2 k 37 = v) (hdg : decode cc pc = .ok (.getfield 77, 3)) (kk : W p l e R s m args below meth c H locs cells slots Q (F0 m (pc + 3) ls (v :: rest))) : W p l e R s m args below meth c H locs cells slots Q (F0 m pc ls (.ref (G.2.2.1 + k) :: rest)) :=
  sGet Cx inX12 rfl 37 (by decide) w_1998 hW hk ht hv hdg kk
end RW76
