theorem dX9_read_0 : decode cX9_read 0 = .ok (.aload_n 0, 1) := by decide +kernel
theorem dX9_read_1 : decode cX9_read 1 = .ok (.iconst 0, 1) := by decide +kernel
theorem dX9_read_2 : decode cX9_read 2 = .ok (.putfield 54, 3) := by decide +kernel
theorem dX9_read_5 : decode cX9_read 5 = .ok (.aload_n 0, 1) := by decide +kernel
theorem dX9_read_6 : decode cX9_read 6 = .ok (.iconst (-1), 1) := by decide +kernel
theorem dX9_read_7 : decode cX9_read 7 = .ok (.putfield 50, 3) := by decide +kernel
theorem dX9_read_10 : decode cX9_read 10 = .ok (.aload_n 1, 1) := by decide +kernel
theorem dX9_read_11 : decode cX9_read 11 = .ok (.invokevirtual 57, 3) := by decide +kernel
theorem dX9_read_14 : decode cX9_read 14 = .ok (.sipush 2000, 3) := by decide +kernel
theorem dX9_read_17 : decode cX9_read 17 = .ok (.if_icmp .le 20, 3) := by decide +kernel
theorem dX9_read_20 : decode cX9_read 20 = .ok (.aload_n 0, 1) := by decide +kernel
theorem dX9_read_21 : decode cX9_read 21 = .ok (.iconst 1, 1) := by decide +kernel
theorem dX9_read_22 : decode cX9_read 22 = .ok (.putfield 54, 3) := by decide +kernel
theorem dX9_read_25 : decode cX9_read 25 = .ok (.aload_n 0, 1) := by decide +kernel
theorem dX9_read_26 : decode cX9_read 26 = .ok (.sipush 2000, 3) := by decide +kernel
theorem dX9_read_29 : decode cX9_read 29 = .ok (.putfield 50, 3) := by decide +kernel
theorem dX9_read_32 : decode cX9_read 32 = .ok (.aload_n 0, 1) := by decide +kernel
theorem dX9_read_33 : decode cX9_read 33 = .ok (.getfield 54, 3) := by decide +kernel
theorem dX9_read_36 : decode cX9_read 36 = .ok (.ireturn, 1) := by decide +kernel
theorem dX9_read_37 : decode cX9_read 37 = .ok (.aload_n 0, 1) := by decide +kernel
theorem dX9_read_38 : decode cX9_read 38 = .ok (.getfield 14, 3) := by decide +kernel
theorem dX9_read_41 : decode cX9_read 41 = .ok (.aload_n 1, 1) := by decide +kernel
theorem dX9_read_42 : decode cX9_read 42 = .ok (.invokevirtual 63, 3) := by decide +kernel
theorem dX9_read_45 : decode cX9_read 45 = .ok (.aload_n 0, 1) := by decide +kernel
theorem dX9_read_46 : decode cX9_read 46 = .ok (.getfield 14, 3) := by decide +kernel
theorem dX9_read_49 : decode cX9_read 49 = .ok (.invokevirtual 67, 3) := by decide +kernel
theorem dX9_read_52 : decode cX9_read 52 = .ok (.ifCond .ne 24, 3) := by decide +kernel
theorem dX9_read_55 : decode cX9_read 55 = .ok (.aload_n 0, 1) := by decide +kernel
theorem dX9_read_56 : decode cX9_read 56 = .ok (.iconst 1, 1) := by decide +kernel
theorem dX9_read_57 : decode cX9_read 57 = .ok (.putfield 54, 3) := by decide +kernel
theorem dX9_read_60 : decode cX9_read 60 = .ok (.aload_n 0, 1) := by decide +kernel
theorem dX9_read_61 : decode cX9_read 61 = .ok (.aload_n 0, 1) := by decide +kernel
theorem dX9_read_62 : decode cX9_read 62 = .ok (.getfield 14, 3) := by decide +kernel
theorem dX9_read_65 : decode cX9_read 65 = .ok (.invokevirtual 71, 3) := by decide +kernel
theorem dX9_read_68 : decode cX9_read 68 = .ok (.putfield 50, 3) := by decide +kernel
theorem dX9_read_71 : decode cX9_read 71 = .ok (.aload_n 0, 1) := by decide +kernel
theorem dX9_read_72 : decode cX9_read 72 = .ok (.getfield 54, 3) := by decide +kernel
theorem dX9_read_75 : decode cX9_read 75 = .ok (.ireturn, 1) := by decide +kernel
theorem dX9_read_76 : decode cX9_read 76 = .ok (.aload_n 0, 1) := by decide +kernel
theorem dX9_read_77 : decode cX9_read 77 = .ok (.aload_n 2, 1) := by decide +kernel
theorem dX9_read_78 : decode cX9_read 78 = .ok (.putfield 46, 3) := by decide +kernel
theorem dX9_read_81 : decode cX9_read 81 = .ok (.aload_n 0, 1) := by decide +kernel
theorem dX9_read_82 : decode cX9_read 82 = .ok (.getfield 46, 3) := by decide +kernel
theorem dX9_read_85 : decode cX9_read 85 = .ok (.invokevirtual 74, 3) := by decide +kernel
theorem dX9_read_88 : decode cX9_read 88 = .ok (.aload_n 0, 1) := by decide +kernel
theorem dX9_read_89 : decode cX9_read 89 = .ok (.iconst 0, 1) := by decide +kernel
theorem dX9_read_90 : decode cX9_read 90 = .ok (.putfield 77, 3) := by decide +kernel
theorem dX9_read_93 : decode cX9_read 93 = .ok (.aload_n 0, 1) := by decide +kernel
theorem dX9_read_94 : decode cX9_read 94 = .ok (.iconst 0, 1) := by decide +kernel
theorem dX9_read_95 : decode cX9_read 95 = .ok (.putfield 80, 3) := by decide +kernel
theorem dX9_read_98 : decode cX9_read 98 = .ok (.aload_n 0, 1) := by decide +kernel
theorem dX9_read_99 : decode cX9_read 99 = .ok (.iconst 0, 1) := by decide +kernel
theorem dX9_read_100 : decode cX9_read 100 = .ok (.putfield 83, 3) := by decide +kernel
theorem dX9_read_103 : decode cX9_read 103 = .ok (.aload_n 0, 1) := by decide +kernel
theorem dX9_read_104 : decode cX9_read 104 = .ok (.iconst 0, 1) := by decide +kernel
theorem dX9_read_105 : decode cX9_read 105 = .ok (.putfield 86, 3) := by decide +kernel
theorem dX9_read_108 : decode cX9_read 108 = .ok (.aload_n 0, 1) := by decide +kernel
theorem dX9_read_109 : decode cX9_read 109 = .ok (.iconst 0, 1) := by decide +kernel
theorem dX9_read_110 : decode cX9_read 110 = .ok (.putfield 89, 3) := by decide +kernel
theorem dX9_read_113 : decode cX9_read 113 = .ok (.iconst 1, 1) := by decide +kernel
theorem dX9_read_114 : decode cX9_read 114 = .ok (.istore_n 3, 1) := by decide +kernel
theorem dX9_read_115 : decode cX9_read 115 = .ok (.iconst 0, 1) := by decide +kernel
theorem dX9_read_116 : decode cX9_read 116 = .ok (.istore 4, 2) := by decide +kernel
theorem dX9_read_118 : decode cX9_read 118 = .ok (.iload 4, 2) := by decide +kernel
theorem dX9_read_120 : decode cX9_read 120 = .ok (.aload_n 0, 1) := by decide +kernel
theorem dX9_read_121 : decode cX9_read 121 = .ok (.getfield 14, 3) := by decide +kernel
theorem dX9_read_124 : decode cX9_read 124 = .ok (.invokevirtual 92, 3) := by decide +kernel
theorem dX9_read_127 : decode cX9_read 127 = .ok (.if_icmp .ge 108, 3) := by decide +kernel
theorem dX9_read_130 : decode cX9_read 130 = .ok (.iload_n 3, 1) := by decide +kernel
theorem dX9_read_131 : decode cX9_read 131 = .ok (.ifCond .eq 104, 3) := by decide +kernel
theorem dX9_read_134 : decode cX9_read 134 = .ok (.aload_n 0, 1) := by decide +kernel
theorem dX9_read_135 : decode cX9_read 135 = .ok (.getfield 14, 3) := by decide +kernel
theorem dX9_read_138 : decode cX9_read 138 = .ok (.aload_n 0, 1) := by decide +kernel
theorem dX9_read_139 : decode cX9_read 139 = .ok (.getfield 89, 3) := by decide +kernel
theorem dX9_read_142 : decode cX9_read 142 = .ok (.invokevirtual 95, 3) := by decide +kernel
theorem dX9_read_145 : decode cX9_read 145 = .ok (.ifCond .eq 90, 3) := by decide +kernel
theorem dX9_read_148 : decode cX9_read 148 = .ok (.aload_n 0, 1) := by decide +kernel
theorem dX9_read_149 : decode cX9_read 149 = .ok (.getfield 14, 3) := by decide +kernel
theorem dX9_read_152 : decode cX9_read 152 = .ok (.aload_n 0, 1) := by decide +kernel
theorem dX9_read_153 : decode cX9_read 153 = .ok (.getfield 89, 3) := by decide +kernel
theorem dX9_read_156 : decode cX9_read 156 = .ok (.invokevirtual 95, 3) := by decide +kernel
theorem dX9_read_159 : decode cX9_read 159 = .ok (.tableswitch 65 6 10 #[33, 41, 49, 65, 57], 33) := by decide +kernel
theorem dX9_read_192 : decode cX9_read 192 = .ok (.aload_n 0, 1) := by decide +kernel
theorem dX9_read_193 : decode cX9_read 193 = .ok (.invokevirtual 99, 3) := by decide +kernel
theorem dX9_read_196 : decode cX9_read 196 = .ok (.istore_n 3, 1) := by decide +kernel
theorem dX9_read_197 : decode cX9_read 197 = .ok (.goto 32, 3) := by decide +kernel
theorem dX9_read_200 : decode cX9_read 200 = .ok (.aload_n 0, 1) := by decide +kernel
theorem dX9_read_201 : decode cX9_read 201 = .ok (.invokevirtual 102, 3) := by decide +kernel
theorem dX9_read_204 : decode cX9_read 204 = .ok (.istore_n 3, 1) := by decide +kernel
theorem dX9_read_205 : decode cX9_read 205 = .ok (.goto 24, 3) := by decide +kernel
theorem dX9_read_208 : decode cX9_read 208 = .ok (.aload_n 0, 1) := by decide +kernel
theorem dX9_read_209 : decode cX9_read 209 = .ok (.invokevirtual 105, 3) := by decide +kernel
theorem dX9_read_212 : decode cX9_read 212 = .ok (.istore_n 3, 1) := by decide +kernel
theorem dX9_read_213 : decode cX9_read 213 = .ok (.goto 16, 3) := by decide +kernel
theorem dX9_read_216 : decode cX9_read 216 = .ok (.aload_n 0, 1) := by decide +kernel
theorem dX9_read_217 : decode cX9_read 217 = .ok (.invokevirtual 108, 3) := by decide +kernel
theorem dX9_read_220 : decode cX9_read 220 = .ok (.istore_n 3, 1) := by decide +kernel
theorem dX9_read_221 : decode cX9_read 221 = .ok (.goto 8, 3) := by decide +kernel
theorem dX9_read_224 : decode cX9_read 224 = .ok (.aload_n 0, 1) := by decide +kernel
theorem dX9_read_225 : decode cX9_read 225 = .ok (.invokevirtual 111, 3) := by decide +kernel
theorem dX9_read_228 : decode cX9_read 228 = .ok (.istore_n 3, 1) := by decide +kernel
theorem dX9_read_229 : decode cX9_read 229 = .ok (.iinc 4 1, 3) := by decide +kernel
theorem dX9_read_232 : decode cX9_read 232 = .ok (.goto (-114), 3) := by decide +kernel
theorem dX9_read_235 : decode cX9_read 235 = .ok (.aload_n 0, 1) := by decide +kernel
theorem dX9_read_236 : decode cX9_read 236 = .ok (.iload_n 3, 1) := by decide +kernel
theorem dX9_read_237 : decode cX9_read 237 = .ok (.ifCond .eq 7, 3) := by decide +kernel
theorem dX9_read_240 : decode cX9_read 240 = .ok (.iconst (-1), 1) := by decide +kernel
theorem dX9_read_241 : decode cX9_read 241 = .ok (.goto 14, 3) := by decide +kernel
theorem dX9_read_244 : decode cX9_read 244 = .ok (.aload_n 0, 1) := by decide +kernel
theorem dX9_read_245 : decode cX9_read 245 = .ok (.getfield 14, 3) := by decide +kernel
theorem dX9_read_248 : decode cX9_read 248 = .ok (.aload_n 0, 1) := by decide +kernel
theorem dX9_read_249 : decode cX9_read 249 = .ok (.getfield 114, 3) := by decide +kernel
theorem dX9_read_252 : decode cX9_read 252 = .ok (.invokevirtual 117, 3) := by decide +kernel
theorem dX9_read_255 : decode cX9_read 255 = .ok (.putfield 50, 3) := by decide +kernel
theorem dX9_read_258 : decode cX9_read 258 = .ok (.aload_n 0, 1) := by decide +kernel
theorem dX9_read_259 : decode cX9_read 259 = .ok (.getfield 54, 3) := by decide +kernel
theorem dX9_read_262 : decode cX9_read 262 = .ok (.ireturn, 1) := by decide +kernel
theorem dX9_tellGoal_0 : decode cX9_tellGoal 0 = .ok (.aload_n 0, 1) := by decide +kernel
theorem dX9_tellGoal_1 : decode cX9_tellGoal 1 = .ok (.getfield 14, 3) := by decide +kernel
theorem dX9_tellGoal_4 : decode cX9_tellGoal 4 = .ok (.aload_n 0, 1) := by decide +kernel
theorem dX9_tellGoal_5 : decode cX9_tellGoal 5 = .ok (.getfield 89, 3) := by decide +kernel
theorem dX9_tellGoal_8 : decode cX9_tellGoal 8 = .ok (.invokevirtual 95, 3) := by decide +kernel
theorem dX9_tellGoal_11 : decode cX9_tellGoal 11 = .ok (.iconst 4, 1) := by decide +kernel
theorem dX9_tellGoal_12 : decode cX9_tellGoal 12 = .ok (.if_icmp .ne 7, 3) := by decide +kernel
theorem dX9_tellGoal_15 : decode cX9_tellGoal 15 = .ok (.iconst 1, 1) := by decide +kernel
theorem dX9_tellGoal_16 : decode cX9_tellGoal 16 = .ok (.goto 4, 3) := by decide +kernel
theorem dX9_tellGoal_19 : decode cX9_tellGoal 19 = .ok (.iconst 0, 1) := by decide +kernel
theorem dX9_tellGoal_20 : decode cX9_tellGoal 20 = .ok (.istore_n 1, 1) := by decide +kernel
theorem dX9_tellGoal_21 : decode cX9_tellGoal 21 = .ok (.aload_n 0, 1) := by decide +kernel
theorem dX9_tellGoal_22 : decode cX9_tellGoal 22 = .ok (.dup, 1) := by decide +kernel
theorem dX9_tellGoal_23 : decode cX9_tellGoal 23 = .ok (.getfield 89, 3) := by decide +kernel
theorem dX9_tellGoal_26 : decode cX9_tellGoal 26 = .ok (.iconst 1, 1) := by decide +kernel
theorem dX9_tellGoal_27 : decode cX9_tellGoal 27 = .ok (.iadd, 1) := by decide +kernel
theorem dX9_tellGoal_28 : decode cX9_tellGoal 28 = .ok (.putfield 89, 3) := by decide +kernel
theorem dX9_tellGoal_31 : decode cX9_tellGoal 31 = .ok (.aload_n 0, 1) := by decide +kernel
theorem dX9_tellGoal_32 : decode cX9_tellGoal 32 = .ok (.iconst 0, 1) := by decide +kernel
theorem dX9_tellGoal_33 : decode cX9_tellGoal 33 = .ok (.invokevirtual 166, 3) := by decide +kernel
theorem dX9_tellGoal_36 : decode cX9_tellGoal 36 = .ok (.ifCond .ne 5, 3) := by decide +kernel
theorem dX9_tellGoal_39 : decode cX9_tellGoal 39 = .ok (.iconst 0, 1) := by decide +kernel
theorem dX9_tellGoal_40 : decode cX9_tellGoal 40 = .ok (.ireturn, 1) := by decide +kernel
theorem dX9_tellGoal_41 : decode cX9_tellGoal 41 = .ok (.aload_n 0, 1) := by decide +kernel
theorem dX9_tellGoal_42 : decode cX9_tellGoal 42 = .ok (.getfield 46, 3) := by decide +kernel
theorem dX9_tellGoal_45 : decode cX9_tellGoal 45 = .ok (.aload_n 0, 1) := by decide +kernel
theorem dX9_tellGoal_46 : decode cX9_tellGoal 46 = .ok (.getfield 31, 3) := by decide +kernel
theorem dX9_tellGoal_49 : decode cX9_tellGoal 49 = .ok (.iconst 0, 1) := by decide +kernel
theorem dX9_tellGoal_50 : decode cX9_tellGoal 50 = .ok (.aaload, 1) := by decide +kernel
theorem dX9_tellGoal_51 : decode cX9_tellGoal 51 = .ok (.iload_n 1, 1) := by decide +kernel
theorem dX9_tellGoal_52 : decode cX9_tellGoal 52 = .ok (.invokevirtual 169, 3) := by decide +kernel
theorem dX9_tellGoal_55 : decode cX9_tellGoal 55 = .ok (.aload_n 0, 1) := by decide +kernel
theorem dX9_tellGoal_56 : decode cX9_tellGoal 56 = .ok (.dup, 1) := by decide +kernel
theorem dX9_tellGoal_57 : decode cX9_tellGoal 57 = .ok (.getfield 89, 3) := by decide +kernel
theorem dX9_tellGoal_60 : decode cX9_tellGoal 60 = .ok (.iconst 1, 1) := by decide +kernel
theorem dX9_tellGoal_61 : decode cX9_tellGoal 61 = .ok (.iadd, 1) := by decide +kernel
theorem dX9_tellGoal_62 : decode cX9_tellGoal 62 = .ok (.putfield 89, 3) := by decide +kernel
theorem dX9_tellGoal_65 : decode cX9_tellGoal 65 = .ok (.iconst 1, 1) := by decide +kernel
theorem dX9_tellGoal_66 : decode cX9_tellGoal 66 = .ok (.ireturn, 1) := by decide +kernel
theorem dX9_tellOneRow_0 : decode cX9_tellOneRow 0 = .ok (.aload_n 0, 1) := by decide +kernel
theorem dX9_tellOneRow_1 : decode cX9_tellOneRow 1 = .ok (.iconst 0, 1) := by decide +kernel
theorem dX9_tellOneRow_2 : decode cX9_tellOneRow 2 = .ok (.invokevirtual 166, 3) := by decide +kernel
theorem dX9_tellOneRow_5 : decode cX9_tellOneRow 5 = .ok (.ifCond .ne 5, 3) := by decide +kernel
theorem dX9_tellOneRow_8 : decode cX9_tellOneRow 8 = .ok (.iconst 0, 1) := by decide +kernel
theorem dX9_tellOneRow_9 : decode cX9_tellOneRow 9 = .ok (.ireturn, 1) := by decide +kernel
theorem dX9_tellOneRow_10 : decode cX9_tellOneRow 10 = .ok (.aload_n 0, 1) := by decide +kernel
theorem dX9_tellOneRow_11 : decode cX9_tellOneRow 11 = .ok (.getfield 31, 3) := by decide +kernel
theorem dX9_tellOneRow_14 : decode cX9_tellOneRow 14 = .ok (.iconst 0, 1) := by decide +kernel
theorem dX9_tellOneRow_15 : decode cX9_tellOneRow 15 = .ok (.aaload, 1) := by decide +kernel
theorem dX9_tellOneRow_16 : decode cX9_tellOneRow 16 = .ok (.iconst 0, 1) := by decide +kernel
theorem dX9_tellOneRow_17 : decode cX9_tellOneRow 17 = .ok (.aload_n 0, 1) := by decide +kernel
theorem dX9_tellOneRow_18 : decode cX9_tellOneRow 18 = .ok (.getfield 40, 3) := by decide +kernel
theorem dX9_tellOneRow_21 : decode cX9_tellOneRow 21 = .ok (.iconst 0, 1) := by decide +kernel
theorem dX9_tellOneRow_22 : decode cX9_tellOneRow 22 = .ok (.bipush 13, 2) := by decide +kernel
theorem dX9_tellOneRow_24 : decode cX9_tellOneRow 24 = .ok (.invokestatic 179, 3) := by decide +kernel
theorem dX9_tellOneRow_27 : decode cX9_tellOneRow 27 = .ok (.aload_n 0, 1) := by decide +kernel
theorem dX9_tellOneRow_28 : decode cX9_tellOneRow 28 = .ok (.getfield 89, 3) := by decide +kernel
theorem dX9_tellOneRow_31 : decode cX9_tellOneRow 31 = .ok (.istore_n 2, 1) := by decide +kernel
theorem dX9_tellOneRow_32 : decode cX9_tellOneRow 32 = .ok (.aload_n 0, 1) := by decide +kernel
theorem dX9_tellOneRow_33 : decode cX9_tellOneRow 33 = .ok (.dup, 1) := by decide +kernel
theorem dX9_tellOneRow_34 : decode cX9_tellOneRow 34 = .ok (.getfield 89, 3) := by decide +kernel
theorem dX9_tellOneRow_37 : decode cX9_tellOneRow 37 = .ok (.iconst 1, 1) := by decide +kernel
theorem dX9_tellOneRow_38 : decode cX9_tellOneRow 38 = .ok (.iadd, 1) := by decide +kernel
theorem dX9_tellOneRow_39 : decode cX9_tellOneRow 39 = .ok (.putfield 89, 3) := by decide +kernel
theorem dX9_tellOneRow_42 : decode cX9_tellOneRow 42 = .ok (.aload_n 0, 1) := by decide +kernel
theorem dX9_tellOneRow_43 : decode cX9_tellOneRow 43 = .ok (.iconst 0, 1) := by decide +kernel
theorem dX9_tellOneRow_44 : decode cX9_tellOneRow 44 = .ok (.invokevirtual 166, 3) := by decide +kernel
theorem dX9_tellOneRow_47 : decode cX9_tellOneRow 47 = .ok (.ifCond .ne 5, 3) := by decide +kernel
theorem dX9_tellOneRow_50 : decode cX9_tellOneRow 50 = .ok (.iconst 0, 1) := by decide +kernel
theorem dX9_tellOneRow_51 : decode cX9_tellOneRow 51 = .ok (.ireturn, 1) := by decide +kernel
theorem dX9_tellOneRow_52 : decode cX9_tellOneRow 52 = .ok (.aload_n 0, 1) := by decide +kernel
theorem dX9_tellOneRow_53 : decode cX9_tellOneRow 53 = .ok (.getfield 40, 3) := by decide +kernel
theorem dX9_tellOneRow_56 : decode cX9_tellOneRow 56 = .ok (.aload_n 0, 1) := by decide +kernel
theorem dX9_tellOneRow_57 : decode cX9_tellOneRow 57 = .ok (.getfield 31, 3) := by decide +kernel
theorem dX9_tellOneRow_60 : decode cX9_tellOneRow 60 = .ok (.iconst 0, 1) := by decide +kernel
theorem dX9_tellOneRow_61 : decode cX9_tellOneRow 61 = .ok (.aaload, 1) := by decide +kernel
theorem dX9_tellOneRow_62 : decode cX9_tellOneRow 62 = .ok (.iconst (-1), 1) := by decide +kernel
theorem dX9_tellOneRow_63 : decode cX9_tellOneRow 63 = .ok (.invokestatic 185, 3) := by decide +kernel
theorem dX9_tellOneRow_66 : decode cX9_tellOneRow 66 = .ok (.aload_n 0, 1) := by decide +kernel
theorem dX9_tellOneRow_67 : decode cX9_tellOneRow 67 = .ok (.getfield 40, 3) := by decide +kernel
theorem dX9_tellOneRow_70 : decode cX9_tellOneRow 70 = .ok (.invokestatic 189, 3) := by decide +kernel
theorem dX9_tellOneRow_73 : decode cX9_tellOneRow 73 = .ok (.ifCond .eq 11, 3) := by decide +kernel
theorem dX9_tellOneRow_76 : decode cX9_tellOneRow 76 = .ok (.aload_n 0, 1) := by decide +kernel
theorem dX9_tellOneRow_77 : decode cX9_tellOneRow 77 = .ok (.bipush 6, 2) := by decide +kernel
theorem dX9_tellOneRow_79 : decode cX9_tellOneRow 79 = .ok (.iload_n 2, 1) := by decide +kernel
theorem dX9_tellOneRow_80 : decode cX9_tellOneRow 80 = .ok (.invokevirtual 132, 3) := by decide +kernel
theorem dX9_tellOneRow_83 : decode cX9_tellOneRow 83 = .ok (.ireturn, 1) := by decide +kernel
theorem dX9_tellOneRow_84 : decode cX9_tellOneRow 84 = .ok (.aload_n 0, 1) := by decide +kernel
theorem dX9_tellOneRow_85 : decode cX9_tellOneRow 85 = .ok (.getfield 14, 3) := by decide +kernel
theorem dX9_tellOneRow_88 : decode cX9_tellOneRow 88 = .ok (.iload_n 2, 1) := by decide +kernel
theorem dX9_tellOneRow_89 : decode cX9_tellOneRow 89 = .ok (.invokevirtual 95, 3) := by decide +kernel
theorem dX9_tellOneRow_92 : decode cX9_tellOneRow 92 = .ok (.istore_n 3, 1) := by decide +kernel
theorem dX9_tellOneRow_93 : decode cX9_tellOneRow 93 = .ok (.iload_n 3, 1) := by decide +kernel
theorem dX9_tellOneRow_94 : decode cX9_tellOneRow 94 = .ok (.bipush 13, 2) := by decide +kernel
theorem dX9_tellOneRow_96 : decode cX9_tellOneRow 96 = .ok (.if_icmp .ne 7, 3) := by decide +kernel
theorem dX9_tellOneRow_99 : decode cX9_tellOneRow 99 = .ok (.iconst 2, 1) := by decide +kernel
theorem dX9_tellOneRow_100 : decode cX9_tellOneRow 100 = .ok (.goto 4, 3) := by decide +kernel
theorem dX9_tellOneRow_103 : decode cX9_tellOneRow 103 = .ok (.iconst 1, 1) := by decide +kernel
theorem dX9_tellOneRow_104 : decode cX9_tellOneRow 104 = .ok (.istore 4, 2) := by decide +kernel
theorem dX9_tellOneRow_106 : decode cX9_tellOneRow 106 = .ok (.aload_n 0, 1) := by decide +kernel
theorem dX9_tellOneRow_107 : decode cX9_tellOneRow 107 = .ok (.getfield 46, 3) := by decide +kernel
theorem dX9_tellOneRow_110 : decode cX9_tellOneRow 110 = .ok (.getfield 193, 3) := by decide +kernel
theorem dX9_tellOneRow_113 : decode cX9_tellOneRow 113 = .ok (.iload 4, 2) := by decide +kernel
theorem dX9_tellOneRow_115 : decode cX9_tellOneRow 115 = .ok (.iadd, 1) := by decide +kernel
theorem dX9_tellOneRow_116 : decode cX9_tellOneRow 116 = .ok (.bipush 16, 2) := by decide +kernel
theorem dX9_tellOneRow_118 : decode cX9_tellOneRow 118 = .ok (.if_icmp .le 11, 3) := by decide +kernel
theorem dX9_tellOneRow_121 : decode cX9_tellOneRow 121 = .ok (.aload_n 0, 1) := by decide +kernel
theorem dX9_tellOneRow_122 : decode cX9_tellOneRow 122 = .ok (.bipush 7, 2) := by decide +kernel
theorem dX9_tellOneRow_124 : decode cX9_tellOneRow 124 = .ok (.iload_n 1, 1) := by decide +kernel
theorem dX9_tellOneRow_125 : decode cX9_tellOneRow 125 = .ok (.invokevirtual 132, 3) := by decide +kernel
theorem dX9_tellOneRow_128 : decode cX9_tellOneRow 128 = .ok (.ireturn, 1) := by decide +kernel
theorem dX9_tellOneRow_129 : decode cX9_tellOneRow 129 = .ok (.iload_n 3, 1) := by decide +kernel
theorem dX9_tellOneRow_130 : decode cX9_tellOneRow 130 = .ok (.bipush 26, 2) := by decide +kernel
theorem dX9_tellOneRow_132 : decode cX9_tellOneRow 132 = .ok (.if_icmp .eq 15, 3) := by decide +kernel
theorem dX9_tellOneRow_135 : decode cX9_tellOneRow 135 = .ok (.aload_n 0, 1) := by decide +kernel
theorem dX9_tellOneRow_136 : decode cX9_tellOneRow 136 = .ok (.getfield 46, 3) := by decide +kernel
theorem dX9_tellOneRow_139 : decode cX9_tellOneRow 139 = .ok (.aload_n 0, 1) := by decide +kernel
theorem dX9_tellOneRow_140 : decode cX9_tellOneRow 140 = .ok (.getfield 40, 3) := by decide +kernel
theorem dX9_tellOneRow_143 : decode cX9_tellOneRow 143 = .ok (.iconst 1, 1) := by decide +kernel
theorem dX9_tellOneRow_144 : decode cX9_tellOneRow 144 = .ok (.invokevirtual 196, 3) := by decide +kernel
theorem dX9_tellOneRow_147 : decode cX9_tellOneRow 147 = .ok (.iload_n 3, 1) := by decide +kernel
theorem dX9_tellOneRow_148 : decode cX9_tellOneRow 148 = .ok (.bipush 25, 2) := by decide +kernel
theorem dX9_tellOneRow_150 : decode cX9_tellOneRow 150 = .ok (.if_icmp .eq 15, 3) := by decide +kernel
theorem dX9_tellOneRow_153 : decode cX9_tellOneRow 153 = .ok (.aload_n 0, 1) := by decide +kernel
theorem dX9_tellOneRow_154 : decode cX9_tellOneRow 154 = .ok (.getfield 46, 3) := by decide +kernel
theorem dX9_tellOneRow_157 : decode cX9_tellOneRow 157 = .ok (.aload_n 0, 1) := by decide +kernel
theorem dX9_tellOneRow_158 : decode cX9_tellOneRow 158 = .ok (.getfield 40, 3) := by decide +kernel
theorem dX9_tellOneRow_161 : decode cX9_tellOneRow 161 = .ok (.iconst (-1), 1) := by decide +kernel
theorem dX9_tellOneRow_162 : decode cX9_tellOneRow 162 = .ok (.invokevirtual 196, 3) := by decide +kernel
theorem dX9_tellOneRow_165 : decode cX9_tellOneRow 165 = .ok (.aload_n 0, 1) := by decide +kernel
theorem dX9_tellOneRow_166 : decode cX9_tellOneRow 166 = .ok (.dup, 1) := by decide +kernel
theorem dX9_tellOneRow_167 : decode cX9_tellOneRow 167 = .ok (.getfield 89, 3) := by decide +kernel
theorem dX9_tellOneRow_170 : decode cX9_tellOneRow 170 = .ok (.iconst 1, 1) := by decide +kernel
theorem dX9_tellOneRow_171 : decode cX9_tellOneRow 171 = .ok (.iadd, 1) := by decide +kernel
theorem dX9_tellOneRow_172 : decode cX9_tellOneRow 172 = .ok (.putfield 89, 3) := by decide +kernel
theorem dX9_tellOneRow_175 : decode cX9_tellOneRow 175 = .ok (.iconst 1, 1) := by decide +kernel
theorem dX9_tellOneRow_176 : decode cX9_tellOneRow 176 = .ok (.ireturn, 1) := by decide +kernel
theorem dX9_tellRow_0 : decode cX9_tellRow 0 = .ok (.aload_n 0, 1) := by decide +kernel
theorem dX9_tellRow_1 : decode cX9_tellRow 1 = .ok (.getfield 89, 3) := by decide +kernel
theorem dX9_tellRow_4 : decode cX9_tellRow 4 = .ok (.iconst 1, 1) := by decide +kernel
theorem dX9_tellRow_5 : decode cX9_tellRow 5 = .ok (.iadd, 1) := by decide +kernel
theorem dX9_tellRow_6 : decode cX9_tellRow 6 = .ok (.istore_n 1, 1) := by decide +kernel
theorem dX9_tellRow_7 : decode cX9_tellRow 7 = .ok (.aload_n 0, 1) := by decide +kernel
theorem dX9_tellRow_8 : decode cX9_tellRow 8 = .ok (.iload_n 1, 1) := by decide +kernel
theorem dX9_tellRow_9 : decode cX9_tellRow 9 = .ok (.bipush 10, 2) := by decide +kernel
theorem dX9_tellRow_11 : decode cX9_tellRow 11 = .ok (.invokevirtual 140, 3) := by decide +kernel
theorem dX9_tellRow_14 : decode cX9_tellRow 14 = .ok (.ifCond .ge 5, 3) := by decide +kernel
theorem dX9_tellRow_17 : decode cX9_tellRow 17 = .ok (.iconst 0, 1) := by decide +kernel
theorem dX9_tellRow_18 : decode cX9_tellRow 18 = .ok (.ireturn, 1) := by decide +kernel
theorem dX9_tellRow_19 : decode cX9_tellRow 19 = .ok (.aload_n 0, 1) := by decide +kernel
theorem dX9_tellRow_20 : decode cX9_tellRow 20 = .ok (.dup, 1) := by decide +kernel
theorem dX9_tellRow_21 : decode cX9_tellRow 21 = .ok (.getfield 89, 3) := by decide +kernel
theorem dX9_tellRow_24 : decode cX9_tellRow 24 = .ok (.iconst 2, 1) := by decide +kernel
theorem dX9_tellRow_25 : decode cX9_tellRow 25 = .ok (.iadd, 1) := by decide +kernel
theorem dX9_tellRow_26 : decode cX9_tellRow 26 = .ok (.putfield 89, 3) := by decide +kernel
theorem dX9_tellRow_29 : decode cX9_tellRow 29 = .ok (.aload_n 0, 1) := by decide +kernel
theorem dX9_tellRow_30 : decode cX9_tellRow 30 = .ok (.getfield 14, 3) := by decide +kernel
theorem dX9_tellRow_33 : decode cX9_tellRow 33 = .ok (.aload_n 0, 1) := by decide +kernel
theorem dX9_tellRow_34 : decode cX9_tellRow 34 = .ok (.getfield 89, 3) := by decide +kernel
theorem dX9_tellRow_37 : decode cX9_tellRow 37 = .ok (.invokevirtual 95, 3) := by decide +kernel
theorem dX9_tellRow_40 : decode cX9_tellRow 40 = .ok (.bipush 17, 2) := by decide +kernel
theorem dX9_tellRow_42 : decode cX9_tellRow 42 = .ok (.if_icmp .eq 19, 3) := by decide +kernel
theorem dX9_tellRow_45 : decode cX9_tellRow 45 = .ok (.aload_n 0, 1) := by decide +kernel
theorem dX9_tellRow_46 : decode cX9_tellRow 46 = .ok (.dup, 1) := by decide +kernel
theorem dX9_tellRow_47 : decode cX9_tellRow 47 = .ok (.getfield 89, 3) := by decide +kernel
theorem dX9_tellRow_50 : decode cX9_tellRow 50 = .ok (.iconst 1, 1) := by decide +kernel
theorem dX9_tellRow_51 : decode cX9_tellRow 51 = .ok (.iadd, 1) := by decide +kernel
theorem dX9_tellRow_52 : decode cX9_tellRow 52 = .ok (.putfield 89, 3) := by decide +kernel
theorem dX9_tellRow_55 : decode cX9_tellRow 55 = .ok (.aload_n 0, 1) := by decide +kernel
theorem dX9_tellRow_56 : decode cX9_tellRow 56 = .ok (.iload_n 1, 1) := by decide +kernel
theorem dX9_tellRow_57 : decode cX9_tellRow 57 = .ok (.invokevirtual 173, 3) := by decide +kernel
theorem dX9_tellRow_60 : decode cX9_tellRow 60 = .ok (.ireturn, 1) := by decide +kernel
theorem dX9_tellRow_61 : decode cX9_tellRow 61 = .ok (.aload_n 0, 1) := by decide +kernel
theorem dX9_tellRow_62 : decode cX9_tellRow 62 = .ok (.aload_n 0, 1) := by decide +kernel
theorem dX9_tellRow_63 : decode cX9_tellRow 63 = .ok (.getfield 14, 3) := by decide +kernel
theorem dX9_tellRow_66 : decode cX9_tellRow 66 = .ok (.aload_n 0, 1) := by decide +kernel
theorem dX9_tellRow_67 : decode cX9_tellRow 67 = .ok (.getfield 89, 3) := by decide +kernel
theorem dX9_tellRow_70 : decode cX9_tellRow 70 = .ok (.iconst 3, 1) := by decide +kernel
theorem dX9_tellRow_71 : decode cX9_tellRow 71 = .ok (.iadd, 1) := by decide +kernel
theorem dX9_tellRow_72 : decode cX9_tellRow 72 = .ok (.invokevirtual 124, 3) := by decide +kernel
theorem dX9_tellRow_75 : decode cX9_tellRow 75 = .ok (.invokevirtual 128, 3) := by decide +kernel
theorem dX9_tellRow_78 : decode cX9_tellRow 78 = .ok (.istore_n 2, 1) := by decide +kernel
theorem dX9_tellRow_79 : decode cX9_tellRow 79 = .ok (.aload_n 0, 1) := by decide +kernel
theorem dX9_tellRow_80 : decode cX9_tellRow 80 = .ok (.aload_n 0, 1) := by decide +kernel
theorem dX9_tellRow_81 : decode cX9_tellRow 81 = .ok (.getfield 89, 3) := by decide +kernel
theorem dX9_tellRow_84 : decode cX9_tellRow 84 = .ok (.iconst 1, 1) := by decide +kernel
theorem dX9_tellRow_85 : decode cX9_tellRow 85 = .ok (.iadd, 1) := by decide +kernel
theorem dX9_tellRow_86 : decode cX9_tellRow 86 = .ok (.iconst 2, 1) := by decide +kernel
theorem dX9_tellRow_87 : decode cX9_tellRow 87 = .ok (.invokevirtual 140, 3) := by decide +kernel
theorem dX9_tellRow_90 : decode cX9_tellRow 90 = .ok (.istore_n 3, 1) := by decide +kernel
theorem dX9_tellRow_91 : decode cX9_tellRow 91 = .ok (.iload_n 3, 1) := by decide +kernel
theorem dX9_tellRow_92 : decode cX9_tellRow 92 = .ok (.ifCond .ge 5, 3) := by decide +kernel
theorem dX9_tellRow_95 : decode cX9_tellRow 95 = .ok (.iconst 0, 1) := by decide +kernel
theorem dX9_tellRow_96 : decode cX9_tellRow 96 = .ok (.ireturn, 1) := by decide +kernel
theorem dX9_tellRow_97 : decode cX9_tellRow 97 = .ok (.aload_n 0, 1) := by decide +kernel
theorem dX9_tellRow_98 : decode cX9_tellRow 98 = .ok (.iload_n 2, 1) := by decide +kernel
theorem dX9_tellRow_99 : decode cX9_tellRow 99 = .ok (.bipush 6, 2) := by decide +kernel
theorem dX9_tellRow_101 : decode cX9_tellRow 101 = .ok (.invokevirtual 146, 3) := by decide +kernel
theorem dX9_tellRow_104 : decode cX9_tellRow 104 = .ok (.ifCond .ne 15, 3) := by decide +kernel
theorem dX9_tellRow_107 : decode cX9_tellRow 107 = .ok (.aload_n 0, 1) := by decide +kernel
theorem dX9_tellRow_108 : decode cX9_tellRow 108 = .ok (.iconst 2, 1) := by decide +kernel
theorem dX9_tellRow_109 : decode cX9_tellRow 109 = .ok (.aload_n 0, 1) := by decide +kernel
theorem dX9_tellRow_110 : decode cX9_tellRow 110 = .ok (.getfield 89, 3) := by decide +kernel
theorem dX9_tellRow_113 : decode cX9_tellRow 113 = .ok (.iconst 3, 1) := by decide +kernel
theorem dX9_tellRow_114 : decode cX9_tellRow 114 = .ok (.iadd, 1) := by decide +kernel
theorem dX9_tellRow_115 : decode cX9_tellRow 115 = .ok (.invokevirtual 132, 3) := by decide +kernel
theorem dX9_tellRow_118 : decode cX9_tellRow 118 = .ok (.ireturn, 1) := by decide +kernel
theorem dX9_tellRow_119 : decode cX9_tellRow 119 = .ok (.aload_n 0, 1) := by decide +kernel
theorem dX9_tellRow_120 : decode cX9_tellRow 120 = .ok (.getfield 89, 3) := by decide +kernel
theorem dX9_tellRow_123 : decode cX9_tellRow 123 = .ok (.bipush 6, 2) := by decide +kernel
theorem dX9_tellRow_125 : decode cX9_tellRow 125 = .ok (.iadd, 1) := by decide +kernel
theorem dX9_tellRow_126 : decode cX9_tellRow 126 = .ok (.istore 4, 2) := by decide +kernel
theorem dX9_tellRow_128 : decode cX9_tellRow 128 = .ok (.aload_n 0, 1) := by decide +kernel
theorem dX9_tellRow_129 : decode cX9_tellRow 129 = .ok (.iload_n 2, 1) := by decide +kernel
theorem dX9_tellRow_130 : decode cX9_tellRow 130 = .ok (.iconst 2, 1) := by decide +kernel
theorem dX9_tellRow_131 : decode cX9_tellRow 131 = .ok (.invokevirtual 120, 3) := by decide +kernel
theorem dX9_tellRow_134 : decode cX9_tellRow 134 = .ok (.istore 5, 2) := by decide +kernel
theorem dX9_tellRow_136 : decode cX9_tellRow 136 = .ok (.aload_n 0, 1) := by decide +kernel
theorem dX9_tellRow_137 : decode cX9_tellRow 137 = .ok (.iload_n 2, 1) := by decide +kernel
theorem dX9_tellRow_138 : decode cX9_tellRow 138 = .ok (.iconst 1, 1) := by decide +kernel
theorem dX9_tellRow_139 : decode cX9_tellRow 139 = .ok (.invokevirtual 120, 3) := by decide +kernel
theorem dX9_tellRow_142 : decode cX9_tellRow 142 = .ok (.istore 6, 2) := by decide +kernel
theorem dX9_tellRow_144 : decode cX9_tellRow 144 = .ok (.iload 6, 2) := by decide +kernel
theorem dX9_tellRow_146 : decode cX9_tellRow 146 = .ok (.iload 5, 2) := by decide +kernel
theorem dX9_tellRow_148 : decode cX9_tellRow 148 = .ok (.if_icmp .gt 33, 3) := by decide +kernel
theorem dX9_tellRow_151 : decode cX9_tellRow 151 = .ok (.aload_n 0, 1) := by decide +kernel
theorem dX9_tellRow_152 : decode cX9_tellRow 152 = .ok (.iload_n 3, 1) := by decide +kernel
theorem dX9_tellRow_153 : decode cX9_tellRow 153 = .ok (.iconst 1, 1) := by decide +kernel
theorem dX9_tellRow_154 : decode cX9_tellRow 154 = .ok (.iload 6, 2) := by decide +kernel
theorem dX9_tellRow_156 : decode cX9_tellRow 156 = .ok (.invokevirtual 136, 3) := by decide +kernel
theorem dX9_tellRow_159 : decode cX9_tellRow 159 = .ok (.aload_n 0, 1) := by decide +kernel
theorem dX9_tellRow_160 : decode cX9_tellRow 160 = .ok (.iload 4, 2) := by decide +kernel
theorem dX9_tellRow_162 : decode cX9_tellRow 162 = .ok (.putfield 89, 3) := by decide +kernel
theorem dX9_tellRow_165 : decode cX9_tellRow 165 = .ok (.aload_n 0, 1) := by decide +kernel
theorem dX9_tellRow_166 : decode cX9_tellRow 166 = .ok (.iload_n 1, 1) := by decide +kernel
theorem dX9_tellRow_167 : decode cX9_tellRow 167 = .ok (.invokevirtual 173, 3) := by decide +kernel
theorem dX9_tellRow_170 : decode cX9_tellRow 170 = .ok (.ifCond .ne 5, 3) := by decide +kernel
theorem dX9_tellRow_173 : decode cX9_tellRow 173 = .ok (.iconst 0, 1) := by decide +kernel
theorem dX9_tellRow_174 : decode cX9_tellRow 174 = .ok (.ireturn, 1) := by decide +kernel
theorem dX9_tellRow_175 : decode cX9_tellRow 175 = .ok (.iinc 6 1, 3) := by decide +kernel
theorem dX9_tellRow_178 : decode cX9_tellRow 178 = .ok (.goto (-34), 3) := by decide +kernel
theorem dX9_tellRow_181 : decode cX9_tellRow 181 = .ok (.aload_n 0, 1) := by decide +kernel
theorem dX9_tellRow_182 : decode cX9_tellRow 182 = .ok (.invokevirtual 176, 3) := by decide +kernel
theorem dX9_tellRow_185 : decode cX9_tellRow 185 = .ok (.iconst 1, 1) := by decide +kernel
theorem dX9_tellRow_186 : decode cX9_tellRow 186 = .ok (.ireturn, 1) := by decide +kernel
theorem w_15 : Cond.selects RX9 yX9_tellSet yX9_tellSet ∈ tb := sel_1 (q := (yX9_tellSet, 17)) 15 (by decide +kernel)
theorem w_21 : Cond.selects RX9 yX9_tellPar yX9_tellPar ∈ tb := sel_2 (q := (yX9_tellPar, 17)) 5 (by decide +kernel)
theorem w_27 : Cond.selects RX9 yX9_tellVar yX9_tellVar ∈ tb := sel_2 (q := (yX9_tellVar, 17)) 11 (by decide +kernel)
theorem w_28 : Cond.selects RX9 yX9_tellRow yX9_tellRow ∈ tb := sel_2 (q := (yX9_tellRow, 17)) 12 (by decide +kernel)
theorem w_29 : Cond.selects RX9 yX9_tellOneRow yX9_tellOneRow ∈ tb := sel_2 (q := (yX9_tellOneRow, 17)) 13 (by decide +kernel)
theorem w_41 : Cond.selects RX9 yX9_tellGoal yX9_tellGoal ∈ tb := sel_3 (q := (yX9_tellGoal, 17)) 9 (by decide +kernel)
theorem w_277 : Cond.fieldLinkNest RX9 193 (TX3 3).1 (TX3 3).2.1 (TX3 3).2.2.1 "OptimumHouse" ∈ nst := nsc_1 74 (by decide +kernel) rfl
theorem w_336 : Cond.fieldLink RX9 40 (TX9 7).1 (TX9 7).2.1 (TX9 7).2.2.1 ∈ tb := tbc_1 133 (by decide +kernel) rfl
theorem w_770 : Cond.methodLink RX9 57 yX10_length ∈ tb := tbc_3 87 (by decide +kernel) rfl
theorem w_771 : Cond.methodLink RX9 63 yX8_scan ∈ tb := tbc_3 88 (by decide +kernel) rfl
theorem w_772 : Cond.instanceMethod yX8_scan ∈ tb := tbc_3 89 (by decide +kernel) rfl
theorem w_773 : Cond.selects RX8 yX8_scan yX8_scan ∈ tb := tbc_3 90 (by decide +kernel) rfl
theorem w_774 : Cond.code yX8_scan cX8_scan 5 none ∈ tb := tbc_3 91 (by decide +kernel) rfl
theorem w_893 : Cond.methodLink RX9 67 yX8_isProgram ∈ tb := tbc_3 210 (by decide +kernel) rfl
theorem w_894 : Cond.instanceMethod yX8_isProgram ∈ tb := tbc_3 211 (by decide +kernel) rfl
theorem w_895 : Cond.selects RX8 yX8_isProgram yX8_isProgram ∈ tb := tbc_3 212 (by decide +kernel) rfl
theorem w_896 : Cond.code yX8_isProgram cX8_isProgram 2 (some .boolean) ∈ tb := tbc_3 213 (by decide +kernel) rfl
theorem w_945 : Cond.methodLink RX9 71 yX8_stopPlace ∈ tb := tbc_4 22 (by decide +kernel) rfl
theorem w_946 : Cond.instanceMethod yX8_stopPlace ∈ tb := tbc_4 23 (by decide +kernel) rfl
theorem w_947 : Cond.selects RX8 yX8_stopPlace yX8_stopPlace ∈ tb := tbc_4 24 (by decide +kernel) rfl
theorem w_948 : Cond.code yX8_stopPlace cX8_stopPlace 1 (some .int) ∈ tb := tbc_4 25 (by decide +kernel) rfl
theorem w_953 : Cond.methodLink RX9 74 yX3_clear ∈ tb := tbc_4 30 (by decide +kernel) rfl
theorem w_954 : Cond.instanceMethod yX3_clear ∈ tb := tbc_4 31 (by decide +kernel) rfl
theorem w_955 : Cond.selects RX3 yX3_clear yX3_clear ∈ tb := tbc_4 32 (by decide +kernel) rfl
theorem w_956 : Cond.code yX3_clear cX3_clear 1 none ∈ tb := tbc_4 33 (by decide +kernel) rfl
theorem w_962 : Cond.methodLink RX9 99 yX9_tellSet ∈ tb := tbc_4 39 (by decide +kernel) rfl
theorem w_964 : Cond.instanceMethod yX9_tellSet ∈ tb := tbc_4 41 (by decide +kernel) rfl
theorem w_965 : Cond.code yX9_tellSet cX9_tellSet 5 (some .boolean) ∈ tb := tbc_4 42 (by decide +kernel) rfl
theorem w_990 : Cond.methodLink RX9 102 yX9_tellPar ∈ tb := tbc_4 67 (by decide +kernel) rfl
theorem w_992 : Cond.instanceMethod yX9_tellPar ∈ tb := tbc_4 69 (by decide +kernel) rfl
theorem w_993 : Cond.code yX9_tellPar cX9_tellPar 7 (some .boolean) ∈ tb := tbc_4 70 (by decide +kernel) rfl
theorem w_1014 : Cond.methodLink RX9 105 yX9_tellVar ∈ tb := tbc_4 91 (by decide +kernel) rfl
theorem w_1016 : Cond.instanceMethod yX9_tellVar ∈ tb := tbc_4 93 (by decide +kernel) rfl
theorem w_1017 : Cond.code yX9_tellVar cX9_tellVar 5 (some .boolean) ∈ tb := tbc_4 94 (by decide +kernel) rfl
theorem w_1022 : Cond.methodLink RX9 108 yX9_tellRow ∈ tb := tbc_4 99 (by decide +kernel) rfl
theorem w_1024 : Cond.instanceMethod yX9_tellRow ∈ tb := tbc_4 101 (by decide +kernel) rfl
theorem w_1025 : Cond.code yX9_tellRow cX9_tellRow 7 (some .boolean) ∈ tb := tbc_4 102 (by decide +kernel) rfl
theorem w_1026 : Cond.methodLink RX9 173 yX9_tellOneRow ∈ tb := tbc_4 103 (by decide +kernel) rfl
theorem w_1028 : Cond.instanceMethod yX9_tellOneRow ∈ tb := tbc_4 105 (by decide +kernel) rfl
theorem w_1029 : Cond.code yX9_tellOneRow cX9_tellOneRow 5 (some .boolean) ∈ tb := tbc_4 106 (by decide +kernel) rfl
theorem w_1096 : Cond.methodLink RX9 196 yX3_addRow ∈ tb := tbc_4 173 (by decide +kernel) rfl
theorem w_1097 : Cond.instanceMethod yX3_addRow ∈ tb := tbc_4 174 (by decide +kernel) rfl
theorem w_1098 : Cond.selects RX3 yX3_addRow yX3_addRow ∈ tb := tbc_4 175 (by decide +kernel) rfl
theorem w_1099 : Cond.code yX3_addRow cX3_addRow 4 none ∈ tb := tbc_4 176 (by decide +kernel) rfl
theorem w_1104 : Cond.methodLink RX9 111 yX9_tellGoal ∈ tb := tbc_4 181 (by decide +kernel) rfl
theorem w_1106 : Cond.instanceMethod yX9_tellGoal ∈ tb := tbc_4 183 (by decide +kernel) rfl
theorem w_1107 : Cond.code yX9_tellGoal cX9_tellGoal 2 (some .boolean) ∈ tb := tbc_4 184 (by decide +kernel) rfl
theorem w_1108 : Cond.methodLink RX9 169 yX3_setGoal ∈ tb := tbc_4 185 (by decide +kernel) rfl
theorem w_1109 : Cond.instanceMethod yX3_setGoal ∈ tb := tbc_4 186 (by decide +kernel) rfl
theorem w_1110 : Cond.selects RX3 yX3_setGoal yX3_setGoal ∈ tb := tbc_4 187 (by decide +kernel) rfl
theorem w_1111 : Cond.code yX3_setGoal cX3_setGoal 4 none ∈ tb := tbc_4 188 (by decide +kernel) rfl
theorem w_1112 : Cond.methodLink RX9 117 yX8_start ∈ tb := tbc_4 189 (by decide +kernel) rfl
section RW41
variable {p : Program} {l : Launch} {e : Env} {R : Room} {s : State} {m : MethodId} {args : Array Value} {below : List Frame} {meth : Method} {c : Code} {H : Heap} {locs : List Loc} {cells slots : Nat} {Q : State → Prop}
variable {cc : ByteArray} {pc nL : Nat} {ls : Array Slot} {rest st0 : List Value} {G : sG} {n : Nat} {S : sS}
theorem g_X9_40 (Cx : sC G p m c cc nL s args RX9) (hW : sW G n S H) {k : Nat} (hk : k < n) (ht : tau k = .inl 9) {v : Value} (hv : S.2.2.2 k 7 = v) (hdg : decode cc pc = .ok (.getfield 40, 3)) (kk : W p l e R s m args below meth c H locs cells slots Q (F0 m (pc + 3) ls (v :: rest))) : W p l e R s m args below meth c H locs cells slots Q (F0 m pc ls (.ref (G.2.2.1 + k) :: rest)) :=
  sGet Cx inX9 rfl 7 (by decide) w_336 hW hk ht hv hdg kk
theorem g_X9_193 (Cx : sC G p m c cc nL s args RX9) (hW : sW G n S H) {k : Nat} (hk : k < n) (ht : tau k = .inl 3) {v : Int} (hv : S.1 k 3 = v) (hdg : decode cc pc = .ok (.getfield 193, 3)) (kk : W p l e R s m args below meth c H locs cells slots Q (F0 m (pc + 3) ls (.int (iv v) :: rest))) : W p l e R s m args below meth c H locs cells slots Q (F0 m pc ls (.ref (G.2.2.1 + k) :: rest)) :=
  sGetN Cx inX3 rfl 3 (by decide) w_277 hW hk ht (congrArg (fun z => Value.int (iv z)) hv) hdg kk
theorem c_X9_196 (Cx : sC G p m c cc nL s args RX9) {rm : Room} {mc ms : Nat} (h1 : rm.cells = mc) (h2 : rm.slots = ms) (h3 : rm.frames + 1 ≤ R.frames ∧ 8 + (4 + 11) + rm.locals ≤ R.locals) : CallW R s args RX9 RX3 196 yX3_addRow cX3_addRow 4 none (.code yX3_addRow cX3_addRow 4 none :: tb) rm mc ms 2 :=
  sCw Cx 2 w_1096 w_1097 w_1098 w_207 w_1099 (by decide +kernel) h1 h2 h3
theorem c_X9_169 (Cx : sC G p m c cc nL s args RX9) {rm : Room} {mc ms : Nat} (h1 : rm.cells = mc) (h2 : rm.slots = ms) (h3 : rm.frames + 1 ≤ R.frames ∧ 8 + (4 + 11) + rm.locals ≤ R.locals) : CallW R s args RX9 RX3 169 yX3_setGoal cX3_setGoal 4 none (.code yX3_setGoal cX3_setGoal 4 none :: tb) rm mc ms 2 :=
  sCw Cx 2 w_1108 w_1109 w_1110 w_207 w_1111 (by decide +kernel) h1 h2 h3
theorem c_X9_173 (Cx : sC G p m c cc nL s args RX9) {rm : Room} {mc ms : Nat} (h1 : rm.cells = mc) (h2 : rm.slots = ms) (h3 : rm.frames + 1 ≤ R.frames ∧ 8 + (5 + 11) + rm.locals ≤ R.locals) : CallW R s args RX9 RX9 173 yX9_tellOneRow cX9_tellOneRow 5 (some .boolean) (.code yX9_tellOneRow cX9_tellOneRow 5 (some .boolean) :: tb) rm mc ms 1 :=
  sCw Cx 1 w_1026 w_1028 w_29 w_208 w_1029 (by decide +kernel) h1 h2 h3
theorem p_X9_50 (Cx : sC G p m c cc nL s args RX9) (hW : sW G n S H) (hL : sL G locs) {k : Nat} (hk : k < n) (ht : tau k = .inl 9) {v : Int} (hdg : decode cc pc = .ok (.putfield 50, 3)) (kk : ∀ (H1 : Heap) (locs1 : List Loc), sW G n (uF S k 16 v) H1 → sL G locs1 → W p l e R s m args below meth c H1 locs1 cells slots Q (F0 m (pc + 3) ls rest)) : W p l e R s m args below meth c H locs cells slots Q (F0 m pc ls (.int (iv v) :: .ref (G.2.2.1 + k) :: rest)) :=
  sPut Cx inX9 tyX9 tyX9_ok nmX9 rfl 16 (by decide) w_345 rfl hW hL hk ht rfl rfl (fun _ h => uF_same h) (fun _ h => uF_off h) (congrArg (fun z => Value.int (iv z)) uF_on) hdg kk
theorem c_X9_57 (Cx : sC G p m c cc nL s args RX9) {rm : Room} {mc ms : Nat} (h1 : rm.cells = mc) (h2 : rm.slots = ms) (h3 : rm.frames + 1 ≤ R.frames ∧ 8 + (1 + 11) + rm.locals ≤ R.locals) : CallW R s args RX9 RX10 57 yX10_length cX10_length 1 (some .int) (.code yX10_length cX10_length 1 (some .int) :: tb) rm mc ms 0 :=
  sCw Cx 0 w_770 w_743 w_744 w_205 w_745 (by decide +kernel) h1 h2 h3
theorem c_X9_63 (Cx : sC G p m c cc nL s args RX9) {rm : Room} {mc ms : Nat} (h1 : rm.cells = mc) (h2 : rm.slots = ms) (h3 : rm.frames + 1 ≤ R.frames ∧ 8 + (5 + 11) + rm.locals ≤ R.locals) : CallW R s args RX9 RX8 63 yX8_scan cX8_scan 5 none (.code yX8_scan cX8_scan 5 none :: tb) rm mc ms 1 :=
  sCw Cx 1 w_771 w_772 w_773 w_209 w_774 (by decide +kernel) h1 h2 h3
theorem c_X9_67 (Cx : sC G p m c cc nL s args RX9) {rm : Room} {mc ms : Nat} (h1 : rm.cells = mc) (h2 : rm.slots = ms) (h3 : rm.frames + 1 ≤ R.frames ∧ 8 + (2 + 11) + rm.locals ≤ R.locals) : CallW R s args RX9 RX8 67 yX8_isProgram cX8_isProgram 2 (some .boolean) (.code yX8_isProgram cX8_isProgram 2 (some .boolean) :: tb) rm mc ms 0 :=
  sCw Cx 0 w_893 w_894 w_895 w_209 w_896 (by decide +kernel) h1 h2 h3
theorem p_X9_46 (Cx : sC G p m c cc nL s args RX9) (hW : sW G n S H) (hL : sL G locs) {k : Nat} (hk : k < n) (ht : tau k = .inl 9) {v : Nat} (hdg : decode cc pc = .ok (.putfield 46, 3)) (kk : ∀ (H1 : Heap) (locs1 : List Loc), sW G n (uR S k 8 (.ref v)) H1 → sL G locs1 → W p l e R s m args below meth c H1 locs1 cells slots Q (F0 m (pc + 3) ls rest)) : W p l e R s m args below meth c H locs cells slots Q (F0 m pc ls (.ref v :: .ref (G.2.2.1 + k) :: rest)) :=
  sPut Cx inX9 tyX9 tyX9_ok nmX9 rfl 8 (by decide) w_337 rfl hW hL hk ht rfl rfl (fun _ h => uR_same h) (fun _ h => uR_off h) uR_on hdg kk
theorem c_X9_74 (Cx : sC G p m c cc nL s args RX9) {rm : Room} {mc ms : Nat} (h1 : rm.cells = mc) (h2 : rm.slots = ms) (h3 : rm.frames + 1 ≤ R.frames ∧ 8 + (1 + 11) + rm.locals ≤ R.locals) : CallW R s args RX9 RX3 74 yX3_clear cX3_clear 1 none (.code yX3_clear cX3_clear 1 none :: tb) rm mc ms 0 :=
  sCw Cx 0 w_953 w_954 w_955 w_207 w_956 (by decide +kernel) h1 h2 h3
theorem g_X9_114 (Cx : sC G p m c cc nL s args RX9) (hW : sW G n S H) {k : Nat} (hk : k < n) (ht : tau k = .inl 9) {v : Int} (hv : S.1 k 15 = v) (hdg : decode cc pc = .ok (.getfield 114, 3)) (kk : W p l e R s m args below meth c H locs cells slots Q (F0 m (pc + 3) ls (.int (iv v) :: rest))) : W p l e R s m args below meth c H locs cells slots Q (F0 m pc ls (.ref (G.2.2.1 + k) :: rest)) :=
  sGet Cx inX9 rfl 15 (by decide) w_344 hW hk ht (congrArg (fun z => Value.int (iv z)) hv) hdg kk
theorem c_X9_117 (Cx : sC G p m c cc nL s args RX9) {rm : Room} {mc ms : Nat} (h1 : rm.cells = mc) (h2 : rm.slots = ms) (h3 : rm.frames + 1 ≤ R.frames ∧ 8 + (2 + 11) + rm.locals ≤ R.locals) : CallW R s args RX9 RX8 117 yX8_start cX8_start 2 (some .int) (.code yX8_start cX8_start 2 (some .int) :: tb) rm mc ms 1 :=
  sCw Cx 1 w_1112 w_950 w_951 w_209 w_952 (by decide +kernel) h1 h2 h3
theorem c_X9_99 (Cx : sC G p m c cc nL s args RX9) {rm : Room} {mc ms : Nat} (h1 : rm.cells = mc) (h2 : rm.slots = ms) (h3 : rm.frames + 1 ≤ R.frames ∧ 8 + (5 + 11) + rm.locals ≤ R.locals) : CallW R s args RX9 RX9 99 yX9_tellSet cX9_tellSet 5 (some .boolean) (.code yX9_tellSet cX9_tellSet 5 (some .boolean) :: tb) rm mc ms 0 :=
  sCw Cx 0 w_962 w_964 w_15 w_208 w_965 (by decide +kernel) h1 h2 h3
theorem c_X9_102 (Cx : sC G p m c cc nL s args RX9) {rm : Room} {mc ms : Nat} (h1 : rm.cells = mc) (h2 : rm.slots = ms) (h3 : rm.frames + 1 ≤ R.frames ∧ 8 + (7 + 11) + rm.locals ≤ R.locals) : CallW R s args RX9 RX9 102 yX9_tellPar cX9_tellPar 7 (some .boolean) (.code yX9_tellPar cX9_tellPar 7 (some .boolean) :: tb) rm mc ms 0 :=
  sCw Cx 0 w_990 w_992 w_21 w_208 w_993 (by decide +kernel) h1 h2 h3
theorem c_X9_105 (Cx : sC G p m c cc nL s args RX9) {rm : Room} {mc ms : Nat} (h1 : rm.cells = mc) (h2 : rm.slots = ms) (h3 : rm.frames + 1 ≤ R.frames ∧ 8 + (5 + 11) + rm.locals ≤ R.locals) : CallW R s args RX9 RX9 105 yX9_tellVar cX9_tellVar 5 (some .boolean) (.code yX9_tellVar cX9_tellVar 5 (some .boolean) :: tb) rm mc ms 0 :=
  sCw Cx 0 w_1014 w_1016 w_27 w_208 w_1017 (by decide +kernel) h1 h2 h3
theorem c_X9_111 (Cx : sC G p m c cc nL s args RX9) {rm : Room} {mc ms : Nat} (h1 : rm.cells = mc) (h2 : rm.slots = ms) (h3 : rm.frames + 1 ≤ R.frames ∧ 8 + (2 + 11) + rm.locals ≤ R.locals) : CallW R s args RX9 RX9 111 yX9_tellGoal cX9_tellGoal 2 (some .boolean) (.code yX9_tellGoal cX9_tellGoal 2 (some .boolean) :: tb) rm mc ms 0 :=
  sCw Cx 0 w_1104 w_1106 w_41 w_208 w_1107 (by decide +kernel) h1 h2 h3
theorem c_X9_108 (Cx : sC G p m c cc nL s args RX9) {rm : Room} {mc ms : Nat} (h1 : rm.cells = mc) (h2 : rm.slots = ms) (h3 : rm.frames + 1 ≤ R.frames ∧ 8 + (7 + 11) + rm.locals ≤ R.locals) : CallW R s args RX9 RX9 108 yX9_tellRow cX9_tellRow 7 (some .boolean) (.code yX9_tellRow cX9_tellRow 7 (some .boolean) :: tb) rm mc ms 0 :=
  sCw Cx 0 w_1022 w_1024 w_28 w_208 w_1025 (by decide +kernel) h1 h2 h3
theorem c_X9_71 (Cx : sC G p m c cc nL s args RX9) {rm : Room} {mc ms : Nat} (h1 : rm.cells = mc) (h2 : rm.slots = ms) (h3 : rm.frames + 1 ≤ R.frames ∧ 8 + (1 + 11) + rm.locals ≤ R.locals) : CallW R s args RX9 RX8 71 yX8_stopPlace cX8_stopPlace 1 (some .int) (.code yX8_stopPlace cX8_stopPlace 1 (some .int) :: tb) rm mc ms 0 :=
  sCw Cx 0 w_945 w_946 w_947 w_209 w_948 (by decide +kernel) h1 h2 h3
end RW41
