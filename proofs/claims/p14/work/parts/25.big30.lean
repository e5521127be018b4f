theorem dJ7_fill_fda19_0 : decode cJ7_fill_fda19 0 = .ok (.aload_n 0, 1) := by decide +kernel
theorem dJ7_fill_fda19_1 : decode cJ7_fill_fda19 1 = .ok (.arraylength, 1) := by decide +kernel
theorem dJ7_fill_fda19_2 : decode cJ7_fill_fda19 2 = .ok (.iload_n 1, 1) := by decide +kernel
theorem dJ7_fill_fda19_3 : decode cJ7_fill_fda19 3 = .ok (.iload_n 2, 1) := by decide +kernel
theorem dJ7_fill_fda19_4 : decode cJ7_fill_fda19 4 = .ok (.invokestatic 13, 3) := by decide +kernel
theorem dJ7_fill_fda19_7 : decode cJ7_fill_fda19 7 = .ok (.iload_n 1, 1) := by decide +kernel
theorem dJ7_fill_fda19_8 : decode cJ7_fill_fda19 8 = .ok (.istore 4, 2) := by decide +kernel
theorem dJ7_fill_fda19_10 : decode cJ7_fill_fda19 10 = .ok (.iload 4, 2) := by decide +kernel
theorem dJ7_fill_fda19_12 : decode cJ7_fill_fda19 12 = .ok (.iload_n 2, 1) := by decide +kernel
theorem dJ7_fill_fda19_13 : decode cJ7_fill_fda19 13 = .ok (.if_icmp .ge 14, 3) := by decide +kernel
theorem dJ7_fill_fda19_16 : decode cJ7_fill_fda19 16 = .ok (.aload_n 0, 1) := by decide +kernel
theorem dJ7_fill_fda19_17 : decode cJ7_fill_fda19 17 = .ok (.iload 4, 2) := by decide +kernel
theorem dJ7_fill_fda19_19 : decode cJ7_fill_fda19 19 = .ok (.iload_n 3, 1) := by decide +kernel
theorem dJ7_fill_fda19_20 : decode cJ7_fill_fda19 20 = .ok (.iastore, 1) := by decide +kernel
theorem dJ7_fill_fda19_21 : decode cJ7_fill_fda19 21 = .ok (.iinc 4 1, 3) := by decide +kernel
theorem dJ7_fill_fda19_24 : decode cJ7_fill_fda19 24 = .ok (.goto (-14), 3) := by decide +kernel
theorem dJ7_fill_fda19_27 : decode cJ7_fill_fda19 27 = .ok (.return_, 1) := by decide +kernel
theorem dJ7_rangeCheck_23922_0 : decode cJ7_rangeCheck_23922 0 = .ok (.iload_n 1, 1) := by decide +kernel
theorem dJ7_rangeCheck_23922_1 : decode cJ7_rangeCheck_23922 1 = .ok (.iload_n 2, 1) := by decide +kernel
theorem dJ7_rangeCheck_23922_2 : decode cJ7_rangeCheck_23922 2 = .ok (.if_icmp .le 44, 3) := by decide +kernel
theorem dJ7_rangeCheck_23922_46 : decode cJ7_rangeCheck_23922 46 = .ok (.iload_n 1, 1) := by decide +kernel
theorem dJ7_rangeCheck_23922_47 : decode cJ7_rangeCheck_23922 47 = .ok (.ifCond .ge 12, 3) := by decide +kernel
theorem dJ7_rangeCheck_23922_59 : decode cJ7_rangeCheck_23922 59 = .ok (.iload_n 2, 1) := by decide +kernel
theorem dJ7_rangeCheck_23922_60 : decode cJ7_rangeCheck_23922 60 = .ok (.iload_n 0, 1) := by decide +kernel
theorem dJ7_rangeCheck_23922_61 : decode cJ7_rangeCheck_23922 61 = .ok (.if_icmp .le 12, 3) := by decide +kernel
theorem dJ7_rangeCheck_23922_73 : decode cJ7_rangeCheck_23922 73 = .ok (.return_, 1) := by decide +kernel
theorem dX0_move_0 : decode cX0_move 0 = .ok (.aload_n 0, 1) := by decide +kernel
theorem dX0_move_1 : decode cX0_move 1 = .ok (.iload_n 2, 1) := by decide +kernel
theorem dX0_move_2 : decode cX0_move 2 = .ok (.iaload, 1) := by decide +kernel
theorem dX0_move_3 : decode cX0_move 3 = .ok (.istore 4, 2) := by decide +kernel
theorem dX0_move_5 : decode cX0_move 5 = .ok (.iload 4, 2) := by decide +kernel
theorem dX0_move_7 : decode cX0_move 7 = .ok (.invokestatic 21, 3) := by decide +kernel
theorem dX0_move_10 : decode cX0_move 10 = .ok (.istore 5, 2) := by decide +kernel
theorem dX0_move_12 : decode cX0_move 12 = .ok (.aload_n 1, 1) := by decide +kernel
theorem dX0_move_13 : decode cX0_move 13 = .ok (.iload_n 2, 1) := by decide +kernel
theorem dX0_move_14 : decode cX0_move 14 = .ok (.iload_n 3, 1) := by decide +kernel
theorem dX0_move_15 : decode cX0_move 15 = .ok (.ifCond .ge 9, 3) := by decide +kernel
theorem dX0_move_18 : decode cX0_move 18 = .ok (.iload 4, 2) := by decide +kernel
theorem dX0_move_20 : decode cX0_move 20 = .ok (.ineg, 1) := by decide +kernel
theorem dX0_move_21 : decode cX0_move 21 = .ok (.goto 5, 3) := by decide +kernel
theorem dX0_move_24 : decode cX0_move 24 = .ok (.iload 4, 2) := by decide +kernel
theorem dX0_move_26 : decode cX0_move 26 = .ok (.iastore, 1) := by decide +kernel
theorem dX0_move_27 : decode cX0_move 27 = .ok (.iload_n 2, 1) := by decide +kernel
theorem dX0_move_28 : decode cX0_move 28 = .ok (.iconst 1, 1) := by decide +kernel
theorem dX0_move_29 : decode cX0_move 29 = .ok (.iadd, 1) := by decide +kernel
theorem dX0_move_30 : decode cX0_move 30 = .ok (.istore 6, 2) := by decide +kernel
theorem dX0_move_32 : decode cX0_move 32 = .ok (.iload 6, 2) := by decide +kernel
theorem dX0_move_34 : decode cX0_move 34 = .ok (.iload_n 2, 1) := by decide +kernel
theorem dX0_move_35 : decode cX0_move 35 = .ok (.iload 5, 2) := by decide +kernel
theorem dX0_move_37 : decode cX0_move 37 = .ok (.iadd, 1) := by decide +kernel
theorem dX0_move_38 : decode cX0_move 38 = .ok (.if_icmp .gt 17, 3) := by decide +kernel
theorem dX0_move_41 : decode cX0_move 41 = .ok (.aload_n 1, 1) := by decide +kernel
theorem dX0_move_42 : decode cX0_move 42 = .ok (.iload 6, 2) := by decide +kernel
theorem dX0_move_44 : decode cX0_move 44 = .ok (.aload_n 0, 1) := by decide +kernel
theorem dX0_move_45 : decode cX0_move 45 = .ok (.iload 6, 2) := by decide +kernel
theorem dX0_move_47 : decode cX0_move 47 = .ok (.iaload, 1) := by decide +kernel
theorem dX0_move_48 : decode cX0_move 48 = .ok (.iastore, 1) := by decide +kernel
theorem dX0_move_49 : decode cX0_move 49 = .ok (.iinc 6 1, 3) := by decide +kernel
theorem dX0_move_52 : decode cX0_move 52 = .ok (.goto (-20), 3) := by decide +kernel
theorem dX0_move_55 : decode cX0_move 55 = .ok (.return_, 1) := by decide +kernel
theorem dX0_product_0 : decode cX0_product 0 = .ok (.aload_n 1, 1) := by decide +kernel
theorem dX0_product_1 : decode cX0_product 1 = .ok (.getfield 24, 3) := by decide +kernel
theorem dX0_product_4 : decode cX0_product 4 = .ok (.aload_n 2, 1) := by decide +kernel
theorem dX0_product_5 : decode cX0_product 5 = .ok (.getfield 24, 3) := by decide +kernel
theorem dX0_product_8 : decode cX0_product 8 = .ok (.iadd, 1) := by decide +kernel
theorem dX0_product_9 : decode cX0_product 9 = .ok (.istore_n 3, 1) := by decide +kernel
theorem dX0_product_10 : decode cX0_product 10 = .ok (.aload_n 1, 1) := by decide +kernel
theorem dX0_product_11 : decode cX0_product 11 = .ok (.getfield 34, 3) := by decide +kernel
theorem dX0_product_14 : decode cX0_product 14 = .ok (.ifCond .eq 16, 3) := by decide +kernel
theorem dX0_product_17 : decode cX0_product 17 = .ok (.aload_n 2, 1) := by decide +kernel
theorem dX0_product_18 : decode cX0_product 18 = .ok (.getfield 34, 3) := by decide +kernel
theorem dX0_product_21 : decode cX0_product 21 = .ok (.ifCond .eq 9, 3) := by decide +kernel
theorem dX0_product_24 : decode cX0_product 24 = .ok (.iload_n 3, 1) := by decide +kernel
theorem dX0_product_25 : decode cX0_product 25 = .ok (.bipush 32, 2) := by decide +kernel
theorem dX0_product_27 : decode cX0_product 27 = .ok (.if_icmp .le 9, 3) := by decide +kernel
theorem dX0_product_30 : decode cX0_product 30 = .ok (.aload_n 0, 1) := by decide +kernel
theorem dX0_product_31 : decode cX0_product 31 = .ok (.lconst 0, 1) := by decide +kernel
theorem dX0_product_32 : decode cX0_product 32 = .ok (.invokevirtual 62, 3) := by decide +kernel
theorem dX0_product_35 : decode cX0_product 35 = .ok (.return_, 1) := by decide +kernel
theorem dX0_product_36 : decode cX0_product 36 = .ok (.aload_n 0, 1) := by decide +kernel
theorem dX0_product_37 : decode cX0_product 37 = .ok (.getfield 9, 3) := by decide +kernel
theorem dX0_product_40 : decode cX0_product 40 = .ok (.iconst 0, 1) := by decide +kernel
theorem dX0_product_41 : decode cX0_product 41 = .ok (.iload_n 3, 1) := by decide +kernel
theorem dX0_product_42 : decode cX0_product 42 = .ok (.iconst 0, 1) := by decide +kernel
theorem dX0_product_43 : decode cX0_product 43 = .ok (.invokestatic 66, 3) := by decide +kernel
theorem dX0_product_46 : decode cX0_product 46 = .ok (.iconst 0, 1) := by decide +kernel
theorem dX0_product_47 : decode cX0_product 47 = .ok (.istore 4, 2) := by decide +kernel
theorem dX0_product_49 : decode cX0_product 49 = .ok (.iload 4, 2) := by decide +kernel
theorem dX0_product_51 : decode cX0_product 51 = .ok (.aload_n 1, 1) := by decide +kernel
theorem dX0_product_52 : decode cX0_product 52 = .ok (.getfield 24, 3) := by decide +kernel
theorem dX0_product_55 : decode cX0_product 55 = .ok (.if_icmp .ge 111, 3) := by decide +kernel
theorem dX0_product_58 : decode cX0_product 58 = .ok (.aload_n 1, 1) := by decide +kernel
theorem dX0_product_59 : decode cX0_product 59 = .ok (.getfield 9, 3) := by decide +kernel
theorem dX0_product_62 : decode cX0_product 62 = .ok (.iload 4, 2) := by decide +kernel
theorem dX0_product_64 : decode cX0_product 64 = .ok (.iaload, 1) := by decide +kernel
theorem dX0_product_65 : decode cX0_product 65 = .ok (.i2l, 1) := by decide +kernel
theorem dX0_product_66 : decode cX0_product 66 = .ok (.lstore 5, 2) := by decide +kernel
theorem dX0_product_68 : decode cX0_product 68 = .ok (.lconst 0, 1) := by decide +kernel
theorem dX0_product_69 : decode cX0_product 69 = .ok (.lstore 7, 2) := by decide +kernel
theorem dX0_product_71 : decode cX0_product 71 = .ok (.iconst 0, 1) := by decide +kernel
theorem dX0_product_72 : decode cX0_product 72 = .ok (.istore 9, 2) := by decide +kernel
theorem dX0_product_74 : decode cX0_product 74 = .ok (.iload 9, 2) := by decide +kernel
theorem dX0_product_76 : decode cX0_product 76 = .ok (.aload_n 2, 1) := by decide +kernel
theorem dX0_product_77 : decode cX0_product 77 = .ok (.getfield 24, 3) := by decide +kernel
theorem dX0_product_80 : decode cX0_product 80 = .ok (.if_icmp .ge 65, 3) := by decide +kernel
theorem dX0_product_83 : decode cX0_product 83 = .ok (.aload_n 0, 1) := by decide +kernel
theorem dX0_product_84 : decode cX0_product 84 = .ok (.getfield 9, 3) := by decide +kernel
theorem dX0_product_87 : decode cX0_product 87 = .ok (.iload 4, 2) := by decide +kernel
theorem dX0_product_89 : decode cX0_product 89 = .ok (.iload 9, 2) := by decide +kernel
theorem dX0_product_91 : decode cX0_product 91 = .ok (.iadd, 1) := by decide +kernel
theorem dX0_product_92 : decode cX0_product 92 = .ok (.iaload, 1) := by decide +kernel
theorem dX0_product_93 : decode cX0_product 93 = .ok (.i2l, 1) := by decide +kernel
theorem dX0_product_94 : decode cX0_product 94 = .ok (.lload 5, 2) := by decide +kernel
theorem dX0_product_96 : decode cX0_product 96 = .ok (.aload_n 2, 1) := by decide +kernel
theorem dX0_product_97 : decode cX0_product 97 = .ok (.getfield 9, 3) := by decide +kernel
theorem dX0_product_100 : decode cX0_product 100 = .ok (.iload 9, 2) := by decide +kernel
theorem dX0_product_102 : decode cX0_product 102 = .ok (.iaload, 1) := by decide +kernel
theorem dX0_product_103 : decode cX0_product 103 = .ok (.i2l, 1) := by decide +kernel
theorem dX0_product_104 : decode cX0_product 104 = .ok (.lmul, 1) := by decide +kernel
theorem dX0_product_105 : decode cX0_product 105 = .ok (.ladd, 1) := by decide +kernel
theorem dX0_product_106 : decode cX0_product 106 = .ok (.lload 7, 2) := by decide +kernel
theorem dX0_product_108 : decode cX0_product 108 = .ok (.ladd, 1) := by decide +kernel
theorem dX0_product_109 : decode cX0_product 109 = .ok (.lstore 10, 2) := by decide +kernel
theorem dX0_product_111 : decode cX0_product 111 = .ok (.lload 10, 2) := by decide +kernel
theorem dX0_product_113 : decode cX0_product 113 = .ok (.ldc2_w 19, 3) := by decide +kernel
theorem dX0_product_116 : decode cX0_product 116 = .ok (.ldiv, 1) := by decide +kernel
theorem dX0_product_117 : decode cX0_product 117 = .ok (.lstore 7, 2) := by decide +kernel
theorem dX0_product_119 : decode cX0_product 119 = .ok (.aload_n 0, 1) := by decide +kernel
theorem dX0_product_120 : decode cX0_product 120 = .ok (.getfield 9, 3) := by decide +kernel
theorem dX0_product_123 : decode cX0_product 123 = .ok (.iload 4, 2) := by decide +kernel
theorem dX0_product_125 : decode cX0_product 125 = .ok (.iload 9, 2) := by decide +kernel
theorem dX0_product_127 : decode cX0_product 127 = .ok (.iadd, 1) := by decide +kernel
theorem dX0_product_128 : decode cX0_product 128 = .ok (.lload 10, 2) := by decide +kernel
theorem dX0_product_130 : decode cX0_product 130 = .ok (.lload 7, 2) := by decide +kernel
theorem dX0_product_132 : decode cX0_product 132 = .ok (.ldc2_w 19, 3) := by decide +kernel
theorem dX0_product_135 : decode cX0_product 135 = .ok (.lmul, 1) := by decide +kernel
theorem dX0_product_136 : decode cX0_product 136 = .ok (.lsub, 1) := by decide +kernel
theorem dX0_product_137 : decode cX0_product 137 = .ok (.l2i, 1) := by decide +kernel
theorem dX0_product_138 : decode cX0_product 138 = .ok (.iastore, 1) := by decide +kernel
theorem dX0_product_139 : decode cX0_product 139 = .ok (.iinc 9 1, 3) := by decide +kernel
theorem dX0_product_142 : decode cX0_product 142 = .ok (.goto (-68), 3) := by decide +kernel
theorem dX0_product_145 : decode cX0_product 145 = .ok (.aload_n 0, 1) := by decide +kernel
theorem dX0_product_146 : decode cX0_product 146 = .ok (.getfield 9, 3) := by decide +kernel
theorem dX0_product_149 : decode cX0_product 149 = .ok (.iload 4, 2) := by decide +kernel
theorem dX0_product_151 : decode cX0_product 151 = .ok (.aload_n 2, 1) := by decide +kernel
theorem dX0_product_152 : decode cX0_product 152 = .ok (.getfield 24, 3) := by decide +kernel
theorem dX0_product_155 : decode cX0_product 155 = .ok (.iadd, 1) := by decide +kernel
theorem dX0_product_156 : decode cX0_product 156 = .ok (.lload 7, 2) := by decide +kernel
theorem dX0_product_158 : decode cX0_product 158 = .ok (.l2i, 1) := by decide +kernel
theorem dX0_product_159 : decode cX0_product 159 = .ok (.iastore, 1) := by decide +kernel
theorem dX0_product_160 : decode cX0_product 160 = .ok (.iinc 4 1, 3) := by decide +kernel
theorem dX0_product_163 : decode cX0_product 163 = .ok (.goto (-114), 3) := by decide +kernel
theorem dX0_product_166 : decode cX0_product 166 = .ok (.aload_n 0, 1) := by decide +kernel
theorem dX0_product_167 : decode cX0_product 167 = .ok (.iload_n 3, 1) := by decide +kernel
theorem dX0_product_168 : decode cX0_product 168 = .ok (.putfield 24, 3) := by decide +kernel
theorem dX0_product_171 : decode cX0_product 171 = .ok (.aload_n 0, 1) := by decide +kernel
theorem dX0_product_172 : decode cX0_product 172 = .ok (.aload_n 1, 1) := by decide +kernel
theorem dX0_product_173 : decode cX0_product 173 = .ok (.getfield 34, 3) := by decide +kernel
theorem dX0_product_176 : decode cX0_product 176 = .ok (.aload_n 2, 1) := by decide +kernel
theorem dX0_product_177 : decode cX0_product 177 = .ok (.getfield 34, 3) := by decide +kernel
theorem dX0_product_180 : decode cX0_product 180 = .ok (.imul, 1) := by decide +kernel
theorem dX0_product_181 : decode cX0_product 181 = .ok (.putfield 34, 3) := by decide +kernel
theorem dX0_product_184 : decode cX0_product 184 = .ok (.aload_n 0, 1) := by decide +kernel
theorem dX0_product_185 : decode cX0_product 185 = .ok (.invokevirtual 59, 3) := by decide +kernel
theorem dX0_product_188 : decode cX0_product 188 = .ok (.return_, 1) := by decide +kernel
theorem dX0_reduce_0 : decode cX0_reduce 0 = .ok (.iload_n 1, 1) := by decide +kernel
theorem dX0_reduce_1 : decode cX0_reduce 1 = .ok (.ifCond .gt 5, 3) := by decide +kernel
theorem dX0_reduce_4 : decode cX0_reduce 4 = .ok (.iconst 0, 1) := by decide +kernel
theorem dX0_reduce_5 : decode cX0_reduce 5 = .ok (.ireturn, 1) := by decide +kernel
theorem dX0_reduce_6 : decode cX0_reduce 6 = .ok (.lconst 0, 1) := by decide +kernel
theorem dX0_reduce_7 : decode cX0_reduce 7 = .ok (.lstore_n 2, 1) := by decide +kernel
theorem dX0_reduce_8 : decode cX0_reduce 8 = .ok (.aload_n 0, 1) := by decide +kernel
theorem dX0_reduce_9 : decode cX0_reduce 9 = .ok (.getfield 24, 3) := by decide +kernel
theorem dX0_reduce_12 : decode cX0_reduce 12 = .ok (.iconst 1, 1) := by decide +kernel
theorem dX0_reduce_13 : decode cX0_reduce 13 = .ok (.isub, 1) := by decide +kernel
theorem dX0_reduce_14 : decode cX0_reduce 14 = .ok (.istore 4, 2) := by decide +kernel
theorem dX0_reduce_16 : decode cX0_reduce 16 = .ok (.iload 4, 2) := by decide +kernel
theorem dX0_reduce_18 : decode cX0_reduce 18 = .ok (.ifCond .lt 44, 3) := by decide +kernel
theorem dX0_reduce_21 : decode cX0_reduce 21 = .ok (.lload_n 2, 1) := by decide +kernel
theorem dX0_reduce_22 : decode cX0_reduce 22 = .ok (.ldc2_w 19, 3) := by decide +kernel
theorem dX0_reduce_25 : decode cX0_reduce 25 = .ok (.lmul, 1) := by decide +kernel
theorem dX0_reduce_26 : decode cX0_reduce 26 = .ok (.aload_n 0, 1) := by decide +kernel
theorem dX0_reduce_27 : decode cX0_reduce 27 = .ok (.getfield 9, 3) := by decide +kernel
theorem dX0_reduce_30 : decode cX0_reduce 30 = .ok (.iload 4, 2) := by decide +kernel
theorem dX0_reduce_32 : decode cX0_reduce 32 = .ok (.iaload, 1) := by decide +kernel
theorem dX0_reduce_33 : decode cX0_reduce 33 = .ok (.i2l, 1) := by decide +kernel
theorem dX0_reduce_34 : decode cX0_reduce 34 = .ok (.ladd, 1) := by decide +kernel
theorem dX0_reduce_35 : decode cX0_reduce 35 = .ok (.lstore 5, 2) := by decide +kernel
theorem dX0_reduce_37 : decode cX0_reduce 37 = .ok (.aload_n 0, 1) := by decide +kernel
theorem dX0_reduce_38 : decode cX0_reduce 38 = .ok (.getfield 9, 3) := by decide +kernel
theorem dX0_reduce_41 : decode cX0_reduce 41 = .ok (.iload 4, 2) := by decide +kernel
theorem dX0_reduce_43 : decode cX0_reduce 43 = .ok (.lload 5, 2) := by decide +kernel
theorem dX0_reduce_45 : decode cX0_reduce 45 = .ok (.iload_n 1, 1) := by decide +kernel
theorem dX0_reduce_46 : decode cX0_reduce 46 = .ok (.i2l, 1) := by decide +kernel
theorem dX0_reduce_47 : decode cX0_reduce 47 = .ok (.ldiv, 1) := by decide +kernel
theorem dX0_reduce_48 : decode cX0_reduce 48 = .ok (.l2i, 1) := by decide +kernel
theorem dX0_reduce_49 : decode cX0_reduce 49 = .ok (.iastore, 1) := by decide +kernel
theorem dX0_reduce_50 : decode cX0_reduce 50 = .ok (.lload 5, 2) := by decide +kernel
theorem dX0_reduce_52 : decode cX0_reduce 52 = .ok (.iload_n 1, 1) := by decide +kernel
theorem dX0_reduce_53 : decode cX0_reduce 53 = .ok (.i2l, 1) := by decide +kernel
theorem dX0_reduce_54 : decode cX0_reduce 54 = .ok (.lrem, 1) := by decide +kernel
theorem dX0_reduce_55 : decode cX0_reduce 55 = .ok (.lstore_n 2, 1) := by decide +kernel
theorem dX0_reduce_56 : decode cX0_reduce 56 = .ok (.iinc 4 (-1), 3) := by decide +kernel
theorem dX0_reduce_59 : decode cX0_reduce 59 = .ok (.goto (-43), 3) := by decide +kernel
theorem dX0_reduce_62 : decode cX0_reduce 62 = .ok (.aload_n 0, 1) := by decide +kernel
theorem dX0_reduce_63 : decode cX0_reduce 63 = .ok (.getfield 24, 3) := by decide +kernel
theorem dX0_reduce_66 : decode cX0_reduce 66 = .ok (.ifCond .le 30, 3) := by decide +kernel
theorem dX0_reduce_69 : decode cX0_reduce 69 = .ok (.aload_n 0, 1) := by decide +kernel
theorem dX0_reduce_70 : decode cX0_reduce 70 = .ok (.getfield 9, 3) := by decide +kernel
theorem dX0_reduce_73 : decode cX0_reduce 73 = .ok (.aload_n 0, 1) := by decide +kernel
theorem dX0_reduce_74 : decode cX0_reduce 74 = .ok (.getfield 24, 3) := by decide +kernel
theorem dX0_reduce_77 : decode cX0_reduce 77 = .ok (.iconst 1, 1) := by decide +kernel
theorem dX0_reduce_78 : decode cX0_reduce 78 = .ok (.isub, 1) := by decide +kernel
theorem dX0_reduce_79 : decode cX0_reduce 79 = .ok (.iaload, 1) := by decide +kernel
theorem dX0_reduce_80 : decode cX0_reduce 80 = .ok (.ifCond .ne 16, 3) := by decide +kernel
theorem dX0_reduce_83 : decode cX0_reduce 83 = .ok (.aload_n 0, 1) := by decide +kernel
theorem dX0_reduce_84 : decode cX0_reduce 84 = .ok (.dup, 1) := by decide +kernel
theorem dX0_reduce_85 : decode cX0_reduce 85 = .ok (.getfield 24, 3) := by decide +kernel
theorem dX0_reduce_88 : decode cX0_reduce 88 = .ok (.iconst 1, 1) := by decide +kernel
theorem dX0_reduce_89 : decode cX0_reduce 89 = .ok (.isub, 1) := by decide +kernel
theorem dX0_reduce_90 : decode cX0_reduce 90 = .ok (.putfield 24, 3) := by decide +kernel
theorem dX0_reduce_93 : decode cX0_reduce 93 = .ok (.goto (-31), 3) := by decide +kernel
theorem dX0_reduce_96 : decode cX0_reduce 96 = .ok (.aload_n 0, 1) := by decide +kernel
theorem dX0_reduce_97 : decode cX0_reduce 97 = .ok (.aload_n 0, 1) := by decide +kernel
theorem dX0_reduce_98 : decode cX0_reduce 98 = .ok (.getfield 24, 3) := by decide +kernel
theorem dX0_reduce_101 : decode cX0_reduce 101 = .ok (.ifCond .ne 7, 3) := by decide +kernel
theorem dX0_reduce_104 : decode cX0_reduce 104 = .ok (.iconst 0, 1) := by decide +kernel
theorem dX0_reduce_105 : decode cX0_reduce 105 = .ok (.goto 7, 3) := by decide +kernel
theorem dX0_reduce_108 : decode cX0_reduce 108 = .ok (.aload_n 0, 1) := by decide +kernel
theorem dX0_reduce_109 : decode cX0_reduce 109 = .ok (.getfield 34, 3) := by decide +kernel
theorem dX0_reduce_112 : decode cX0_reduce 112 = .ok (.putfield 34, 3) := by decide +kernel
theorem dX0_reduce_115 : decode cX0_reduce 115 = .ok (.lload_n 2, 1) := by decide +kernel
theorem dX0_reduce_116 : decode cX0_reduce 116 = .ok (.l2i, 1) := by decide +kernel
theorem dX0_reduce_117 : decode cX0_reduce 117 = .ok (.ireturn, 1) := by decide +kernel
theorem dX0_store_0 : decode cX0_store 0 = .ok (.lload_n 2, 1) := by decide +kernel
theorem dX0_store_1 : decode cX0_store 1 = .ok (.invokestatic 13, 3) := by decide +kernel
theorem dX0_store_4 : decode cX0_store 4 = .ok (.lstore 4, 2) := by decide +kernel
theorem dX0_store_6 : decode cX0_store 6 = .ok (.iconst 0, 1) := by decide +kernel
theorem dX0_store_7 : decode cX0_store 7 = .ok (.istore 6, 2) := by decide +kernel
theorem dX0_store_9 : decode cX0_store 9 = .ok (.iconst 1, 1) := by decide +kernel
theorem dX0_store_10 : decode cX0_store 10 = .ok (.istore 7, 2) := by decide +kernel
theorem dX0_store_12 : decode cX0_store 12 = .ok (.iload 7, 2) := by decide +kernel
theorem dX0_store_14 : decode cX0_store 14 = .ok (.iconst 3, 1) := by decide +kernel
theorem dX0_store_15 : decode cX0_store 15 = .ok (.if_icmp .gt 41, 3) := by decide +kernel
theorem dX0_store_18 : decode cX0_store 18 = .ok (.lload 4, 2) := by decide +kernel
theorem dX0_store_20 : decode cX0_store 20 = .ok (.lconst 0, 1) := by decide +kernel
theorem dX0_store_21 : decode cX0_store 21 = .ok (.lcmp, 1) := by decide +kernel
theorem dX0_store_22 : decode cX0_store 22 = .ok (.ifCond .eq 34, 3) := by decide +kernel
theorem dX0_store_25 : decode cX0_store 25 = .ok (.aload_n 0, 1) := by decide +kernel
theorem dX0_store_26 : decode cX0_store 26 = .ok (.iload_n 1, 1) := by decide +kernel
theorem dX0_store_27 : decode cX0_store 27 = .ok (.iload 7, 2) := by decide +kernel
theorem dX0_store_29 : decode cX0_store 29 = .ok (.iadd, 1) := by decide +kernel
theorem dX0_store_30 : decode cX0_store 30 = .ok (.lload 4, 2) := by decide +kernel
theorem dX0_store_32 : decode cX0_store 32 = .ok (.ldc2_w 19, 3) := by decide +kernel
theorem dX0_store_35 : decode cX0_store 35 = .ok (.lrem, 1) := by decide +kernel
theorem dX0_store_36 : decode cX0_store 36 = .ok (.l2i, 1) := by decide +kernel
theorem dX0_store_37 : decode cX0_store 37 = .ok (.iastore, 1) := by decide +kernel
theorem dX0_store_38 : decode cX0_store 38 = .ok (.lload 4, 2) := by decide +kernel
theorem dX0_store_40 : decode cX0_store 40 = .ok (.ldc2_w 19, 3) := by decide +kernel
theorem dX0_store_43 : decode cX0_store 43 = .ok (.ldiv, 1) := by decide +kernel
theorem dX0_store_44 : decode cX0_store 44 = .ok (.lstore 4, 2) := by decide +kernel
theorem dX0_store_46 : decode cX0_store 46 = .ok (.iload 7, 2) := by decide +kernel
theorem dX0_store_48 : decode cX0_store 48 = .ok (.istore 6, 2) := by decide +kernel
theorem dX0_store_50 : decode cX0_store 50 = .ok (.iinc 7 1, 3) := by decide +kernel
theorem dX0_store_53 : decode cX0_store 53 = .ok (.goto (-41), 3) := by decide +kernel
theorem dX0_store_56 : decode cX0_store 56 = .ok (.aload_n 0, 1) := by decide +kernel
theorem dX0_store_57 : decode cX0_store 57 = .ok (.iload_n 1, 1) := by decide +kernel
theorem dX0_store_58 : decode cX0_store 58 = .ok (.lload_n 2, 1) := by decide +kernel
theorem dX0_store_59 : decode cX0_store 59 = .ok (.lconst 0, 1) := by decide +kernel
theorem dX0_store_60 : decode cX0_store 60 = .ok (.lcmp, 1) := by decide +kernel
theorem dX0_store_61 : decode cX0_store 61 = .ok (.ifCond .ge 9, 3) := by decide +kernel
theorem dX0_store_64 : decode cX0_store 64 = .ok (.iload 6, 2) := by decide +kernel
theorem dX0_store_66 : decode cX0_store 66 = .ok (.ineg, 1) := by decide +kernel
theorem dX0_store_67 : decode cX0_store 67 = .ok (.goto 5, 3) := by decide +kernel
theorem dX0_store_70 : decode cX0_store 70 = .ok (.iload 6, 2) := by decide +kernel
theorem dX0_store_72 : decode cX0_store 72 = .ok (.iastore, 1) := by decide +kernel
theorem dX0_store_73 : decode cX0_store 73 = .ok (.return_, 1) := by decide +kernel
theorem w_223 : Cond.initialized RJ7 ∈ tb := tbc_1 20 (by decide +kernel) rfl
theorem w_1262 : Cond.methodLink RX0 62 yX0_put ∈ tb := tbc_5 99 (by decide +kernel) rfl
theorem w_1263 : Cond.instanceMethod yX0_put ∈ tb := tbc_5 100 (by decide +kernel) rfl
theorem w_1264 : Cond.selects RX0 yX0_put yX0_put ∈ tb := tbc_5 101 (by decide +kernel) rfl
theorem w_1265 : Cond.code yX0_put cX0_put 6 none ∈ tb := tbc_5 102 (by decide +kernel) rfl
theorem w_1269 : Cond.methodLink RX0 66 yJ7_fill_fda19 ∈ tb := tbc_5 106 (by decide +kernel) rfl
theorem w_1270 : Cond.static yJ7_fill_fda19 ∈ tb := tbc_5 107 (by decide +kernel) rfl
theorem w_1271 : Cond.code yJ7_fill_fda19 cJ7_fill_fda19 5 none ∈ tb := tbc_5 108 (by decide +kernel) rfl
theorem w_1272 : Cond.methodLink RJ7 13 yJ7_rangeCheck_23922 ∈ tb := tbc_5 109 (by decide +kernel) rfl
theorem w_1273 : Cond.static yJ7_rangeCheck_23922 ∈ tb := tbc_5 110 (by decide +kernel) rfl
theorem w_1274 : Cond.code yJ7_rangeCheck_23922 cJ7_rangeCheck_23922 3 none ∈ tb := tbc_5 111 (by decide +kernel) rfl
section RW25
variable {p : Program} {l : Launch} {e : Env} {R : Room} {s : State} {m : MethodId} {args : Array Value} {below : List Frame} {meth : Method} {c : Code} {H : Heap} {locs : List Loc} {cells slots : Nat} {Q : State → Prop}
variable {cc : ByteArray} {pc nL : Nat} {ls : Array Slot} {rest st0 : List Value} {G : sG} {n : Nat} {S : sS}
theorem c_J7_13 (Cx : sC G p m c cc nL s args RJ7) {rm : Room} {mc ms : Nat} (h1 : rm.cells = mc) (h2 : rm.slots = ms) (h3 : rm.frames + 1 ≤ R.frames ∧ 8 + (3 + 11) + rm.locals ≤ R.locals) : CallB R s args RJ7 13 yJ7_rangeCheck_23922 cJ7_rangeCheck_23922 3 none (.code yJ7_rangeCheck_23922 cJ7_rangeCheck_23922 3 none :: tb) rm mc ms 3 ∧ (Cond.static yJ7_rangeCheck_23922).before args s = true :=
  sCS Cx 3 w_1272 w_1273 w_223 w_1274 (by decide +kernel) h1 h2 h3
theorem c_X0_62 (Cx : sC G p m c cc nL s args RX0) {rm : Room} {mc ms : Nat} (h1 : rm.cells = mc) (h2 : rm.slots = ms) (h3 : rm.frames + 1 ≤ R.frames ∧ 8 + (6 + 11) + rm.locals ≤ R.locals) : CallW R s args RX0 RX0 62 yX0_put cX0_put 6 none (.code yX0_put cX0_put 6 none :: tb) rm mc ms 1 :=
  sCw Cx 1 w_1262 w_1263 w_1264 w_212 w_1265 (by decide +kernel) h1 h2 h3
theorem c_X0_66 (Cx : sC G p m c cc nL s args RX0) {rm : Room} {mc ms : Nat} (h1 : rm.cells = mc) (h2 : rm.slots = ms) (h3 : rm.frames + 1 ≤ R.frames ∧ 8 + (5 + 11) + rm.locals ≤ R.locals) : CallB R s args RX0 66 yJ7_fill_fda19 cJ7_fill_fda19 5 none (.code yJ7_fill_fda19 cJ7_fill_fda19 5 none :: tb) rm mc ms 4 ∧ (Cond.static yJ7_fill_fda19).before args s = true :=
  sCS Cx 4 w_1269 w_1270 w_223 w_1271 (by decide +kernel) h1 h2 h3
end RW25
