theorem dJ7_fill_d0a16_0 : decode cJ7_fill_d0a16 0 = .ok (.iconst 0, 1) := by decide +kernel
theorem dJ7_fill_d0a16_1 : decode cJ7_fill_d0a16 1 = .ok (.istore_n 3, 1) := by decide +kernel
theorem dJ7_fill_d0a16_2 : decode cJ7_fill_d0a16 2 = .ok (.aload_n 0, 1) := by decide +kernel
theorem dJ7_fill_d0a16_3 : decode cJ7_fill_d0a16 3 = .ok (.arraylength, 1) := by decide +kernel
theorem dJ7_fill_d0a16_4 : decode cJ7_fill_d0a16 4 = .ok (.istore 4, 2) := by decide +kernel
theorem dJ7_fill_d0a16_6 : decode cJ7_fill_d0a16 6 = .ok (.iload_n 3, 1) := by decide +kernel
theorem dJ7_fill_d0a16_7 : decode cJ7_fill_d0a16 7 = .ok (.iload 4, 2) := by decide +kernel
theorem dJ7_fill_d0a16_9 : decode cJ7_fill_d0a16 9 = .ok (.if_icmp .ge 13, 3) := by decide +kernel
theorem dJ7_fill_d0a16_12 : decode cJ7_fill_d0a16 12 = .ok (.aload_n 0, 1) := by decide +kernel
theorem dJ7_fill_d0a16_13 : decode cJ7_fill_d0a16 13 = .ok (.iload_n 3, 1) := by decide +kernel
theorem dJ7_fill_d0a16_14 : decode cJ7_fill_d0a16 14 = .ok (.lload_n 1, 1) := by decide +kernel
theorem dJ7_fill_d0a16_15 : decode cJ7_fill_d0a16 15 = .ok (.lastore, 1) := by decide +kernel
theorem dJ7_fill_d0a16_16 : decode cJ7_fill_d0a16 16 = .ok (.iinc 3 1, 3) := by decide +kernel
theorem dJ7_fill_d0a16_19 : decode cJ7_fill_d0a16 19 = .ok (.goto (-13), 3) := by decide +kernel
theorem dJ7_fill_d0a16_22 : decode cJ7_fill_d0a16 22 = .ok (.return_, 1) := by decide +kernel
theorem dX9_addTo_0 : decode cX9_addTo 0 = .ok (.iconst 0, 1) := by decide +kernel
theorem dX9_addTo_1 : decode cX9_addTo 1 = .ok (.istore_n 3, 1) := by decide +kernel
theorem dX9_addTo_2 : decode cX9_addTo 2 = .ok (.iload_n 3, 1) := by decide +kernel
theorem dX9_addTo_3 : decode cX9_addTo 3 = .ok (.bipush 13, 2) := by decide +kernel
theorem dX9_addTo_5 : decode cX9_addTo 5 = .ok (.if_icmp .ge 21, 3) := by decide +kernel
theorem dX9_addTo_8 : decode cX9_addTo 8 = .ok (.aload_n 0, 1) := by decide +kernel
theorem dX9_addTo_9 : decode cX9_addTo 9 = .ok (.iload_n 3, 1) := by decide +kernel
theorem dX9_addTo_10 : decode cX9_addTo 10 = .ok (.dup2, 1) := by decide +kernel
theorem dX9_addTo_11 : decode cX9_addTo 11 = .ok (.laload, 1) := by decide +kernel
theorem dX9_addTo_12 : decode cX9_addTo 12 = .ok (.iload_n 2, 1) := by decide +kernel
theorem dX9_addTo_13 : decode cX9_addTo 13 = .ok (.i2l, 1) := by decide +kernel
theorem dX9_addTo_14 : decode cX9_addTo 14 = .ok (.aload_n 1, 1) := by decide +kernel
theorem dX9_addTo_15 : decode cX9_addTo 15 = .ok (.iload_n 3, 1) := by decide +kernel
theorem dX9_addTo_16 : decode cX9_addTo 16 = .ok (.laload, 1) := by decide +kernel
theorem dX9_addTo_17 : decode cX9_addTo 17 = .ok (.lmul, 1) := by decide +kernel
theorem dX9_addTo_18 : decode cX9_addTo 18 = .ok (.ladd, 1) := by decide +kernel
theorem dX9_addTo_19 : decode cX9_addTo 19 = .ok (.lastore, 1) := by decide +kernel
theorem dX9_addTo_20 : decode cX9_addTo 20 = .ok (.iinc 3 1, 3) := by decide +kernel
theorem dX9_addTo_23 : decode cX9_addTo 23 = .ok (.goto (-21), 3) := by decide +kernel
theorem dX9_addTo_26 : decode cX9_addTo 26 = .ok (.return_, 1) := by decide +kernel
theorem dX9_canBeFactor_0 : decode cX9_canBeFactor 0 = .ok (.aload_n 0, 1) := by decide +kernel
theorem dX9_canBeFactor_1 : decode cX9_canBeFactor 1 = .ok (.iload_n 1, 1) := by decide +kernel
theorem dX9_canBeFactor_2 : decode cX9_canBeFactor 2 = .ok (.iconst 2, 1) := by decide +kernel
theorem dX9_canBeFactor_3 : decode cX9_canBeFactor 3 = .ok (.invokevirtual 146, 3) := by decide +kernel
theorem dX9_canBeFactor_6 : decode cX9_canBeFactor 6 = .ok (.ifCond .eq 27, 3) := by decide +kernel
theorem dX9_canBeFactor_9 : decode cX9_canBeFactor 9 = .ok (.aload_n 0, 1) := by decide +kernel
theorem dX9_canBeFactor_10 : decode cX9_canBeFactor 10 = .ok (.getfield 14, 3) := by decide +kernel
theorem dX9_canBeFactor_13 : decode cX9_canBeFactor 13 = .ok (.aload_n 0, 1) := by decide +kernel
theorem dX9_canBeFactor_14 : decode cX9_canBeFactor 14 = .ok (.getfield 89, 3) := by decide +kernel
theorem dX9_canBeFactor_17 : decode cX9_canBeFactor 17 = .ok (.iconst 1, 1) := by decide +kernel
theorem dX9_canBeFactor_18 : decode cX9_canBeFactor 18 = .ok (.iadd, 1) := by decide +kernel
theorem dX9_canBeFactor_19 : decode cX9_canBeFactor 19 = .ok (.invokevirtual 95, 3) := by decide +kernel
theorem dX9_canBeFactor_22 : decode cX9_canBeFactor 22 = .ok (.bipush 17, 2) := by decide +kernel
theorem dX9_canBeFactor_24 : decode cX9_canBeFactor 24 = .ok (.if_icmp .eq 7, 3) := by decide +kernel
theorem dX9_canBeFactor_27 : decode cX9_canBeFactor 27 = .ok (.iconst 1, 1) := by decide +kernel
theorem dX9_canBeFactor_28 : decode cX9_canBeFactor 28 = .ok (.goto 4, 3) := by decide +kernel
theorem dX9_canBeFactor_31 : decode cX9_canBeFactor 31 = .ok (.iconst 0, 1) := by decide +kernel
theorem dX9_canBeFactor_32 : decode cX9_canBeFactor 32 = .ok (.ireturn, 1) := by decide +kernel
theorem dX9_canBeFactor_33 : decode cX9_canBeFactor 33 = .ok (.aload_n 0, 1) := by decide +kernel
theorem dX9_canBeFactor_34 : decode cX9_canBeFactor 34 = .ok (.iload_n 1, 1) := by decide +kernel
theorem dX9_canBeFactor_35 : decode cX9_canBeFactor 35 = .ok (.bipush 7, 2) := by decide +kernel
theorem dX9_canBeFactor_37 : decode cX9_canBeFactor 37 = .ok (.invokevirtual 146, 3) := by decide +kernel
theorem dX9_canBeFactor_40 : decode cX9_canBeFactor 40 = .ok (.ifCond .ne 13, 3) := by decide +kernel
theorem dX9_canBeFactor_43 : decode cX9_canBeFactor 43 = .ok (.aload_n 0, 1) := by decide +kernel
theorem dX9_canBeFactor_44 : decode cX9_canBeFactor 44 = .ok (.iload_n 1, 1) := by decide +kernel
theorem dX9_canBeFactor_45 : decode cX9_canBeFactor 45 = .ok (.bipush 8, 2) := by decide +kernel
theorem dX9_canBeFactor_47 : decode cX9_canBeFactor 47 = .ok (.invokevirtual 146, 3) := by decide +kernel
theorem dX9_canBeFactor_50 : decode cX9_canBeFactor 50 = .ok (.ifCond .eq 7, 3) := by decide +kernel
theorem dX9_canBeFactor_53 : decode cX9_canBeFactor 53 = .ok (.iconst 1, 1) := by decide +kernel
theorem dX9_canBeFactor_54 : decode cX9_canBeFactor 54 = .ok (.goto 4, 3) := by decide +kernel
theorem dX9_canBeFactor_57 : decode cX9_canBeFactor 57 = .ok (.iconst 0, 1) := by decide +kernel
theorem dX9_canBeFactor_58 : decode cX9_canBeFactor 58 = .ok (.ireturn, 1) := by decide +kernel
theorem dX9_hasCoefficient_0 : decode cX9_hasCoefficient 0 = .ok (.iconst 1, 1) := by decide +kernel
theorem dX9_hasCoefficient_1 : decode cX9_hasCoefficient 1 = .ok (.istore_n 1, 1) := by decide +kernel
theorem dX9_hasCoefficient_2 : decode cX9_hasCoefficient 2 = .ok (.iload_n 1, 1) := by decide +kernel
theorem dX9_hasCoefficient_3 : decode cX9_hasCoefficient 3 = .ok (.bipush 13, 2) := by decide +kernel
theorem dX9_hasCoefficient_5 : decode cX9_hasCoefficient 5 = .ok (.if_icmp .ge 19, 3) := by decide +kernel
theorem dX9_hasCoefficient_8 : decode cX9_hasCoefficient 8 = .ok (.aload_n 0, 1) := by decide +kernel
theorem dX9_hasCoefficient_9 : decode cX9_hasCoefficient 9 = .ok (.iload_n 1, 1) := by decide +kernel
theorem dX9_hasCoefficient_10 : decode cX9_hasCoefficient 10 = .ok (.laload, 1) := by decide +kernel
theorem dX9_hasCoefficient_11 : decode cX9_hasCoefficient 11 = .ok (.lconst 0, 1) := by decide +kernel
theorem dX9_hasCoefficient_12 : decode cX9_hasCoefficient 12 = .ok (.lcmp, 1) := by decide +kernel
theorem dX9_hasCoefficient_13 : decode cX9_hasCoefficient 13 = .ok (.ifCond .eq 5, 3) := by decide +kernel
theorem dX9_hasCoefficient_16 : decode cX9_hasCoefficient 16 = .ok (.iconst 1, 1) := by decide +kernel
theorem dX9_hasCoefficient_17 : decode cX9_hasCoefficient 17 = .ok (.ireturn, 1) := by decide +kernel
theorem dX9_hasCoefficient_18 : decode cX9_hasCoefficient 18 = .ok (.iinc 1 1, 3) := by decide +kernel
theorem dX9_hasCoefficient_21 : decode cX9_hasCoefficient 21 = .ok (.goto (-19), 3) := by decide +kernel
theorem dX9_hasCoefficient_24 : decode cX9_hasCoefficient 24 = .ok (.iconst 0, 1) := by decide +kernel
theorem dX9_hasCoefficient_25 : decode cX9_hasCoefficient 25 = .ok (.ireturn, 1) := by decide +kernel
theorem dX9_isGreat_0 : decode cX9_isGreat 0 = .ok (.iconst 0, 1) := by decide +kernel
theorem dX9_isGreat_1 : decode cX9_isGreat 1 = .ok (.istore_n 1, 1) := by decide +kernel
theorem dX9_isGreat_2 : decode cX9_isGreat 2 = .ok (.iload_n 1, 1) := by decide +kernel
theorem dX9_isGreat_3 : decode cX9_isGreat 3 = .ok (.bipush 13, 2) := by decide +kernel
theorem dX9_isGreat_5 : decode cX9_isGreat 5 = .ok (.if_icmp .ge 24, 3) := by decide +kernel
theorem dX9_isGreat_8 : decode cX9_isGreat 8 = .ok (.aload_n 0, 1) := by decide +kernel
theorem dX9_isGreat_9 : decode cX9_isGreat 9 = .ok (.iload_n 1, 1) := by decide +kernel
theorem dX9_isGreat_10 : decode cX9_isGreat 10 = .ok (.laload, 1) := by decide +kernel
theorem dX9_isGreat_11 : decode cX9_isGreat 11 = .ok (.invokestatic 200, 3) := by decide +kernel
theorem dX9_isGreat_14 : decode cX9_isGreat 14 = .ok (.ldc2_w 206, 3) := by decide +kernel
theorem dX9_isGreat_17 : decode cX9_isGreat 17 = .ok (.lcmp, 1) := by decide +kernel
theorem dX9_isGreat_18 : decode cX9_isGreat 18 = .ok (.ifCond .le 5, 3) := by decide +kernel
theorem dX9_isGreat_21 : decode cX9_isGreat 21 = .ok (.iconst 1, 1) := by decide +kernel
theorem dX9_isGreat_22 : decode cX9_isGreat 22 = .ok (.ireturn, 1) := by decide +kernel
theorem dX9_isGreat_23 : decode cX9_isGreat 23 = .ok (.iinc 1 1, 3) := by decide +kernel
theorem dX9_isGreat_26 : decode cX9_isGreat 26 = .ok (.goto (-24), 3) := by decide +kernel
theorem dX9_isGreat_29 : decode cX9_isGreat 29 = .ok (.iconst 0, 1) := by decide +kernel
theorem dX9_isGreat_30 : decode cX9_isGreat 30 = .ok (.ireturn, 1) := by decide +kernel
theorem dX9_item_0 : decode cX9_item 0 = .ok (.aload_n 0, 1) := by decide +kernel
theorem dX9_item_1 : decode cX9_item 1 = .ok (.dup, 1) := by decide +kernel
theorem dX9_item_2 : decode cX9_item 2 = .ok (.getfield 89, 3) := by decide +kernel
theorem dX9_item_5 : decode cX9_item 5 = .ok (.iconst 1, 1) := by decide +kernel
theorem dX9_item_6 : decode cX9_item 6 = .ok (.iadd, 1) := by decide +kernel
theorem dX9_item_7 : decode cX9_item 7 = .ok (.putfield 89, 3) := by decide +kernel
theorem dX9_item_10 : decode cX9_item 10 = .ok (.aload_n 0, 1) := by decide +kernel
theorem dX9_item_11 : decode cX9_item 11 = .ok (.getfield 14, 3) := by decide +kernel
theorem dX9_item_14 : decode cX9_item 14 = .ok (.aload_n 0, 1) := by decide +kernel
theorem dX9_item_15 : decode cX9_item 15 = .ok (.getfield 89, 3) := by decide +kernel
theorem dX9_item_18 : decode cX9_item 18 = .ok (.invokevirtual 95, 3) := by decide +kernel
theorem dX9_item_21 : decode cX9_item 21 = .ok (.iconst 3, 1) := by decide +kernel
theorem dX9_item_22 : decode cX9_item 22 = .ok (.if_icmp .ne 28, 3) := by decide +kernel
theorem dX9_item_25 : decode cX9_item 25 = .ok (.aload_n 0, 1) := by decide +kernel
theorem dX9_item_26 : decode cX9_item 26 = .ok (.dup, 1) := by decide +kernel
theorem dX9_item_27 : decode cX9_item 27 = .ok (.getfield 89, 3) := by decide +kernel
theorem dX9_item_30 : decode cX9_item 30 = .ok (.iconst 1, 1) := by decide +kernel
theorem dX9_item_31 : decode cX9_item 31 = .ok (.iadd, 1) := by decide +kernel
theorem dX9_item_32 : decode cX9_item 32 = .ok (.putfield 89, 3) := by decide +kernel
theorem dX9_item_35 : decode cX9_item 35 = .ok (.aload_n 0, 1) := by decide +kernel
theorem dX9_item_36 : decode cX9_item 36 = .ok (.getfield 14, 3) := by decide +kernel
theorem dX9_item_39 : decode cX9_item 39 = .ok (.aload_n 0, 1) := by decide +kernel
theorem dX9_item_40 : decode cX9_item 40 = .ok (.getfield 89, 3) := by decide +kernel
theorem dX9_item_43 : decode cX9_item 43 = .ok (.iconst 1, 1) := by decide +kernel
theorem dX9_item_44 : decode cX9_item 44 = .ok (.isub, 1) := by decide +kernel
theorem dX9_item_45 : decode cX9_item 45 = .ok (.invokevirtual 124, 3) := by decide +kernel
theorem dX9_item_48 : decode cX9_item 48 = .ok (.l2i, 1) := by decide +kernel
theorem dX9_item_49 : decode cX9_item 49 = .ok (.ireturn, 1) := by decide +kernel
theorem dX9_item_50 : decode cX9_item 50 = .ok (.aload_n 0, 1) := by decide +kernel
theorem dX9_item_51 : decode cX9_item 51 = .ok (.aload_n 0, 1) := by decide +kernel
theorem dX9_item_52 : decode cX9_item 52 = .ok (.getfield 14, 3) := by decide +kernel
theorem dX9_item_55 : decode cX9_item 55 = .ok (.aload_n 0, 1) := by decide +kernel
theorem dX9_item_56 : decode cX9_item 56 = .ok (.getfield 89, 3) := by decide +kernel
theorem dX9_item_59 : decode cX9_item 59 = .ok (.invokevirtual 124, 3) := by decide +kernel
theorem dX9_item_62 : decode cX9_item 62 = .ok (.invokevirtual 128, 3) := by decide +kernel
theorem dX9_item_65 : decode cX9_item 65 = .ok (.istore_n 1, 1) := by decide +kernel
theorem dX9_item_66 : decode cX9_item 66 = .ok (.iload_n 1, 1) := by decide +kernel
theorem dX9_item_67 : decode cX9_item 67 = .ok (.ifCond .lt 13, 3) := by decide +kernel
theorem dX9_item_70 : decode cX9_item 70 = .ok (.aload_n 0, 1) := by decide +kernel
theorem dX9_item_71 : decode cX9_item 71 = .ok (.iload_n 1, 1) := by decide +kernel
theorem dX9_item_72 : decode cX9_item 72 = .ok (.iconst 0, 1) := by decide +kernel
theorem dX9_item_73 : decode cX9_item 73 = .ok (.invokevirtual 120, 3) := by decide +kernel
theorem dX9_item_76 : decode cX9_item 76 = .ok (.iconst 2, 1) := by decide +kernel
theorem dX9_item_77 : decode cX9_item 77 = .ok (.if_icmp .eq 15, 3) := by decide +kernel
theorem dX9_item_80 : decode cX9_item 80 = .ok (.aload_n 0, 1) := by decide +kernel
theorem dX9_item_81 : decode cX9_item 81 = .ok (.iconst 2, 1) := by decide +kernel
theorem dX9_item_82 : decode cX9_item 82 = .ok (.aload_n 0, 1) := by decide +kernel
theorem dX9_item_83 : decode cX9_item 83 = .ok (.getfield 89, 3) := by decide +kernel
theorem dX9_item_86 : decode cX9_item 86 = .ok (.invokevirtual 132, 3) := by decide +kernel
theorem dX9_item_89 : decode cX9_item 89 = .ok (.pop, 1) := by decide +kernel
theorem dX9_item_90 : decode cX9_item 90 = .ok (.iconst 0, 1) := by decide +kernel
theorem dX9_item_91 : decode cX9_item 91 = .ok (.ireturn, 1) := by decide +kernel
theorem dX9_item_92 : decode cX9_item 92 = .ok (.aload_n 0, 1) := by decide +kernel
theorem dX9_item_93 : decode cX9_item 93 = .ok (.dup, 1) := by decide +kernel
theorem dX9_item_94 : decode cX9_item 94 = .ok (.getfield 89, 3) := by decide +kernel
theorem dX9_item_97 : decode cX9_item 97 = .ok (.iconst 1, 1) := by decide +kernel
theorem dX9_item_98 : decode cX9_item 98 = .ok (.iadd, 1) := by decide +kernel
theorem dX9_item_99 : decode cX9_item 99 = .ok (.putfield 89, 3) := by decide +kernel
theorem dX9_item_102 : decode cX9_item 102 = .ok (.aload_n 0, 1) := by decide +kernel
theorem dX9_item_103 : decode cX9_item 103 = .ok (.getfield 14, 3) := by decide +kernel
theorem dX9_item_106 : decode cX9_item 106 = .ok (.aload_n 0, 1) := by decide +kernel
theorem dX9_item_107 : decode cX9_item 107 = .ok (.getfield 89, 3) := by decide +kernel
theorem dX9_item_110 : decode cX9_item 110 = .ok (.invokevirtual 95, 3) := by decide +kernel
theorem dX9_item_113 : decode cX9_item 113 = .ok (.istore_n 2, 1) := by decide +kernel
theorem dX9_item_114 : decode cX9_item 114 = .ok (.iload_n 2, 1) := by decide +kernel
theorem dX9_item_115 : decode cX9_item 115 = .ok (.bipush 21, 2) := by decide +kernel
theorem dX9_item_117 : decode cX9_item 117 = .ok (.if_icmp .eq 16, 3) := by decide +kernel
theorem dX9_item_120 : decode cX9_item 120 = .ok (.iload_n 2, 1) := by decide +kernel
theorem dX9_item_121 : decode cX9_item 121 = .ok (.bipush 22, 2) := by decide +kernel
theorem dX9_item_123 : decode cX9_item 123 = .ok (.if_icmp .eq 10, 3) := by decide +kernel
theorem dX9_item_126 : decode cX9_item 126 = .ok (.aload_n 0, 1) := by decide +kernel
theorem dX9_item_127 : decode cX9_item 127 = .ok (.iload_n 1, 1) := by decide +kernel
theorem dX9_item_128 : decode cX9_item 128 = .ok (.iconst 1, 1) := by decide +kernel
theorem dX9_item_129 : decode cX9_item 129 = .ok (.invokevirtual 120, 3) := by decide +kernel
theorem dX9_item_132 : decode cX9_item 132 = .ok (.ireturn, 1) := by decide +kernel
theorem dX9_item_133 : decode cX9_item 133 = .ok (.aload_n 0, 1) := by decide +kernel
theorem dX9_item_134 : decode cX9_item 134 = .ok (.dup, 1) := by decide +kernel
theorem dX9_item_135 : decode cX9_item 135 = .ok (.getfield 89, 3) := by decide +kernel
theorem dX9_item_138 : decode cX9_item 138 = .ok (.iconst 2, 1) := by decide +kernel
theorem dX9_item_139 : decode cX9_item 139 = .ok (.iadd, 1) := by decide +kernel
theorem dX9_item_140 : decode cX9_item 140 = .ok (.putfield 89, 3) := by decide +kernel
theorem dX9_item_143 : decode cX9_item 143 = .ok (.aload_n 0, 1) := by decide +kernel
theorem dX9_item_144 : decode cX9_item 144 = .ok (.getfield 14, 3) := by decide +kernel
theorem dX9_item_147 : decode cX9_item 147 = .ok (.aload_n 0, 1) := by decide +kernel
theorem dX9_item_148 : decode cX9_item 148 = .ok (.getfield 89, 3) := by decide +kernel
theorem dX9_item_151 : decode cX9_item 151 = .ok (.iconst 1, 1) := by decide +kernel
theorem dX9_item_152 : decode cX9_item 152 = .ok (.isub, 1) := by decide +kernel
theorem dX9_item_153 : decode cX9_item 153 = .ok (.invokevirtual 124, 3) := by decide +kernel
theorem dX9_item_156 : decode cX9_item 156 = .ok (.l2i, 1) := by decide +kernel
theorem dX9_item_157 : decode cX9_item 157 = .ok (.istore_n 3, 1) := by decide +kernel
theorem dX9_item_158 : decode cX9_item 158 = .ok (.aload_n 0, 1) := by decide +kernel
theorem dX9_item_159 : decode cX9_item 159 = .ok (.iload_n 1, 1) := by decide +kernel
theorem dX9_item_160 : decode cX9_item 160 = .ok (.iconst 1, 1) := by decide +kernel
theorem dX9_item_161 : decode cX9_item 161 = .ok (.invokevirtual 120, 3) := by decide +kernel
theorem dX9_item_164 : decode cX9_item 164 = .ok (.iload_n 2, 1) := by decide +kernel
theorem dX9_item_165 : decode cX9_item 165 = .ok (.bipush 21, 2) := by decide +kernel
theorem dX9_item_167 : decode cX9_item 167 = .ok (.if_icmp .ne 7, 3) := by decide +kernel
theorem dX9_item_170 : decode cX9_item 170 = .ok (.iload_n 3, 1) := by decide +kernel
theorem dX9_item_171 : decode cX9_item 171 = .ok (.goto 5, 3) := by decide +kernel
theorem dX9_item_174 : decode cX9_item 174 = .ok (.iload_n 3, 1) := by decide +kernel
theorem dX9_item_175 : decode cX9_item 175 = .ok (.ineg, 1) := by decide +kernel
theorem dX9_item_176 : decode cX9_item 176 = .ok (.iadd, 1) := by decide +kernel
theorem dX9_item_177 : decode cX9_item 177 = .ok (.ireturn, 1) := by decide +kernel
theorem dX9_multiply_0 : decode cX9_multiply 0 = .ok (.aload_n 0, 1) := by decide +kernel
theorem dX9_multiply_1 : decode cX9_multiply 1 = .ok (.iconst 0, 1) := by decide +kernel
theorem dX9_multiply_2 : decode cX9_multiply 2 = .ok (.laload, 1) := by decide +kernel
theorem dX9_multiply_3 : decode cX9_multiply 3 = .ok (.lstore_n 2, 1) := by decide +kernel
theorem dX9_multiply_4 : decode cX9_multiply 4 = .ok (.aload_n 1, 1) := by decide +kernel
theorem dX9_multiply_5 : decode cX9_multiply 5 = .ok (.iconst 0, 1) := by decide +kernel
theorem dX9_multiply_6 : decode cX9_multiply 6 = .ok (.laload, 1) := by decide +kernel
theorem dX9_multiply_7 : decode cX9_multiply 7 = .ok (.lstore 4, 2) := by decide +kernel
theorem dX9_multiply_9 : decode cX9_multiply 9 = .ok (.aload_n 0, 1) := by decide +kernel
theorem dX9_multiply_10 : decode cX9_multiply 10 = .ok (.iconst 0, 1) := by decide +kernel
theorem dX9_multiply_11 : decode cX9_multiply 11 = .ok (.lload_n 2, 1) := by decide +kernel
theorem dX9_multiply_12 : decode cX9_multiply 12 = .ok (.lload 4, 2) := by decide +kernel
theorem dX9_multiply_14 : decode cX9_multiply 14 = .ok (.lmul, 1) := by decide +kernel
theorem dX9_multiply_15 : decode cX9_multiply 15 = .ok (.lastore, 1) := by decide +kernel
theorem dX9_multiply_16 : decode cX9_multiply 16 = .ok (.iconst 1, 1) := by decide +kernel
theorem dX9_multiply_17 : decode cX9_multiply 17 = .ok (.istore 6, 2) := by decide +kernel
theorem dX9_multiply_19 : decode cX9_multiply 19 = .ok (.iload 6, 2) := by decide +kernel
theorem dX9_multiply_21 : decode cX9_multiply 21 = .ok (.bipush 13, 2) := by decide +kernel
theorem dX9_multiply_23 : decode cX9_multiply 23 = .ok (.if_icmp .ge 27, 3) := by decide +kernel
theorem dX9_multiply_26 : decode cX9_multiply 26 = .ok (.aload_n 0, 1) := by decide +kernel
theorem dX9_multiply_27 : decode cX9_multiply 27 = .ok (.iload 6, 2) := by decide +kernel
theorem dX9_multiply_29 : decode cX9_multiply 29 = .ok (.aload_n 0, 1) := by decide +kernel
theorem dX9_multiply_30 : decode cX9_multiply 30 = .ok (.iload 6, 2) := by decide +kernel
theorem dX9_multiply_32 : decode cX9_multiply 32 = .ok (.laload, 1) := by decide +kernel
theorem dX9_multiply_33 : decode cX9_multiply 33 = .ok (.lload 4, 2) := by decide +kernel
theorem dX9_multiply_35 : decode cX9_multiply 35 = .ok (.lmul, 1) := by decide +kernel
theorem dX9_multiply_36 : decode cX9_multiply 36 = .ok (.lload_n 2, 1) := by decide +kernel
theorem dX9_multiply_37 : decode cX9_multiply 37 = .ok (.aload_n 1, 1) := by decide +kernel
theorem dX9_multiply_38 : decode cX9_multiply 38 = .ok (.iload 6, 2) := by decide +kernel
theorem dX9_multiply_40 : decode cX9_multiply 40 = .ok (.laload, 1) := by decide +kernel
theorem dX9_multiply_41 : decode cX9_multiply 41 = .ok (.lmul, 1) := by decide +kernel
theorem dX9_multiply_42 : decode cX9_multiply 42 = .ok (.ladd, 1) := by decide +kernel
theorem dX9_multiply_43 : decode cX9_multiply 43 = .ok (.lastore, 1) := by decide +kernel
theorem dX9_multiply_44 : decode cX9_multiply 44 = .ok (.iinc 6 1, 3) := by decide +kernel
theorem dX9_multiply_47 : decode cX9_multiply 47 = .ok (.goto (-28), 3) := by decide +kernel
theorem dX9_multiply_50 : decode cX9_multiply 50 = .ok (.return_, 1) := by decide +kernel
theorem dX9_named_0 : decode cX9_named 0 = .ok (.aload_n 0, 1) := by decide +kernel
theorem dX9_named_1 : decode cX9_named 1 = .ok (.getfield 89, 3) := by decide +kernel
theorem dX9_named_4 : decode cX9_named 4 = .ok (.istore_n 3, 1) := by decide +kernel
theorem dX9_named_5 : decode cX9_named 5 = .ok (.aload_n 0, 1) := by decide +kernel
theorem dX9_named_6 : decode cX9_named 6 = .ok (.dup, 1) := by decide +kernel
theorem dX9_named_7 : decode cX9_named 7 = .ok (.getfield 89, 3) := by decide +kernel
theorem dX9_named_10 : decode cX9_named 10 = .ok (.iconst 1, 1) := by decide +kernel
theorem dX9_named_11 : decode cX9_named 11 = .ok (.iadd, 1) := by decide +kernel
theorem dX9_named_12 : decode cX9_named 12 = .ok (.putfield 89, 3) := by decide +kernel
theorem dX9_named_15 : decode cX9_named 15 = .ok (.aload_n 0, 1) := by decide +kernel
theorem dX9_named_16 : decode cX9_named 16 = .ok (.iload_n 2, 1) := by decide +kernel
theorem dX9_named_17 : decode cX9_named 17 = .ok (.iconst 2, 1) := by decide +kernel
theorem dX9_named_18 : decode cX9_named 18 = .ok (.invokevirtual 146, 3) := by decide +kernel
theorem dX9_named_21 : decode cX9_named 21 = .ok (.ifCond .eq 20, 3) := by decide +kernel
theorem dX9_named_24 : decode cX9_named 24 = .ok (.aload_n 0, 1) := by decide +kernel
theorem dX9_named_25 : decode cX9_named 25 = .ok (.getfield 37, 3) := by decide +kernel
theorem dX9_named_28 : decode cX9_named 28 = .ok (.iload_n 1, 1) := by decide +kernel
theorem dX9_named_29 : decode cX9_named 29 = .ok (.aaload, 1) := by decide +kernel
theorem dX9_named_30 : decode cX9_named 30 = .ok (.iconst 0, 1) := by decide +kernel
theorem dX9_named_31 : decode cX9_named 31 = .ok (.aload_n 0, 1) := by decide +kernel
theorem dX9_named_32 : decode cX9_named 32 = .ok (.iload_n 2, 1) := by decide +kernel
theorem dX9_named_33 : decode cX9_named 33 = .ok (.iconst 1, 1) := by decide +kernel
theorem dX9_named_34 : decode cX9_named 34 = .ok (.invokevirtual 120, 3) := by decide +kernel
theorem dX9_named_37 : decode cX9_named 37 = .ok (.i2l, 1) := by decide +kernel
theorem dX9_named_38 : decode cX9_named 38 = .ok (.lastore, 1) := by decide +kernel
theorem dX9_named_39 : decode cX9_named 39 = .ok (.iconst 1, 1) := by decide +kernel
theorem dX9_named_40 : decode cX9_named 40 = .ok (.ireturn, 1) := by decide +kernel
theorem dX9_named_41 : decode cX9_named 41 = .ok (.iconst 0, 1) := by decide +kernel
theorem dX9_named_42 : decode cX9_named 42 = .ok (.istore 4, 2) := by decide +kernel
theorem dX9_named_44 : decode cX9_named 44 = .ok (.iconst 0, 1) := by decide +kernel
theorem dX9_named_45 : decode cX9_named 45 = .ok (.istore 5, 2) := by decide +kernel
theorem dX9_named_47 : decode cX9_named 47 = .ok (.iconst 1, 1) := by decide +kernel
theorem dX9_named_48 : decode cX9_named 48 = .ok (.istore 6, 2) := by decide +kernel
theorem dX9_named_50 : decode cX9_named 50 = .ok (.aload_n 0, 1) := by decide +kernel
theorem dX9_named_51 : decode cX9_named 51 = .ok (.getfield 14, 3) := by decide +kernel
theorem dX9_named_54 : decode cX9_named 54 = .ok (.aload_n 0, 1) := by decide +kernel
theorem dX9_named_55 : decode cX9_named 55 = .ok (.getfield 89, 3) := by decide +kernel
theorem dX9_named_58 : decode cX9_named 58 = .ok (.invokevirtual 95, 3) := by decide +kernel
theorem dX9_named_61 : decode cX9_named 61 = .ok (.bipush 17, 2) := by decide +kernel
theorem dX9_named_63 : decode cX9_named 63 = .ok (.if_icmp .ne 7, 3) := by decide +kernel
theorem dX9_named_66 : decode cX9_named 66 = .ok (.iconst 1, 1) := by decide +kernel
theorem dX9_named_67 : decode cX9_named 67 = .ok (.goto 4, 3) := by decide +kernel
theorem dX9_named_70 : decode cX9_named 70 = .ok (.iconst 0, 1) := by decide +kernel
theorem dX9_named_71 : decode cX9_named 71 = .ok (.istore 7, 2) := by decide +kernel
theorem dX9_named_73 : decode cX9_named 73 = .ok (.iconst 3, 1) := by decide +kernel
theorem dX9_named_74 : decode cX9_named 74 = .ok (.istore 8, 2) := by decide +kernel
theorem dX9_named_76 : decode cX9_named 76 = .ok (.iload 8, 2) := by decide +kernel
theorem dX9_named_78 : decode cX9_named 78 = .ok (.iconst 4, 1) := by decide +kernel
theorem dX9_named_79 : decode cX9_named 79 = .ok (.if_icmp .gt 142, 3) := by decide +kernel
theorem dX9_named_82 : decode cX9_named 82 = .ok (.iload 7, 2) := by decide +kernel
theorem dX9_named_84 : decode cX9_named 84 = .ok (.ifCond .eq 137, 3) := by decide +kernel
theorem dX9_named_87 : decode cX9_named 87 = .ok (.aload_n 0, 1) := by decide +kernel
theorem dX9_named_88 : decode cX9_named 88 = .ok (.invokevirtual 242, 3) := by decide +kernel
theorem dX9_named_91 : decode cX9_named 91 = .ok (.istore 9, 2) := by decide +kernel
theorem dX9_named_93 : decode cX9_named 93 = .ok (.aload_n 0, 1) := by decide +kernel
theorem dX9_named_94 : decode cX9_named 94 = .ok (.getfield 54, 3) := by decide +kernel
theorem dX9_named_97 : decode cX9_named 97 = .ok (.ifCond .eq 5, 3) := by decide +kernel
theorem dX9_named_100 : decode cX9_named 100 = .ok (.iconst 0, 1) := by decide +kernel
theorem dX9_named_101 : decode cX9_named 101 = .ok (.ireturn, 1) := by decide +kernel
theorem dX9_named_102 : decode cX9_named 102 = .ok (.iinc 4 1, 3) := by decide +kernel
theorem dX9_named_105 : decode cX9_named 105 = .ok (.aload_n 0, 1) := by decide +kernel
theorem dX9_named_106 : decode cX9_named 106 = .ok (.iload_n 2, 1) := by decide +kernel
theorem dX9_named_107 : decode cX9_named 107 = .ok (.iload 8, 2) := by decide +kernel
theorem dX9_named_109 : decode cX9_named 109 = .ok (.invokevirtual 120, 3) := by decide +kernel
theorem dX9_named_112 : decode cX9_named 112 = .ok (.istore 10, 2) := by decide +kernel
theorem dX9_named_114 : decode cX9_named 114 = .ok (.iload 10, 2) := by decide +kernel
theorem dX9_named_116 : decode cX9_named 116 = .ok (.ifCond .lt 61, 3) := by decide +kernel
theorem dX9_named_119 : decode cX9_named 119 = .ok (.iload 6, 2) := by decide +kernel
theorem dX9_named_121 : decode cX9_named 121 = .ok (.ifCond .eq 31, 3) := by decide +kernel
theorem dX9_named_124 : decode cX9_named 124 = .ok (.iload 9, 2) := by decide +kernel
theorem dX9_named_126 : decode cX9_named 126 = .ok (.aload_n 0, 1) := by decide +kernel
theorem dX9_named_127 : decode cX9_named 127 = .ok (.iload 10, 2) := by decide +kernel
theorem dX9_named_129 : decode cX9_named 129 = .ok (.iconst 1, 1) := by decide +kernel
theorem dX9_named_130 : decode cX9_named 130 = .ok (.invokevirtual 120, 3) := by decide +kernel
theorem dX9_named_133 : decode cX9_named 133 = .ok (.if_icmp .lt 19, 3) := by decide +kernel
theorem dX9_named_136 : decode cX9_named 136 = .ok (.iload 9, 2) := by decide +kernel
theorem dX9_named_138 : decode cX9_named 138 = .ok (.aload_n 0, 1) := by decide +kernel
theorem dX9_named_139 : decode cX9_named 139 = .ok (.iload 10, 2) := by decide +kernel
theorem dX9_named_141 : decode cX9_named 141 = .ok (.iconst 2, 1) := by decide +kernel
theorem dX9_named_142 : decode cX9_named 142 = .ok (.invokevirtual 120, 3) := by decide +kernel
theorem dX9_named_145 : decode cX9_named 145 = .ok (.if_icmp .gt 7, 3) := by decide +kernel
theorem dX9_named_148 : decode cX9_named 148 = .ok (.iconst 1, 1) := by decide +kernel
theorem dX9_named_149 : decode cX9_named 149 = .ok (.goto 4, 3) := by decide +kernel
theorem dX9_named_152 : decode cX9_named 152 = .ok (.iconst 0, 1) := by decide +kernel
theorem dX9_named_153 : decode cX9_named 153 = .ok (.istore 6, 2) := by decide +kernel
theorem dX9_named_155 : decode cX9_named 155 = .ok (.iload 5, 2) := by decide +kernel
theorem dX9_named_157 : decode cX9_named 157 = .ok (.aload_n 0, 1) := by decide +kernel
theorem dX9_named_158 : decode cX9_named 158 = .ok (.iload 10, 2) := by decide +kernel
theorem dX9_named_160 : decode cX9_named 160 = .ok (.invokevirtual 149, 3) := by decide +kernel
theorem dX9_named_163 : decode cX9_named 163 = .ok (.imul, 1) := by decide +kernel
theorem dX9_named_164 : decode cX9_named 164 = .ok (.iload 9, 2) := by decide +kernel
theorem dX9_named_166 : decode cX9_named 166 = .ok (.iadd, 1) := by decide +kernel
theorem dX9_named_167 : decode cX9_named 167 = .ok (.aload_n 0, 1) := by decide +kernel
theorem dX9_named_168 : decode cX9_named 168 = .ok (.iload 10, 2) := by decide +kernel
theorem dX9_named_170 : decode cX9_named 170 = .ok (.iconst 1, 1) := by decide +kernel
theorem dX9_named_171 : decode cX9_named 171 = .ok (.invokevirtual 120, 3) := by decide +kernel
theorem dX9_named_174 : decode cX9_named 174 = .ok (.isub, 1) := by decide +kernel
theorem dX9_named_175 : decode cX9_named 175 = .ok (.istore 5, 2) := by decide +kernel
theorem dX9_named_177 : decode cX9_named 177 = .ok (.aload_n 0, 1) := by decide +kernel
theorem dX9_named_178 : decode cX9_named 178 = .ok (.getfield 14, 3) := by decide +kernel
theorem dX9_named_181 : decode cX9_named 181 = .ok (.aload_n 0, 1) := by decide +kernel
theorem dX9_named_182 : decode cX9_named 182 = .ok (.getfield 89, 3) := by decide +kernel
theorem dX9_named_185 : decode cX9_named 185 = .ok (.invokevirtual 95, 3) := by decide +kernel
theorem dX9_named_188 : decode cX9_named 188 = .ok (.bipush 16, 2) := by decide +kernel
theorem dX9_named_190 : decode cX9_named 190 = .ok (.if_icmp .ne 7, 3) := by decide +kernel
theorem dX9_named_193 : decode cX9_named 193 = .ok (.iconst 1, 1) := by decide +kernel
theorem dX9_named_194 : decode cX9_named 194 = .ok (.goto 4, 3) := by decide +kernel
theorem dX9_named_197 : decode cX9_named 197 = .ok (.iconst 0, 1) := by decide +kernel
theorem dX9_named_198 : decode cX9_named 198 = .ok (.istore 7, 2) := by decide +kernel
theorem dX9_named_200 : decode cX9_named 200 = .ok (.iload 7, 2) := by decide +kernel
theorem dX9_named_202 : decode cX9_named 202 = .ok (.ifCond .ne 13, 3) := by decide +kernel
theorem dX9_named_205 : decode cX9_named 205 = .ok (.aload_n 0, 1) := by decide +kernel
theorem dX9_named_206 : decode cX9_named 206 = .ok (.dup, 1) := by decide +kernel
theorem dX9_named_207 : decode cX9_named 207 = .ok (.getfield 89, 3) := by decide +kernel
theorem dX9_named_210 : decode cX9_named 210 = .ok (.iconst 1, 1) := by decide +kernel
theorem dX9_named_211 : decode cX9_named 211 = .ok (.iadd, 1) := by decide +kernel
theorem dX9_named_212 : decode cX9_named 212 = .ok (.putfield 89, 3) := by decide +kernel
theorem dX9_named_215 : decode cX9_named 215 = .ok (.iinc 8 1, 3) := by decide +kernel
theorem dX9_named_218 : decode cX9_named 218 = .ok (.goto (-142), 3) := by decide +kernel
theorem dX9_named_221 : decode cX9_named 221 = .ok (.aload_n 0, 1) := by decide +kernel
theorem dX9_named_222 : decode cX9_named 222 = .ok (.iload_n 2, 1) := by decide +kernel
theorem dX9_named_223 : decode cX9_named 223 = .ok (.iconst 3, 1) := by decide +kernel
theorem dX9_named_224 : decode cX9_named 224 = .ok (.invokevirtual 120, 3) := by decide +kernel
theorem dX9_named_227 : decode cX9_named 227 = .ok (.ifCond .ge 7, 3) := by decide +kernel
theorem dX9_named_230 : decode cX9_named 230 = .ok (.iconst 0, 1) := by decide +kernel
theorem dX9_named_231 : decode cX9_named 231 = .ok (.goto 17, 3) := by decide +kernel
theorem dX9_named_234 : decode cX9_named 234 = .ok (.aload_n 0, 1) := by decide +kernel
theorem dX9_named_235 : decode cX9_named 235 = .ok (.iload_n 2, 1) := by decide +kernel
theorem dX9_named_236 : decode cX9_named 236 = .ok (.iconst 4, 1) := by decide +kernel
theorem dX9_named_237 : decode cX9_named 237 = .ok (.invokevirtual 120, 3) := by decide +kernel
theorem dX9_named_240 : decode cX9_named 240 = .ok (.ifCond .ge 7, 3) := by decide +kernel
theorem dX9_named_243 : decode cX9_named 243 = .ok (.iconst 1, 1) := by decide +kernel
theorem dX9_named_244 : decode cX9_named 244 = .ok (.goto 4, 3) := by decide +kernel
theorem dX9_named_247 : decode cX9_named 247 = .ok (.iconst 2, 1) := by decide +kernel
theorem dX9_named_248 : decode cX9_named 248 = .ok (.istore 8, 2) := by decide +kernel
theorem dX9_named_250 : decode cX9_named 250 = .ok (.iload 4, 2) := by decide +kernel
theorem dX9_named_252 : decode cX9_named 252 = .ok (.iload 8, 2) := by decide +kernel
theorem dX9_named_254 : decode cX9_named 254 = .ok (.if_icmp .eq 10, 3) := by decide +kernel
theorem dX9_named_257 : decode cX9_named 257 = .ok (.aload_n 0, 1) := by decide +kernel
theorem dX9_named_258 : decode cX9_named 258 = .ok (.iconst 2, 1) := by decide +kernel
theorem dX9_named_259 : decode cX9_named 259 = .ok (.iload_n 3, 1) := by decide +kernel
theorem dX9_named_260 : decode cX9_named 260 = .ok (.invokevirtual 132, 3) := by decide +kernel
theorem dX9_named_263 : decode cX9_named 263 = .ok (.ireturn, 1) := by decide +kernel
theorem dX9_named_264 : decode cX9_named 264 = .ok (.iload 6, 2) := by decide +kernel
theorem dX9_named_266 : decode cX9_named 266 = .ok (.ifCond .ne 10, 3) := by decide +kernel
theorem dX9_named_269 : decode cX9_named 269 = .ok (.aload_n 0, 1) := by decide +kernel
theorem dX9_named_270 : decode cX9_named 270 = .ok (.iconst 5, 1) := by decide +kernel
theorem dX9_named_271 : decode cX9_named 271 = .ok (.iload_n 3, 1) := by decide +kernel
theorem dX9_named_272 : decode cX9_named 272 = .ok (.invokevirtual 132, 3) := by decide +kernel
theorem dX9_named_275 : decode cX9_named 275 = .ok (.ireturn, 1) := by decide +kernel
theorem dX9_named_276 : decode cX9_named 276 = .ok (.aload_n 0, 1) := by decide +kernel
theorem dX9_named_277 : decode cX9_named 277 = .ok (.aload_n 0, 1) := by decide +kernel
theorem dX9_named_278 : decode cX9_named 278 = .ok (.getfield 37, 3) := by decide +kernel
theorem dX9_named_281 : decode cX9_named 281 = .ok (.iload_n 1, 1) := by decide +kernel
theorem dX9_named_282 : decode cX9_named 282 = .ok (.aaload, 1) := by decide +kernel
theorem dX9_named_283 : decode cX9_named 283 = .ok (.iload_n 2, 1) := by decide +kernel
theorem dX9_named_284 : decode cX9_named 284 = .ok (.aload_n 0, 1) := by decide +kernel
theorem dX9_named_285 : decode cX9_named 285 = .ok (.iload_n 2, 1) := by decide +kernel
theorem dX9_named_286 : decode cX9_named 286 = .ok (.iconst 5, 1) := by decide +kernel
theorem dX9_named_287 : decode cX9_named 287 = .ok (.invokevirtual 120, 3) := by decide +kernel
theorem dX9_named_290 : decode cX9_named 290 = .ok (.iload 5, 2) := by decide +kernel
theorem dX9_named_292 : decode cX9_named 292 = .ok (.iadd, 1) := by decide +kernel
theorem dX9_named_293 : decode cX9_named 293 = .ok (.invokevirtual 245, 3) := by decide +kernel
theorem dX9_named_296 : decode cX9_named 296 = .ok (.iconst 1, 1) := by decide +kernel
theorem dX9_named_297 : decode cX9_named 297 = .ok (.ireturn, 1) := by decide +kernel
theorem dX9_putNamed_0 : decode cX9_putNamed 0 = .ok (.aload_n 0, 1) := by decide +kernel
theorem dX9_putNamed_1 : decode cX9_putNamed 1 = .ok (.iload_n 2, 1) := by decide +kernel
theorem dX9_putNamed_2 : decode cX9_putNamed 2 = .ok (.iconst 0, 1) := by decide +kernel
theorem dX9_putNamed_3 : decode cX9_putNamed 3 = .ok (.invokevirtual 120, 3) := by decide +kernel
theorem dX9_putNamed_6 : decode cX9_putNamed 6 = .ok (.bipush 7, 2) := by decide +kernel
theorem dX9_putNamed_8 : decode cX9_putNamed 8 = .ok (.if_icmp .ne 33, 3) := by decide +kernel
theorem dX9_putNamed_11 : decode cX9_putNamed 11 = .ok (.aload_n 1, 1) := by decide +kernel
theorem dX9_putNamed_12 : decode cX9_putNamed 12 = .ok (.iconst 0, 1) := by decide +kernel
theorem dX9_putNamed_13 : decode cX9_putNamed 13 = .ok (.iload_n 3, 1) := by decide +kernel
theorem dX9_putNamed_14 : decode cX9_putNamed 14 = .ok (.ifCond .lt 22, 3) := by decide +kernel
theorem dX9_putNamed_17 : decode cX9_putNamed 17 = .ok (.iload_n 3, 1) := by decide +kernel
theorem dX9_putNamed_18 : decode cX9_putNamed 18 = .ok (.aload_n 0, 1) := by decide +kernel
theorem dX9_putNamed_19 : decode cX9_putNamed 19 = .ok (.getfield 26, 3) := by decide +kernel
theorem dX9_putNamed_22 : decode cX9_putNamed 22 = .ok (.arraylength, 1) := by decide +kernel
theorem dX9_putNamed_23 : decode cX9_putNamed 23 = .ok (.if_icmp .ge 13, 3) := by decide +kernel
theorem dX9_putNamed_26 : decode cX9_putNamed 26 = .ok (.aload_n 0, 1) := by decide +kernel
theorem dX9_putNamed_27 : decode cX9_putNamed 27 = .ok (.getfield 26, 3) := by decide +kernel
theorem dX9_putNamed_30 : decode cX9_putNamed 30 = .ok (.iload_n 3, 1) := by decide +kernel
theorem dX9_putNamed_31 : decode cX9_putNamed 31 = .ok (.iaload, 1) := by decide +kernel
theorem dX9_putNamed_32 : decode cX9_putNamed 32 = .ok (.i2l, 1) := by decide +kernel
theorem dX9_putNamed_33 : decode cX9_putNamed 33 = .ok (.goto 4, 3) := by decide +kernel
theorem dX9_putNamed_36 : decode cX9_putNamed 36 = .ok (.lconst 0, 1) := by decide +kernel
theorem dX9_putNamed_37 : decode cX9_putNamed 37 = .ok (.lastore, 1) := by decide +kernel
theorem dX9_putNamed_38 : decode cX9_putNamed 38 = .ok (.goto 18, 3) := by decide +kernel
theorem dX9_putNamed_41 : decode cX9_putNamed 41 = .ok (.iload_n 3, 1) := by decide +kernel
theorem dX9_putNamed_42 : decode cX9_putNamed 42 = .ok (.iconst 1, 1) := by decide +kernel
theorem dX9_putNamed_43 : decode cX9_putNamed 43 = .ok (.if_icmp .lt 13, 3) := by decide +kernel
theorem dX9_putNamed_46 : decode cX9_putNamed 46 = .ok (.iload_n 3, 1) := by decide +kernel
theorem dX9_putNamed_47 : decode cX9_putNamed 47 = .ok (.bipush 13, 2) := by decide +kernel
theorem dX9_putNamed_49 : decode cX9_putNamed 49 = .ok (.if_icmp .ge 7, 3) := by decide +kernel
theorem dX9_putNamed_52 : decode cX9_putNamed 52 = .ok (.aload_n 1, 1) := by decide +kernel
theorem dX9_putNamed_53 : decode cX9_putNamed 53 = .ok (.iload_n 3, 1) := by decide +kernel
theorem dX9_putNamed_54 : decode cX9_putNamed 54 = .ok (.lconst 1, 1) := by decide +kernel
theorem dX9_putNamed_55 : decode cX9_putNamed 55 = .ok (.lastore, 1) := by decide +kernel
theorem dX9_putNamed_56 : decode cX9_putNamed 56 = .ok (.return_, 1) := by decide +kernel
theorem dX9_tellVar_0 : decode cX9_tellVar 0 = .ok (.aload_n 0, 1) := by decide +kernel
theorem dX9_tellVar_1 : decode cX9_tellVar 1 = .ok (.getfield 89, 3) := by decide +kernel
theorem dX9_tellVar_4 : decode cX9_tellVar 4 = .ok (.iconst 1, 1) := by decide +kernel
theorem dX9_tellVar_5 : decode cX9_tellVar 5 = .ok (.iadd, 1) := by decide +kernel
theorem dX9_tellVar_6 : decode cX9_tellVar 6 = .ok (.istore_n 1, 1) := by decide +kernel
theorem dX9_tellVar_7 : decode cX9_tellVar 7 = .ok (.aload_n 0, 1) := by decide +kernel
theorem dX9_tellVar_8 : decode cX9_tellVar 8 = .ok (.iload_n 1, 1) := by decide +kernel
theorem dX9_tellVar_9 : decode cX9_tellVar 9 = .ok (.bipush 8, 2) := by decide +kernel
theorem dX9_tellVar_11 : decode cX9_tellVar 11 = .ok (.invokevirtual 140, 3) := by decide +kernel
theorem dX9_tellVar_14 : decode cX9_tellVar 14 = .ok (.istore_n 2, 1) := by decide +kernel
theorem dX9_tellVar_15 : decode cX9_tellVar 15 = .ok (.iload_n 2, 1) := by decide +kernel
theorem dX9_tellVar_16 : decode cX9_tellVar 16 = .ok (.ifCond .ge 5, 3) := by decide +kernel
theorem dX9_tellVar_19 : decode cX9_tellVar 19 = .ok (.iconst 0, 1) := by decide +kernel
theorem dX9_tellVar_20 : decode cX9_tellVar 20 = .ok (.ireturn, 1) := by decide +kernel
theorem dX9_tellVar_21 : decode cX9_tellVar 21 = .ok (.aload_n 0, 1) := by decide +kernel
theorem dX9_tellVar_22 : decode cX9_tellVar 22 = .ok (.dup, 1) := by decide +kernel
theorem dX9_tellVar_23 : decode cX9_tellVar 23 = .ok (.getfield 89, 3) := by decide +kernel
theorem dX9_tellVar_26 : decode cX9_tellVar 26 = .ok (.iconst 2, 1) := by decide +kernel
theorem dX9_tellVar_27 : decode cX9_tellVar 27 = .ok (.iadd, 1) := by decide +kernel
theorem dX9_tellVar_28 : decode cX9_tellVar 28 = .ok (.putfield 89, 3) := by decide +kernel
theorem dX9_tellVar_31 : decode cX9_tellVar 31 = .ok (.aload_n 0, 1) := by decide +kernel
theorem dX9_tellVar_32 : decode cX9_tellVar 32 = .ok (.iload_n 2, 1) := by decide +kernel
theorem dX9_tellVar_33 : decode cX9_tellVar 33 = .ok (.invokevirtual 152, 3) := by decide +kernel
theorem dX9_tellVar_36 : decode cX9_tellVar 36 = .ok (.ifCond .ne 5, 3) := by decide +kernel
theorem dX9_tellVar_39 : decode cX9_tellVar 39 = .ok (.iconst 0, 1) := by decide +kernel
theorem dX9_tellVar_40 : decode cX9_tellVar 40 = .ok (.ireturn, 1) := by decide +kernel
theorem dX9_tellVar_41 : decode cX9_tellVar 41 = .ok (.aload_n 0, 1) := by decide +kernel
theorem dX9_tellVar_42 : decode cX9_tellVar 42 = .ok (.iload_n 2, 1) := by decide +kernel
theorem dX9_tellVar_43 : decode cX9_tellVar 43 = .ok (.invokevirtual 156, 3) := by decide +kernel
theorem dX9_tellVar_46 : decode cX9_tellVar 46 = .ok (.istore_n 3, 1) := by decide +kernel
theorem dX9_tellVar_47 : decode cX9_tellVar 47 = .ok (.aload_n 0, 1) := by decide +kernel
theorem dX9_tellVar_48 : decode cX9_tellVar 48 = .ok (.getfield 46, 3) := by decide +kernel
theorem dX9_tellVar_51 : decode cX9_tellVar 51 = .ok (.getfield 159, 3) := by decide +kernel
theorem dX9_tellVar_54 : decode cX9_tellVar 54 = .ok (.iload_n 3, 1) := by decide +kernel
theorem dX9_tellVar_55 : decode cX9_tellVar 55 = .ok (.iadd, 1) := by decide +kernel
theorem dX9_tellVar_56 : decode cX9_tellVar 56 = .ok (.bipush 12, 2) := by decide +kernel
theorem dX9_tellVar_58 : decode cX9_tellVar 58 = .ok (.if_icmp .le 11, 3) := by decide +kernel
theorem dX9_tellVar_61 : decode cX9_tellVar 61 = .ok (.aload_n 0, 1) := by decide +kernel
theorem dX9_tellVar_62 : decode cX9_tellVar 62 = .ok (.bipush 7, 2) := by decide +kernel
theorem dX9_tellVar_64 : decode cX9_tellVar 64 = .ok (.iload_n 1, 1) := by decide +kernel
theorem dX9_tellVar_65 : decode cX9_tellVar 65 = .ok (.invokevirtual 132, 3) := by decide +kernel
theorem dX9_tellVar_68 : decode cX9_tellVar 68 = .ok (.ireturn, 1) := by decide +kernel
theorem dX9_tellVar_69 : decode cX9_tellVar 69 = .ok (.aload_n 0, 1) := by decide +kernel
theorem dX9_tellVar_70 : decode cX9_tellVar 70 = .ok (.getfield 14, 3) := by decide +kernel
theorem dX9_tellVar_73 : decode cX9_tellVar 73 = .ok (.aload_n 0, 1) := by decide +kernel
theorem dX9_tellVar_74 : decode cX9_tellVar 74 = .ok (.getfield 89, 3) := by decide +kernel
theorem dX9_tellVar_77 : decode cX9_tellVar 77 = .ok (.invokevirtual 95, 3) := by decide +kernel
theorem dX9_tellVar_80 : decode cX9_tellVar 80 = .ok (.bipush 9, 2) := by decide +kernel
theorem dX9_tellVar_82 : decode cX9_tellVar 82 = .ok (.if_icmp .ne 7, 3) := by decide +kernel
theorem dX9_tellVar_85 : decode cX9_tellVar 85 = .ok (.iconst 1, 1) := by decide +kernel
theorem dX9_tellVar_86 : decode cX9_tellVar 86 = .ok (.goto 4, 3) := by decide +kernel
theorem dX9_tellVar_89 : decode cX9_tellVar 89 = .ok (.iconst 0, 1) := by decide +kernel
theorem dX9_tellVar_90 : decode cX9_tellVar 90 = .ok (.istore 4, 2) := by decide +kernel
theorem dX9_tellVar_92 : decode cX9_tellVar 92 = .ok (.aload_n 0, 1) := by decide +kernel
theorem dX9_tellVar_93 : decode cX9_tellVar 93 = .ok (.iload_n 2, 1) := by decide +kernel
theorem dX9_tellVar_94 : decode cX9_tellVar 94 = .ok (.iconst 5, 1) := by decide +kernel
theorem dX9_tellVar_95 : decode cX9_tellVar 95 = .ok (.aload_n 0, 1) := by decide +kernel
theorem dX9_tellVar_96 : decode cX9_tellVar 96 = .ok (.getfield 46, 3) := by decide +kernel
theorem dX9_tellVar_99 : decode cX9_tellVar 99 = .ok (.getfield 159, 3) := by decide +kernel
theorem dX9_tellVar_102 : decode cX9_tellVar 102 = .ok (.iconst 1, 1) := by decide +kernel
theorem dX9_tellVar_103 : decode cX9_tellVar 103 = .ok (.iadd, 1) := by decide +kernel
theorem dX9_tellVar_104 : decode cX9_tellVar 104 = .ok (.invokevirtual 136, 3) := by decide +kernel
theorem dX9_tellVar_107 : decode cX9_tellVar 107 = .ok (.aload_n 0, 1) := by decide +kernel
theorem dX9_tellVar_108 : decode cX9_tellVar 108 = .ok (.getfield 46, 3) := by decide +kernel
theorem dX9_tellVar_111 : decode cX9_tellVar 111 = .ok (.iload_n 3, 1) := by decide +kernel
theorem dX9_tellVar_112 : decode cX9_tellVar 112 = .ok (.iload 4, 2) := by decide +kernel
theorem dX9_tellVar_114 : decode cX9_tellVar 114 = .ok (.invokevirtual 162, 3) := by decide +kernel
theorem dX9_tellVar_117 : decode cX9_tellVar 117 = .ok (.aload_n 0, 1) := by decide +kernel
theorem dX9_tellVar_118 : decode cX9_tellVar 118 = .ok (.dup, 1) := by decide +kernel
theorem dX9_tellVar_119 : decode cX9_tellVar 119 = .ok (.getfield 89, 3) := by decide +kernel
theorem dX9_tellVar_122 : decode cX9_tellVar 122 = .ok (.iload 4, 2) := by decide +kernel
theorem dX9_tellVar_124 : decode cX9_tellVar 124 = .ok (.ifCond .eq 7, 3) := by decide +kernel
theorem dX9_tellVar_127 : decode cX9_tellVar 127 = .ok (.iconst 2, 1) := by decide +kernel
theorem dX9_tellVar_128 : decode cX9_tellVar 128 = .ok (.goto 4, 3) := by decide +kernel
theorem dX9_tellVar_131 : decode cX9_tellVar 131 = .ok (.iconst 1, 1) := by decide +kernel
theorem dX9_tellVar_132 : decode cX9_tellVar 132 = .ok (.iadd, 1) := by decide +kernel
theorem dX9_tellVar_133 : decode cX9_tellVar 133 = .ok (.putfield 89, 3) := by decide +kernel
theorem dX9_tellVar_136 : decode cX9_tellVar 136 = .ok (.iconst 1, 1) := by decide +kernel
theorem dX9_tellVar_137 : decode cX9_tellVar 137 = .ok (.ireturn, 1) := by decide +kernel
theorem w_35 : Cond.selects RX9 yX9_item yX9_item ∈ tb := sel_3 (q := (yX9_item, 17)) 3 (by decide +kernel)
theorem w_36 : Cond.selects RX9 yX9_putNamed yX9_putNamed ∈ tb := sel_3 (q := (yX9_putNamed, 17)) 4 (by decide +kernel)
theorem w_269 : Cond.fieldLinkNest RX9 159 (TX3 2).1 (TX3 2).2.1 (TX3 2).2.2.1 "OptimumHouse" ∈ nst := nsc_1 66 (by decide +kernel) rfl
theorem w_335 : Cond.fieldLink RX9 37 (TX9 6).1 (TX9 6).2.1 (TX9 6).2.2.1 ∈ tb := tbc_1 132 (by decide +kernel) rfl
theorem w_337 : Cond.fieldLink RX9 46 (TX9 8).1 (TX9 8).2.1 (TX9 8).2.2.1 ∈ tb := tbc_1 134 (by decide +kernel) rfl
theorem w_1018 : Cond.methodLink RX9 162 yX3_addVariables ∈ tb := tbc_4 95 (by decide +kernel) rfl
theorem w_1019 : Cond.instanceMethod yX3_addVariables ∈ tb := tbc_4 96 (by decide +kernel) rfl
theorem w_1020 : Cond.selects RX3 yX3_addVariables yX3_addVariables ∈ tb := tbc_4 97 (by decide +kernel) rfl
theorem w_1021 : Cond.code yX3_addVariables cX3_addVariables 4 none ∈ tb := tbc_4 98 (by decide +kernel) rfl
theorem w_1053 : Cond.methodLink RX9 242 yX9_item ∈ tb := tbc_4 130 (by decide +kernel) rfl
theorem w_1055 : Cond.instanceMethod yX9_item ∈ tb := tbc_4 132 (by decide +kernel) rfl
theorem w_1056 : Cond.code yX9_item cX9_item 4 (some .int) ∈ tb := tbc_4 133 (by decide +kernel) rfl
theorem w_1057 : Cond.methodLink RX9 245 yX9_putNamed ∈ tb := tbc_4 134 (by decide +kernel) rfl
theorem w_1059 : Cond.instanceMethod yX9_putNamed ∈ tb := tbc_4 136 (by decide +kernel) rfl
theorem w_1060 : Cond.code yX9_putNamed cX9_putNamed 4 none ∈ tb := tbc_4 137 (by decide +kernel) rfl
theorem w_1079 : Cond.methodLink RX9 200 Lib.MathLoose.abs_long.x ∈ tb := tbc_4 156 (by decide +kernel) rfl
theorem w_1082 : Cond.constantLong RX9 206 (jv 99999) ∈ tb := tbc_4 159 (by decide +kernel) rfl
section RW39
variable {p : Program} {l : Launch} {e : Env} {R : Room} {s : State} {m : MethodId} {args : Array Value} {below : List Frame} {meth : Method} {c : Code} {H : Heap} {locs : List Loc} {cells slots : Nat} {Q : State → Prop}
variable {cc : ByteArray} {pc nL : Nat} {ls : Array Slot} {rest st0 : List Value} {G : sG} {n : Nat} {S : sS}
theorem g_X9_46 (Cx : sC G p m c cc nL s args RX9) (hW : sW G n S H) {k : Nat} (hk : k < n) (ht : tau k = .inl 9) {v : Value} (hv : S.2.2.2 k 8 = v) (hdg : decode cc pc = .ok (.getfield 46, 3)) (kk : W p l e R s m args below meth c H locs cells slots Q (F0 m (pc + 3) ls (v :: rest))) : W p l e R s m args below meth c H locs cells slots Q (F0 m pc ls (.ref (G.2.2.1 + k) :: rest)) :=
  sGet Cx inX9 rfl 8 (by decide) w_337 hW hk ht hv hdg kk
theorem g_X9_159 (Cx : sC G p m c cc nL s args RX9) (hW : sW G n S H) {k : Nat} (hk : k < n) (ht : tau k = .inl 3) {v : Int} (hv : S.1 k 2 = v) (hdg : decode cc pc = .ok (.getfield 159, 3)) (kk : W p l e R s m args below meth c H locs cells slots Q (F0 m (pc + 3) ls (.int (iv v) :: rest))) : W p l e R s m args below meth c H locs cells slots Q (F0 m pc ls (.ref (G.2.2.1 + k) :: rest)) :=
  sGetN Cx inX3 rfl 2 (by decide) w_269 hW hk ht (congrArg (fun z => Value.int (iv z)) hv) hdg kk
theorem c_X9_162 (Cx : sC G p m c cc nL s args RX9) {rm : Room} {mc ms : Nat} (h1 : rm.cells = mc) (h2 : rm.slots = ms) (h3 : rm.frames + 1 ≤ R.frames ∧ 8 + (4 + 11) + rm.locals ≤ R.locals) : CallW R s args RX9 RX3 162 yX3_addVariables cX3_addVariables 4 none (.code yX3_addVariables cX3_addVariables 4 none :: tb) rm mc ms 2 :=
  sCw Cx 2 w_1018 w_1019 w_1020 w_207 w_1021 (by decide +kernel) h1 h2 h3
theorem g_X9_37 (Cx : sC G p m c cc nL s args RX9) (hW : sW G n S H) {k : Nat} (hk : k < n) (ht : tau k = .inl 9) {v : Value} (hv : S.2.2.2 k 6 = v) (hdg : decode cc pc = .ok (.getfield 37, 3)) (kk : W p l e R s m args below meth c H locs cells slots Q (F0 m (pc + 3) ls (v :: rest))) : W p l e R s m args below meth c H locs cells slots Q (F0 m pc ls (.ref (G.2.2.1 + k) :: rest)) :=
  sGet Cx inX9 rfl 6 (by decide) w_335 hW hk ht hv hdg kk
theorem c_X9_245 (Cx : sC G p m c cc nL s args RX9) {rm : Room} {mc ms : Nat} (h1 : rm.cells = mc) (h2 : rm.slots = ms) (h3 : rm.frames + 1 ≤ R.frames ∧ 8 + (4 + 11) + rm.locals ≤ R.locals) : CallW R s args RX9 RX9 245 yX9_putNamed cX9_putNamed 4 none (.code yX9_putNamed cX9_putNamed 4 none :: tb) rm mc ms 3 :=
  sCw Cx 3 w_1057 w_1059 w_36 w_208 w_1060 (by decide +kernel) h1 h2 h3
theorem c_X9_242 (Cx : sC G p m c cc nL s args RX9) {rm : Room} {mc ms : Nat} (h1 : rm.cells = mc) (h2 : rm.slots = ms) (h3 : rm.frames + 1 ≤ R.frames ∧ 8 + (4 + 11) + rm.locals ≤ R.locals) : CallW R s args RX9 RX9 242 yX9_item cX9_item 4 (some .int) (.code yX9_item cX9_item 4 (some .int) :: tb) rm mc ms 0 :=
  sCw Cx 0 w_1053 w_1055 w_35 w_208 w_1056 (by decide +kernel) h1 h2 h3
theorem g_X9_54 (Cx : sC G p m c cc nL s args RX9) (hW : sW G n S H) {k : Nat} (hk : k < n) (ht : tau k = .inl 9) {v : Int} (hv : S.1 k 14 = v) (hdg : decode cc pc = .ok (.getfield 54, 3)) (kk : W p l e R s m args below meth c H locs cells slots Q (F0 m (pc + 3) ls (.int (iv v) :: rest))) : W p l e R s m args below meth c H locs cells slots Q (F0 m pc ls (.ref (G.2.2.1 + k) :: rest)) :=
  sGet Cx inX9 rfl 14 (by decide) w_343 hW hk ht (congrArg (fun z => Value.int (iv z)) hv) hdg kk
end RW39
