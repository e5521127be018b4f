theorem dX12_coefficient_0 : decode cX12_coefficient 0 = .ok (.aload_n 0, 1) := by decide +kernel
theorem dX12_coefficient_1 : decode cX12_coefficient 1 = .ok (.getfield 462, 3) := by decide +kernel
theorem dX12_coefficient_4 : decode cX12_coefficient 4 = .ok (.ifCond .eq 27, 3) := by decide +kernel
theorem dX12_coefficient_7 : decode cX12_coefficient 7 = .ok (.iload_n 2, 1) := by decide +kernel
theorem dX12_coefficient_8 : decode cX12_coefficient 8 = .ok (.ifCond .lt 23, 3) := by decide +kernel
theorem dX12_coefficient_11 : decode cX12_coefficient 11 = .ok (.iload_n 2, 1) := by decide +kernel
theorem dX12_coefficient_12 : decode cX12_coefficient 12 = .ok (.aload_n 0, 1) := by decide +kernel
theorem dX12_coefficient_13 : decode cX12_coefficient 13 = .ok (.getfield 465, 3) := by decide +kernel
theorem dX12_coefficient_16 : decode cX12_coefficient 16 = .ok (.if_icmp .gt 15, 3) := by decide +kernel
theorem dX12_coefficient_19 : decode cX12_coefficient 19 = .ok (.iload_n 1, 1) := by decide +kernel
theorem dX12_coefficient_20 : decode cX12_coefficient 20 = .ok (.ifCond .lt 11, 3) := by decide +kernel
theorem dX12_coefficient_23 : decode cX12_coefficient 23 = .ok (.iload_n 1, 1) := by decide +kernel
theorem dX12_coefficient_24 : decode cX12_coefficient 24 = .ok (.aload_n 0, 1) := by decide +kernel
theorem dX12_coefficient_25 : decode cX12_coefficient 25 = .ok (.getfield 480, 3) := by decide +kernel
theorem dX12_coefficient_28 : decode cX12_coefficient 28 = .ok (.if_icmp .le 5, 3) := by decide +kernel
theorem dX12_coefficient_31 : decode cX12_coefficient 31 = .ok (.lconst 0, 1) := by decide +kernel
theorem dX12_coefficient_32 : decode cX12_coefficient 32 = .ok (.lreturn, 1) := by decide +kernel
theorem dX12_coefficient_33 : decode cX12_coefficient 33 = .ok (.iload_n 1, 1) := by decide +kernel
theorem dX12_coefficient_34 : decode cX12_coefficient 34 = .ok (.ifCond .ne 12, 3) := by decide +kernel
theorem dX12_coefficient_37 : decode cX12_coefficient 37 = .ok (.aload_n 0, 1) := by decide +kernel
theorem dX12_coefficient_38 : decode cX12_coefficient 38 = .ok (.getfield 97, 3) := by decide +kernel
theorem dX12_coefficient_41 : decode cX12_coefficient 41 = .ok (.iload_n 2, 1) := by decide +kernel
theorem dX12_coefficient_42 : decode cX12_coefficient 42 = .ok (.laload, 1) := by decide +kernel
theorem dX12_coefficient_43 : decode cX12_coefficient 43 = .ok (.goto 16, 3) := by decide +kernel
theorem dX12_coefficient_46 : decode cX12_coefficient 46 = .ok (.aload_n 0, 1) := by decide +kernel
theorem dX12_coefficient_47 : decode cX12_coefficient 47 = .ok (.aload_n 0, 1) := by decide +kernel
theorem dX12_coefficient_48 : decode cX12_coefficient 48 = .ok (.getfield 100, 3) := by decide +kernel
theorem dX12_coefficient_51 : decode cX12_coefficient 51 = .ok (.iload_n 1, 1) := by decide +kernel
theorem dX12_coefficient_52 : decode cX12_coefficient 52 = .ok (.iload_n 2, 1) := by decide +kernel
theorem dX12_coefficient_53 : decode cX12_coefficient 53 = .ok (.invokestatic 486, 3) := by decide +kernel
theorem dX12_coefficient_56 : decode cX12_coefficient 56 = .ok (.invokevirtual 489, 3) := by decide +kernel
theorem dX12_coefficient_59 : decode cX12_coefficient 59 = .ok (.lreturn, 1) := by decide +kernel
theorem dX12_entry_0 : decode cX12_entry 0 = .ok (.aload_n 0, 1) := by decide +kernel
theorem dX12_entry_1 : decode cX12_entry 1 = .ok (.getfield 477, 3) := by decide +kernel
theorem dX12_entry_4 : decode cX12_entry 4 = .ok (.ifCond .eq 51, 3) := by decide +kernel
theorem dX12_entry_7 : decode cX12_entry 7 = .ok (.iload_n 1, 1) := by decide +kernel
theorem dX12_entry_8 : decode cX12_entry 8 = .ok (.bipush (-2), 2) := by decide +kernel
theorem dX12_entry_10 : decode cX12_entry 10 = .ok (.if_icmp .lt 45, 3) := by decide +kernel
theorem dX12_entry_13 : decode cX12_entry 13 = .ok (.iload_n 1, 1) := by decide +kernel
theorem dX12_entry_14 : decode cX12_entry 14 = .ok (.aload_n 0, 1) := by decide +kernel
theorem dX12_entry_15 : decode cX12_entry 15 = .ok (.getfield 483, 3) := by decide +kernel
theorem dX12_entry_18 : decode cX12_entry 18 = .ok (.if_icmp .gt 37, 3) := by decide +kernel
theorem dX12_entry_21 : decode cX12_entry 21 = .ok (.iload_n 2, 1) := by decide +kernel
theorem dX12_entry_22 : decode cX12_entry 22 = .ok (.ifCond .lt 33, 3) := by decide +kernel
theorem dX12_entry_25 : decode cX12_entry 25 = .ok (.iload_n 2, 1) := by decide +kernel
theorem dX12_entry_26 : decode cX12_entry 26 = .ok (.aload_n 0, 1) := by decide +kernel
theorem dX12_entry_27 : decode cX12_entry 27 = .ok (.getfield 526, 3) := by decide +kernel
theorem dX12_entry_30 : decode cX12_entry 30 = .ok (.if_icmp .gt 25, 3) := by decide +kernel
theorem dX12_entry_33 : decode cX12_entry 33 = .ok (.iload_n 1, 1) := by decide +kernel
theorem dX12_entry_34 : decode cX12_entry 34 = .ok (.iconst (-1), 1) := by decide +kernel
theorem dX12_entry_35 : decode cX12_entry 35 = .ok (.if_icmp .ne 10, 3) := by decide +kernel
theorem dX12_entry_38 : decode cX12_entry 38 = .ok (.aload_n 0, 1) := by decide +kernel
theorem dX12_entry_39 : decode cX12_entry 39 = .ok (.getfield 535, 3) := by decide +kernel
theorem dX12_entry_42 : decode cX12_entry 42 = .ok (.ifCond .eq 13, 3) := by decide +kernel
theorem dX12_entry_45 : decode cX12_entry 45 = .ok (.iload_n 1, 1) := by decide +kernel
theorem dX12_entry_46 : decode cX12_entry 46 = .ok (.bipush (-2), 2) := by decide +kernel
theorem dX12_entry_48 : decode cX12_entry 48 = .ok (.if_icmp .ne 9, 3) := by decide +kernel
theorem dX12_entry_51 : decode cX12_entry 51 = .ok (.iload_n 2, 1) := by decide +kernel
theorem dX12_entry_52 : decode cX12_entry 52 = .ok (.ifCond .eq 5, 3) := by decide +kernel
theorem dX12_entry_55 : decode cX12_entry 55 = .ok (.iconst (-1), 1) := by decide +kernel
theorem dX12_entry_56 : decode cX12_entry 56 = .ok (.ireturn, 1) := by decide +kernel
theorem dX12_entry_57 : decode cX12_entry 57 = .ok (.aload_n 0, 1) := by decide +kernel
theorem dX12_entry_58 : decode cX12_entry 58 = .ok (.iconst 0, 1) := by decide +kernel
theorem dX12_entry_59 : decode cX12_entry 59 = .ok (.putfield 259, 3) := by decide +kernel
theorem dX12_entry_62 : decode cX12_entry 62 = .ok (.iload_n 1, 1) := by decide +kernel
theorem dX12_entry_63 : decode cX12_entry 63 = .ok (.bipush (-2), 2) := by decide +kernel
theorem dX12_entry_65 : decode cX12_entry 65 = .ok (.if_icmp .ne 15, 3) := by decide +kernel
theorem dX12_entry_68 : decode cX12_entry 68 = .ok (.aload_n 0, 1) := by decide +kernel
theorem dX12_entry_69 : decode cX12_entry 69 = .ok (.aload_n 0, 1) := by decide +kernel
theorem dX12_entry_70 : decode cX12_entry 70 = .ok (.getfield 109, 3) := by decide +kernel
theorem dX12_entry_73 : decode cX12_entry 73 = .ok (.iconst 0, 1) := by decide +kernel
theorem dX12_entry_74 : decode cX12_entry 74 = .ok (.invokevirtual 594, 3) := by decide +kernel
theorem dX12_entry_77 : decode cX12_entry 77 = .ok (.goto 36, 3) := by decide +kernel
theorem dX12_entry_80 : decode cX12_entry 80 = .ok (.aload_n 0, 1) := by decide +kernel
theorem dX12_entry_81 : decode cX12_entry 81 = .ok (.aload_n 0, 1) := by decide +kernel
theorem dX12_entry_82 : decode cX12_entry 82 = .ok (.getfield 103, 3) := by decide +kernel
theorem dX12_entry_85 : decode cX12_entry 85 = .ok (.aload_n 0, 1) := by decide +kernel
theorem dX12_entry_86 : decode cX12_entry 86 = .ok (.iload_n 1, 1) := by decide +kernel
theorem dX12_entry_87 : decode cX12_entry 87 = .ok (.ifCond .ne 7, 3) := by decide +kernel
theorem dX12_entry_90 : decode cX12_entry 90 = .ok (.iconst 0, 1) := by decide +kernel
theorem dX12_entry_91 : decode cX12_entry 91 = .ok (.goto 15, 3) := by decide +kernel
theorem dX12_entry_94 : decode cX12_entry 94 = .ok (.iload_n 1, 1) := by decide +kernel
theorem dX12_entry_95 : decode cX12_entry 95 = .ok (.iconst (-1), 1) := by decide +kernel
theorem dX12_entry_96 : decode cX12_entry 96 = .ok (.if_icmp .ne 7, 3) := by decide +kernel
theorem dX12_entry_99 : decode cX12_entry 99 = .ok (.iconst 1, 1) := by decide +kernel
theorem dX12_entry_100 : decode cX12_entry 100 = .ok (.goto 6, 3) := by decide +kernel
theorem dX12_entry_103 : decode cX12_entry 103 = .ok (.iload_n 1, 1) := by decide +kernel
theorem dX12_entry_104 : decode cX12_entry 104 = .ok (.iconst 1, 1) := by decide +kernel
theorem dX12_entry_105 : decode cX12_entry 105 = .ok (.iadd, 1) := by decide +kernel
theorem dX12_entry_106 : decode cX12_entry 106 = .ok (.iload_n 2, 1) := by decide +kernel
theorem dX12_entry_107 : decode cX12_entry 107 = .ok (.invokevirtual 529, 3) := by decide +kernel
theorem dX12_entry_110 : decode cX12_entry 110 = .ok (.invokevirtual 594, 3) := by decide +kernel
theorem dX12_entry_113 : decode cX12_entry 113 = .ok (.aload_n 0, 1) := by decide +kernel
theorem dX12_entry_114 : decode cX12_entry 114 = .ok (.iload_n 3, 1) := by decide +kernel
theorem dX12_entry_115 : decode cX12_entry 115 = .ok (.invokevirtual 686, 3) := by decide +kernel
theorem dX12_entry_118 : decode cX12_entry 118 = .ok (.ireturn, 1) := by decide +kernel
theorem dX12_fault_0 : decode cX12_fault 0 = .ok (.iload_n 1, 1) := by decide +kernel
theorem dX12_fault_1 : decode cX12_fault 1 = .ok (.ifCond .ne 10, 3) := by decide +kernel
theorem dX12_fault_4 : decode cX12_fault 4 = .ok (.aload_n 0, 1) := by decide +kernel
theorem dX12_fault_5 : decode cX12_fault 5 = .ok (.getfield 447, 3) := by decide +kernel
theorem dX12_fault_8 : decode cX12_fault 8 = .ok (.goto 23, 3) := by decide +kernel
theorem dX12_fault_11 : decode cX12_fault 11 = .ok (.iload_n 1, 1) := by decide +kernel
theorem dX12_fault_12 : decode cX12_fault 12 = .ok (.iconst 1, 1) := by decide +kernel
theorem dX12_fault_13 : decode cX12_fault 13 = .ok (.if_icmp .ne 17, 3) := by decide +kernel
theorem dX12_fault_16 : decode cX12_fault 16 = .ok (.aload_n 0, 1) := by decide +kernel
theorem dX12_fault_17 : decode cX12_fault 17 = .ok (.getfield 447, 3) := by decide +kernel
theorem dX12_fault_20 : decode cX12_fault 20 = .ok (.ifCond .le 10, 3) := by decide +kernel
theorem dX12_fault_23 : decode cX12_fault 23 = .ok (.aload_n 0, 1) := by decide +kernel
theorem dX12_fault_24 : decode cX12_fault 24 = .ok (.getfield 450, 3) := by decide +kernel
theorem dX12_fault_27 : decode cX12_fault 27 = .ok (.goto 4, 3) := by decide +kernel
theorem dX12_fault_30 : decode cX12_fault 30 = .ok (.iconst (-1), 1) := by decide +kernel
theorem dX12_fault_31 : decode cX12_fault 31 = .ok (.ireturn, 1) := by decide +kernel
theorem dX12_letterAt_0 : decode cX12_letterAt 0 = .ok (.iload_n 1, 1) := by decide +kernel
theorem dX12_letterAt_1 : decode cX12_letterAt 1 = .ok (.ifCond .lt 20, 3) := by decide +kernel
theorem dX12_letterAt_4 : decode cX12_letterAt 4 = .ok (.iload_n 1, 1) := by decide +kernel
theorem dX12_letterAt_5 : decode cX12_letterAt 5 = .ok (.aload_n 0, 1) := by decide +kernel
theorem dX12_letterAt_6 : decode cX12_letterAt 6 = .ok (.getfield 259, 3) := by decide +kernel
theorem dX12_letterAt_9 : decode cX12_letterAt 9 = .ok (.if_icmp .ge 12, 3) := by decide +kernel
theorem dX12_letterAt_12 : decode cX12_letterAt 12 = .ok (.aload_n 0, 1) := by decide +kernel
theorem dX12_letterAt_13 : decode cX12_letterAt 13 = .ok (.getfield 23, 3) := by decide +kernel
theorem dX12_letterAt_16 : decode cX12_letterAt 16 = .ok (.iload_n 1, 1) := by decide +kernel
theorem dX12_letterAt_17 : decode cX12_letterAt 17 = .ok (.baload, 1) := by decide +kernel
theorem dX12_letterAt_18 : decode cX12_letterAt 18 = .ok (.goto 4, 3) := by decide +kernel
theorem dX12_letterAt_21 : decode cX12_letterAt 21 = .ok (.iconst (-1), 1) := by decide +kernel
theorem dX12_letterAt_22 : decode cX12_letterAt 22 = .ok (.ireturn, 1) := by decide +kernel
theorem dX12_look_0 : decode cX12_look 0 = .ok (.aload_n 0, 1) := by decide +kernel
theorem dX12_look_1 : decode cX12_look 1 = .ok (.getfield 477, 3) := by decide +kernel
theorem dX12_look_4 : decode cX12_look 4 = .ok (.ifCond .le 7, 3) := by decide +kernel
theorem dX12_look_7 : decode cX12_look 7 = .ok (.iconst 1, 1) := by decide +kernel
theorem dX12_look_8 : decode cX12_look 8 = .ok (.goto 4, 3) := by decide +kernel
theorem dX12_look_11 : decode cX12_look 11 = .ok (.iconst 0, 1) := by decide +kernel
theorem dX12_look_12 : decode cX12_look 12 = .ok (.istore_n 2, 1) := by decide +kernel
theorem dX12_look_13 : decode cX12_look 13 = .ok (.iload_n 1, 1) := by decide +kernel
theorem dX12_look_14 : decode cX12_look 14 = .ok (.tableswitch 206 0 9 #[54, 59, 72, 85, 98, 111, 124, 142, 176, 201], 54) := by decide +kernel
theorem dX12_look_68 : decode cX12_look 68 = .ok (.aload_n 0, 1) := by decide +kernel
theorem dX12_look_69 : decode cX12_look 69 = .ok (.getfield 477, 3) := by decide +kernel
theorem dX12_look_72 : decode cX12_look 72 = .ok (.ireturn, 1) := by decide +kernel
theorem dX12_look_73 : decode cX12_look 73 = .ok (.iload_n 2, 1) := by decide +kernel
theorem dX12_look_74 : decode cX12_look 74 = .ok (.ifCond .eq 10, 3) := by decide +kernel
theorem dX12_look_77 : decode cX12_look 77 = .ok (.aload_n 0, 1) := by decide +kernel
theorem dX12_look_78 : decode cX12_look 78 = .ok (.getfield 496, 3) := by decide +kernel
theorem dX12_look_81 : decode cX12_look 81 = .ok (.goto 4, 3) := by decide +kernel
theorem dX12_look_84 : decode cX12_look 84 = .ok (.iconst 0, 1) := by decide +kernel
theorem dX12_look_85 : decode cX12_look 85 = .ok (.ireturn, 1) := by decide +kernel
theorem dX12_look_86 : decode cX12_look 86 = .ok (.iload_n 2, 1) := by decide +kernel
theorem dX12_look_87 : decode cX12_look 87 = .ok (.ifCond .eq 10, 3) := by decide +kernel
theorem dX12_look_90 : decode cX12_look 90 = .ok (.aload_n 0, 1) := by decide +kernel
theorem dX12_look_91 : decode cX12_look 91 = .ok (.getfield 499, 3) := by decide +kernel
theorem dX12_look_94 : decode cX12_look 94 = .ok (.goto 4, 3) := by decide +kernel
theorem dX12_look_97 : decode cX12_look 97 = .ok (.iconst 0, 1) := by decide +kernel
theorem dX12_look_98 : decode cX12_look 98 = .ok (.ireturn, 1) := by decide +kernel
theorem dX12_look_99 : decode cX12_look 99 = .ok (.iload_n 2, 1) := by decide +kernel
theorem dX12_look_100 : decode cX12_look 100 = .ok (.ifCond .eq 10, 3) := by decide +kernel
theorem dX12_look_103 : decode cX12_look 103 = .ok (.aload_n 0, 1) := by decide +kernel
theorem dX12_look_104 : decode cX12_look 104 = .ok (.getfield 502, 3) := by decide +kernel
theorem dX12_look_107 : decode cX12_look 107 = .ok (.goto 4, 3) := by decide +kernel
theorem dX12_look_110 : decode cX12_look 110 = .ok (.iconst 0, 1) := by decide +kernel
theorem dX12_look_111 : decode cX12_look 111 = .ok (.ireturn, 1) := by decide +kernel
theorem dX12_look_112 : decode cX12_look 112 = .ok (.iload_n 2, 1) := by decide +kernel
theorem dX12_look_113 : decode cX12_look 113 = .ok (.ifCond .eq 10, 3) := by decide +kernel
theorem dX12_look_116 : decode cX12_look 116 = .ok (.aload_n 0, 1) := by decide +kernel
theorem dX12_look_117 : decode cX12_look 117 = .ok (.getfield 505, 3) := by decide +kernel
theorem dX12_look_120 : decode cX12_look 120 = .ok (.goto 4, 3) := by decide +kernel
theorem dX12_look_123 : decode cX12_look 123 = .ok (.iconst 0, 1) := by decide +kernel
theorem dX12_look_124 : decode cX12_look 124 = .ok (.ireturn, 1) := by decide +kernel
theorem dX12_look_125 : decode cX12_look 125 = .ok (.iload_n 2, 1) := by decide +kernel
theorem dX12_look_126 : decode cX12_look 126 = .ok (.ifCond .eq 10, 3) := by decide +kernel
theorem dX12_look_129 : decode cX12_look 129 = .ok (.aload_n 0, 1) := by decide +kernel
theorem dX12_look_130 : decode cX12_look 130 = .ok (.getfield 480, 3) := by decide +kernel
theorem dX12_look_133 : decode cX12_look 133 = .ok (.goto 4, 3) := by decide +kernel
theorem dX12_look_136 : decode cX12_look 136 = .ok (.iconst 0, 1) := by decide +kernel
theorem dX12_look_137 : decode cX12_look 137 = .ok (.ireturn, 1) := by decide +kernel
theorem dX12_look_138 : decode cX12_look 138 = .ok (.iload_n 2, 1) := by decide +kernel
theorem dX12_look_139 : decode cX12_look 139 = .ok (.ifCond .eq 15, 3) := by decide +kernel
theorem dX12_look_142 : decode cX12_look 142 = .ok (.aload_n 0, 1) := by decide +kernel
theorem dX12_look_143 : decode cX12_look 143 = .ok (.getfield 480, 3) := by decide +kernel
theorem dX12_look_146 : decode cX12_look 146 = .ok (.aload_n 0, 1) := by decide +kernel
theorem dX12_look_147 : decode cX12_look 147 = .ok (.getfield 468, 3) := by decide +kernel
theorem dX12_look_150 : decode cX12_look 150 = .ok (.isub, 1) := by decide +kernel
theorem dX12_look_151 : decode cX12_look 151 = .ok (.goto 4, 3) := by decide +kernel
theorem dX12_look_154 : decode cX12_look 154 = .ok (.iconst 0, 1) := by decide +kernel
theorem dX12_look_155 : decode cX12_look 155 = .ok (.ireturn, 1) := by decide +kernel
theorem dX12_look_156 : decode cX12_look 156 = .ok (.iload_n 2, 1) := by decide +kernel
theorem dX12_look_157 : decode cX12_look 157 = .ok (.ifCond .ne 7, 3) := by decide +kernel
theorem dX12_look_160 : decode cX12_look 160 = .ok (.iconst 0, 1) := by decide +kernel
theorem dX12_look_161 : decode cX12_look 161 = .ok (.goto 28, 3) := by decide +kernel
theorem dX12_look_164 : decode cX12_look 164 = .ok (.aload_n 0, 1) := by decide +kernel
theorem dX12_look_165 : decode cX12_look 165 = .ok (.getfield 532, 3) := by decide +kernel
theorem dX12_look_168 : decode cX12_look 168 = .ok (.iconst 3, 1) := by decide +kernel
theorem dX12_look_169 : decode cX12_look 169 = .ok (.if_icmp .ne 7, 3) := by decide +kernel
theorem dX12_look_172 : decode cX12_look 172 = .ok (.iconst 2, 1) := by decide +kernel
theorem dX12_look_173 : decode cX12_look 173 = .ok (.goto 16, 3) := by decide +kernel
theorem dX12_look_176 : decode cX12_look 176 = .ok (.aload_n 0, 1) := by decide +kernel
theorem dX12_look_177 : decode cX12_look 177 = .ok (.getfield 532, 3) := by decide +kernel
theorem dX12_look_180 : decode cX12_look 180 = .ok (.iconst 4, 1) := by decide +kernel
theorem dX12_look_181 : decode cX12_look 181 = .ok (.if_icmp .ne 7, 3) := by decide +kernel
theorem dX12_look_184 : decode cX12_look 184 = .ok (.iconst 3, 1) := by decide +kernel
theorem dX12_look_185 : decode cX12_look 185 = .ok (.goto 4, 3) := by decide +kernel
theorem dX12_look_188 : decode cX12_look 188 = .ok (.iconst 1, 1) := by decide +kernel
theorem dX12_look_189 : decode cX12_look 189 = .ok (.ireturn, 1) := by decide +kernel
theorem dX12_look_190 : decode cX12_look 190 = .ok (.aload_n 0, 1) := by decide +kernel
theorem dX12_look_191 : decode cX12_look 191 = .ok (.getfield 477, 3) := by decide +kernel
theorem dX12_look_194 : decode cX12_look 194 = .ok (.iconst 2, 1) := by decide +kernel
theorem dX12_look_195 : decode cX12_look 195 = .ok (.if_icmp .lt 18, 3) := by decide +kernel
theorem dX12_look_198 : decode cX12_look 198 = .ok (.aload_n 0, 1) := by decide +kernel
theorem dX12_look_199 : decode cX12_look 199 = .ok (.getfield 477, 3) := by decide +kernel
theorem dX12_look_202 : decode cX12_look 202 = .ok (.iconst 4, 1) := by decide +kernel
theorem dX12_look_203 : decode cX12_look 203 = .ok (.if_icmp .gt 10, 3) := by decide +kernel
theorem dX12_look_206 : decode cX12_look 206 = .ok (.aload_n 0, 1) := by decide +kernel
theorem dX12_look_207 : decode cX12_look 207 = .ok (.getfield 523, 3) := by decide +kernel
theorem dX12_look_210 : decode cX12_look 210 = .ok (.goto 4, 3) := by decide +kernel
theorem dX12_look_213 : decode cX12_look 213 = .ok (.iconst 0, 1) := by decide +kernel
theorem dX12_look_214 : decode cX12_look 214 = .ok (.ireturn, 1) := by decide +kernel
theorem dX12_look_215 : decode cX12_look 215 = .ok (.aload_n 0, 1) := by decide +kernel
theorem dX12_look_216 : decode cX12_look 216 = .ok (.getfield 202, 3) := by decide +kernel
theorem dX12_look_219 : decode cX12_look 219 = .ok (.ireturn, 1) := by decide +kernel
theorem dX12_look_220 : decode cX12_look 220 = .ok (.iconst (-1), 1) := by decide +kernel
theorem dX12_look_221 : decode cX12_look 221 = .ok (.ireturn, 1) := by decide +kernel
theorem dX12_place_0 : decode cX12_place 0 = .ok (.aload_n 0, 1) := by decide +kernel
theorem dX12_place_1 : decode cX12_place 1 = .ok (.getfield 477, 3) := by decide +kernel
theorem dX12_place_4 : decode cX12_place 4 = .ok (.ifCond .ne 5, 3) := by decide +kernel
theorem dX12_place_7 : decode cX12_place 7 = .ok (.iconst (-1), 1) := by decide +kernel
theorem dX12_place_8 : decode cX12_place 8 = .ok (.ireturn, 1) := by decide +kernel
theorem dX12_place_9 : decode cX12_place 9 = .ok (.iload_n 1, 1) := by decide +kernel
theorem dX12_place_10 : decode cX12_place 10 = .ok (.ifCond .le 22, 3) := by decide +kernel
theorem dX12_place_13 : decode cX12_place 13 = .ok (.iload_n 1, 1) := by decide +kernel
theorem dX12_place_14 : decode cX12_place 14 = .ok (.aload_n 0, 1) := by decide +kernel
theorem dX12_place_15 : decode cX12_place 15 = .ok (.getfield 483, 3) := by decide +kernel
theorem dX12_place_18 : decode cX12_place 18 = .ok (.if_icmp .gt 12, 3) := by decide +kernel
theorem dX12_place_21 : decode cX12_place 21 = .ok (.aload_n 0, 1) := by decide +kernel
theorem dX12_place_22 : decode cX12_place 22 = .ok (.getfield 112, 3) := by decide +kernel
theorem dX12_place_25 : decode cX12_place 25 = .ok (.iload_n 1, 1) := by decide +kernel
theorem dX12_place_26 : decode cX12_place 26 = .ok (.iaload, 1) := by decide +kernel
theorem dX12_place_27 : decode cX12_place 27 = .ok (.goto 4, 3) := by decide +kernel
theorem dX12_place_30 : decode cX12_place 30 = .ok (.iconst (-1), 1) := by decide +kernel
theorem dX12_place_31 : decode cX12_place 31 = .ok (.ireturn, 1) := by decide +kernel
theorem dX12_place_32 : decode cX12_place 32 = .ok (.iload_n 1, 1) := by decide +kernel
theorem dX12_place_33 : decode cX12_place 33 = .ok (.ifCond .ge 22, 3) := by decide +kernel
theorem dX12_place_36 : decode cX12_place 36 = .ok (.iload_n 1, 1) := by decide +kernel
theorem dX12_place_37 : decode cX12_place 37 = .ok (.aload_n 0, 1) := by decide +kernel
theorem dX12_place_38 : decode cX12_place 38 = .ok (.getfield 526, 3) := by decide +kernel
theorem dX12_place_41 : decode cX12_place 41 = .ok (.ineg, 1) := by decide +kernel
theorem dX12_place_42 : decode cX12_place 42 = .ok (.if_icmp .lt 13, 3) := by decide +kernel
theorem dX12_place_45 : decode cX12_place 45 = .ok (.aload_n 0, 1) := by decide +kernel
theorem dX12_place_46 : decode cX12_place 46 = .ok (.getfield 115, 3) := by decide +kernel
theorem dX12_place_49 : decode cX12_place 49 = .ok (.iload_n 1, 1) := by decide +kernel
theorem dX12_place_50 : decode cX12_place 50 = .ok (.ineg, 1) := by decide +kernel
theorem dX12_place_51 : decode cX12_place 51 = .ok (.iaload, 1) := by decide +kernel
theorem dX12_place_52 : decode cX12_place 52 = .ok (.goto 4, 3) := by decide +kernel
theorem dX12_place_55 : decode cX12_place 55 = .ok (.iconst (-1), 1) := by decide +kernel
theorem dX12_place_56 : decode cX12_place 56 = .ok (.ireturn, 1) := by decide +kernel
theorem dX12_proof_0 : decode cX12_proof 0 = .ok (.aload_n 0, 1) := by decide +kernel
theorem dX12_proof_1 : decode cX12_proof 1 = .ok (.getfield 477, 3) := by decide +kernel
theorem dX12_proof_4 : decode cX12_proof 4 = .ok (.iconst 2, 1) := by decide +kernel
theorem dX12_proof_5 : decode cX12_proof 5 = .ok (.if_icmp .lt 32, 3) := by decide +kernel
theorem dX12_proof_8 : decode cX12_proof 8 = .ok (.aload_n 0, 1) := by decide +kernel
theorem dX12_proof_9 : decode cX12_proof 9 = .ok (.getfield 477, 3) := by decide +kernel
theorem dX12_proof_12 : decode cX12_proof 12 = .ok (.iconst 4, 1) := by decide +kernel
theorem dX12_proof_13 : decode cX12_proof 13 = .ok (.if_icmp .gt 24, 3) := by decide +kernel
theorem dX12_proof_16 : decode cX12_proof 16 = .ok (.iload_n 1, 1) := by decide +kernel
theorem dX12_proof_17 : decode cX12_proof 17 = .ok (.ifCond .lt 20, 3) := by decide +kernel
theorem dX12_proof_20 : decode cX12_proof 20 = .ok (.iload_n 1, 1) := by decide +kernel
theorem dX12_proof_21 : decode cX12_proof 21 = .ok (.aload_n 0, 1) := by decide +kernel
theorem dX12_proof_22 : decode cX12_proof 22 = .ok (.getfield 523, 3) := by decide +kernel
theorem dX12_proof_25 : decode cX12_proof 25 = .ok (.if_icmp .ge 12, 3) := by decide +kernel
theorem dX12_proof_28 : decode cX12_proof 28 = .ok (.aload_n 0, 1) := by decide +kernel
theorem dX12_proof_29 : decode cX12_proof 29 = .ok (.getfield 148, 3) := by decide +kernel
theorem dX12_proof_32 : decode cX12_proof 32 = .ok (.iload_n 1, 1) := by decide +kernel
theorem dX12_proof_33 : decode cX12_proof 33 = .ok (.baload, 1) := by decide +kernel
theorem dX12_proof_34 : decode cX12_proof 34 = .ok (.goto 4, 3) := by decide +kernel
theorem dX12_proof_37 : decode cX12_proof 37 = .ok (.iconst (-1), 1) := by decide +kernel
theorem dX12_proof_38 : decode cX12_proof 38 = .ok (.ireturn, 1) := by decide +kernel
theorem dX12_size_0 : decode cX12_size 0 = .ok (.iload_n 1, 1) := by decide +kernel
theorem dX12_size_1 : decode cX12_size 1 = .ok (.tableswitch 99 0 3 #[31, 47, 63, 79], 31) := by decide +kernel
theorem dX12_size_32 : decode cX12_size 32 = .ok (.aload_n 0, 1) := by decide +kernel
theorem dX12_size_33 : decode cX12_size 33 = .ok (.getfield 462, 3) := by decide +kernel
theorem dX12_size_36 : decode cX12_size 36 = .ok (.ifCond .eq 10, 3) := by decide +kernel
theorem dX12_size_39 : decode cX12_size 39 = .ok (.aload_n 0, 1) := by decide +kernel
theorem dX12_size_40 : decode cX12_size 40 = .ok (.getfield 465, 3) := by decide +kernel
theorem dX12_size_43 : decode cX12_size 43 = .ok (.goto 4, 3) := by decide +kernel
theorem dX12_size_46 : decode cX12_size 46 = .ok (.iconst 0, 1) := by decide +kernel
theorem dX12_size_47 : decode cX12_size 47 = .ok (.ireturn, 1) := by decide +kernel
theorem dX12_size_48 : decode cX12_size 48 = .ok (.aload_n 0, 1) := by decide +kernel
theorem dX12_size_49 : decode cX12_size 49 = .ok (.getfield 462, 3) := by decide +kernel
theorem dX12_size_52 : decode cX12_size 52 = .ok (.ifCond .eq 10, 3) := by decide +kernel
theorem dX12_size_55 : decode cX12_size 55 = .ok (.aload_n 0, 1) := by decide +kernel
theorem dX12_size_56 : decode cX12_size 56 = .ok (.getfield 468, 3) := by decide +kernel
theorem dX12_size_59 : decode cX12_size 59 = .ok (.goto 4, 3) := by decide +kernel
theorem dX12_size_62 : decode cX12_size 62 = .ok (.iconst 0, 1) := by decide +kernel
theorem dX12_size_63 : decode cX12_size 63 = .ok (.ireturn, 1) := by decide +kernel
theorem dX12_size_64 : decode cX12_size 64 = .ok (.aload_n 0, 1) := by decide +kernel
theorem dX12_size_65 : decode cX12_size 65 = .ok (.getfield 462, 3) := by decide +kernel
theorem dX12_size_68 : decode cX12_size 68 = .ok (.ifCond .eq 10, 3) := by decide +kernel
theorem dX12_size_71 : decode cX12_size 71 = .ok (.aload_n 0, 1) := by decide +kernel
theorem dX12_size_72 : decode cX12_size 72 = .ok (.getfield 471, 3) := by decide +kernel
theorem dX12_size_75 : decode cX12_size 75 = .ok (.goto 4, 3) := by decide +kernel
theorem dX12_size_78 : decode cX12_size 78 = .ok (.iconst 0, 1) := by decide +kernel
theorem dX12_size_79 : decode cX12_size 79 = .ok (.ireturn, 1) := by decide +kernel
theorem dX12_size_80 : decode cX12_size 80 = .ok (.aload_n 0, 1) := by decide +kernel
theorem dX12_size_81 : decode cX12_size 81 = .ok (.getfield 462, 3) := by decide +kernel
theorem dX12_size_84 : decode cX12_size 84 = .ok (.ifCond .eq 14, 3) := by decide +kernel
theorem dX12_size_87 : decode cX12_size 87 = .ok (.aload_n 0, 1) := by decide +kernel
theorem dX12_size_88 : decode cX12_size 88 = .ok (.getfield 474, 3) := by decide +kernel
theorem dX12_size_91 : decode cX12_size 91 = .ok (.ifCond .eq 7, 3) := by decide +kernel
theorem dX12_size_94 : decode cX12_size 94 = .ok (.iconst 1, 1) := by decide +kernel
theorem dX12_size_95 : decode cX12_size 95 = .ok (.goto 4, 3) := by decide +kernel
theorem dX12_size_98 : decode cX12_size 98 = .ok (.iconst 0, 1) := by decide +kernel
theorem dX12_size_99 : decode cX12_size 99 = .ok (.ireturn, 1) := by decide +kernel
theorem dX12_size_100 : decode cX12_size 100 = .ok (.iconst (-1), 1) := by decide +kernel
theorem dX12_size_101 : decode cX12_size 101 = .ok (.ireturn, 1) := by decide +kernel
theorem dX12_told__0 : decode cX12_told_ 0 = .ok (.aload_n 0, 1) := by decide +kernel
theorem dX12_told__1 : decode cX12_told_ 1 = .ok (.getfield 477, 3) := by decide +kernel
theorem dX12_told__4 : decode cX12_told_ 4 = .ok (.ifCond .eq 31, 3) := by decide +kernel
theorem dX12_told__7 : decode cX12_told_ 7 = .ok (.iload_n 1, 1) := by decide +kernel
theorem dX12_told__8 : decode cX12_told_ 8 = .ok (.ifCond .lt 10, 3) := by decide +kernel
theorem dX12_told__11 : decode cX12_told_ 11 = .ok (.aload_n 0, 1) := by decide +kernel
theorem dX12_told__12 : decode cX12_told_ 12 = .ok (.getfield 514, 3) := by decide +kernel
theorem dX12_told__15 : decode cX12_told_ 15 = .ok (.ifCond .eq 20, 3) := by decide +kernel
theorem dX12_told__18 : decode cX12_told_ 18 = .ok (.iload_n 1, 1) := by decide +kernel
theorem dX12_told__19 : decode cX12_told_ 19 = .ok (.aload_n 0, 1) := by decide +kernel
theorem dX12_told__20 : decode cX12_told_ 20 = .ok (.getfield 465, 3) := by decide +kernel
theorem dX12_told__23 : decode cX12_told_ 23 = .ok (.if_icmp .gt 12, 3) := by decide +kernel
theorem dX12_told__26 : decode cX12_told_ 26 = .ok (.iload_n 1, 1) := by decide +kernel
theorem dX12_told__27 : decode cX12_told_ 27 = .ok (.aload_n 0, 1) := by decide +kernel
theorem dX12_told__28 : decode cX12_told_ 28 = .ok (.getfield 480, 3) := by decide +kernel
theorem dX12_told__31 : decode cX12_told_ 31 = .ok (.ineg, 1) := by decide +kernel
theorem dX12_told__32 : decode cX12_told_ 32 = .ok (.if_icmp .ge 5, 3) := by decide +kernel
theorem dX12_told__35 : decode cX12_told_ 35 = .ok (.iconst (-1), 1) := by decide +kernel
theorem dX12_told__36 : decode cX12_told_ 36 = .ok (.ireturn, 1) := by decide +kernel
theorem dX12_told__37 : decode cX12_told_ 37 = .ok (.iconst 0, 1) := by decide +kernel
theorem dX12_told__38 : decode cX12_told_ 38 = .ok (.istore_n 3, 1) := by decide +kernel
theorem dX12_told__39 : decode cX12_told_ 39 = .ok (.iload_n 1, 1) := by decide +kernel
theorem dX12_told__40 : decode cX12_told_ 40 = .ok (.ifCond .ge 96, 3) := by decide +kernel
theorem dX12_told__43 : decode cX12_told_ 43 = .ok (.iconst 0, 1) := by decide +kernel
theorem dX12_told__44 : decode cX12_told_ 44 = .ok (.istore 4, 2) := by decide +kernel
theorem dX12_told__46 : decode cX12_told_ 46 = .ok (.iconst 1, 1) := by decide +kernel
theorem dX12_told__47 : decode cX12_told_ 47 = .ok (.istore 5, 2) := by decide +kernel
theorem dX12_told__49 : decode cX12_told_ 49 = .ok (.iload 5, 2) := by decide +kernel
theorem dX12_told__51 : decode cX12_told_ 51 = .ok (.aload_n 0, 1) := by decide +kernel
theorem dX12_told__52 : decode cX12_told_ 52 = .ok (.getfield 526, 3) := by decide +kernel
theorem dX12_told__55 : decode cX12_told_ 55 = .ok (.if_icmp .gt 29, 3) := by decide +kernel
theorem dX12_told__58 : decode cX12_told_ 58 = .ok (.aload_n 0, 1) := by decide +kernel
theorem dX12_told__59 : decode cX12_told_ 59 = .ok (.getfield 115, 3) := by decide +kernel
theorem dX12_told__62 : decode cX12_told_ 62 = .ok (.iload 5, 2) := by decide +kernel
theorem dX12_told__64 : decode cX12_told_ 64 = .ok (.iaload, 1) := by decide +kernel
theorem dX12_told__65 : decode cX12_told_ 65 = .ok (.aload_n 0, 1) := by decide +kernel
theorem dX12_told__66 : decode cX12_told_ 66 = .ok (.getfield 465, 3) := by decide +kernel
theorem dX12_told__69 : decode cX12_told_ 69 = .ok (.iload_n 1, 1) := by decide +kernel
theorem dX12_told__70 : decode cX12_told_ 70 = .ok (.isub, 1) := by decide +kernel
theorem dX12_told__71 : decode cX12_told_ 71 = .ok (.if_icmp .ne 7, 3) := by decide +kernel
theorem dX12_told__74 : decode cX12_told_ 74 = .ok (.iload 5, 2) := by decide +kernel
theorem dX12_told__76 : decode cX12_told_ 76 = .ok (.istore 4, 2) := by decide +kernel
theorem dX12_told__78 : decode cX12_told_ 78 = .ok (.iinc 5 1, 3) := by decide +kernel
theorem dX12_told__81 : decode cX12_told_ 81 = .ok (.goto (-32), 3) := by decide +kernel
theorem dX12_told__84 : decode cX12_told_ 84 = .ok (.aload_n 0, 1) := by decide +kernel
theorem dX12_told__85 : decode cX12_told_ 85 = .ok (.getfield 166, 3) := by decide +kernel
theorem dX12_told__88 : decode cX12_told_ 88 = .ok (.iconst 0, 1) := by decide +kernel
theorem dX12_told__89 : decode cX12_told_ 89 = .ok (.iconst 0, 1) := by decide +kernel
theorem dX12_told__90 : decode cX12_told_ 90 = .ok (.iastore, 1) := by decide +kernel
theorem dX12_told__91 : decode cX12_told_ 91 = .ok (.iload 4, 2) := by decide +kernel
theorem dX12_told__93 : decode cX12_told_ 93 = .ok (.ifCond .le 26, 3) := by decide +kernel
theorem dX12_told__96 : decode cX12_told_ 96 = .ok (.aload_n 0, 1) := by decide +kernel
theorem dX12_told__97 : decode cX12_told_ 97 = .ok (.aload_n 0, 1) := by decide +kernel
theorem dX12_told__98 : decode cX12_told_ 98 = .ok (.getfield 103, 3) := by decide +kernel
theorem dX12_told__101 : decode cX12_told_ 101 = .ok (.aload_n 0, 1) := by decide +kernel
theorem dX12_told__102 : decode cX12_told_ 102 = .ok (.iconst 0, 1) := by decide +kernel
theorem dX12_told__103 : decode cX12_told_ 103 = .ok (.iload 4, 2) := by decide +kernel
theorem dX12_told__105 : decode cX12_told_ 105 = .ok (.invokevirtual 529, 3) := by decide +kernel
theorem dX12_told__108 : decode cX12_told_ 108 = .ok (.aload_n 0, 1) := by decide +kernel
theorem dX12_told__109 : decode cX12_told_ 109 = .ok (.getfield 109, 3) := by decide +kernel
theorem dX12_told__112 : decode cX12_told_ 112 = .ok (.iconst 0, 1) := by decide +kernel
theorem dX12_told__113 : decode cX12_told_ 113 = .ok (.invokevirtual 671, 3) := by decide +kernel
theorem dX12_told__116 : decode cX12_told_ 116 = .ok (.goto 17, 3) := by decide +kernel
theorem dX12_told__119 : decode cX12_told_ 119 = .ok (.aload_n 0, 1) := by decide +kernel
theorem dX12_told__120 : decode cX12_told_ 120 = .ok (.aload_n 0, 1) := by decide +kernel
theorem dX12_told__121 : decode cX12_told_ 121 = .ok (.getfield 166, 3) := by decide +kernel
theorem dX12_told__124 : decode cX12_told_ 124 = .ok (.iconst 0, 1) := by decide +kernel
theorem dX12_told__125 : decode cX12_told_ 125 = .ok (.aload_n 0, 1) := by decide +kernel
theorem dX12_told__126 : decode cX12_told_ 126 = .ok (.getfield 109, 3) := by decide +kernel
theorem dX12_told__129 : decode cX12_told_ 129 = .ok (.iconst 0, 1) := by decide +kernel
theorem dX12_told__130 : decode cX12_told_ 130 = .ok (.invokevirtual 671, 3) := by decide +kernel
theorem dX12_told__133 : decode cX12_told_ 133 = .ok (.goto 54, 3) := by decide +kernel
theorem dX12_told__136 : decode cX12_told_ 136 = .ok (.iload_n 1, 1) := by decide +kernel
theorem dX12_told__137 : decode cX12_told_ 137 = .ok (.ifCond .ne 33, 3) := by decide +kernel
theorem dX12_told__140 : decode cX12_told_ 140 = .ok (.aload_n 0, 1) := by decide +kernel
theorem dX12_told__141 : decode cX12_told_ 141 = .ok (.aload_n 0, 1) := by decide +kernel
theorem dX12_told__142 : decode cX12_told_ 142 = .ok (.getfield 134, 3) := by decide +kernel
theorem dX12_told__145 : decode cX12_told_ 145 = .ok (.iconst 0, 1) := by decide +kernel
theorem dX12_told__146 : decode cX12_told_ 146 = .ok (.aload_n 0, 1) := by decide +kernel
theorem dX12_told__147 : decode cX12_told_ 147 = .ok (.getfield 137, 3) := by decide +kernel
theorem dX12_told__150 : decode cX12_told_ 150 = .ok (.iconst 0, 1) := by decide +kernel
theorem dX12_told__151 : decode cX12_told_ 151 = .ok (.invokevirtual 671, 3) := by decide +kernel
theorem dX12_told__154 : decode cX12_told_ 154 = .ok (.aload_n 0, 1) := by decide +kernel
theorem dX12_told__155 : decode cX12_told_ 155 = .ok (.getfield 474, 3) := by decide +kernel
theorem dX12_told__158 : decode cX12_told_ 158 = .ok (.ifCond .ne 7, 3) := by decide +kernel
theorem dX12_told__161 : decode cX12_told_ 161 = .ok (.iconst 1, 1) := by decide +kernel
theorem dX12_told__162 : decode cX12_told_ 162 = .ok (.goto 4, 3) := by decide +kernel
theorem dX12_told__165 : decode cX12_told_ 165 = .ok (.iconst 0, 1) := by decide +kernel
theorem dX12_told__166 : decode cX12_told_ 166 = .ok (.istore_n 3, 1) := by decide +kernel
theorem dX12_told__167 : decode cX12_told_ 167 = .ok (.goto 20, 3) := by decide +kernel
theorem dX12_told__170 : decode cX12_told_ 170 = .ok (.aload_n 0, 1) := by decide +kernel
theorem dX12_told__171 : decode cX12_told_ 171 = .ok (.aload_n 0, 1) := by decide +kernel
theorem dX12_told__172 : decode cX12_told_ 172 = .ok (.getfield 140, 3) := by decide +kernel
theorem dX12_told__175 : decode cX12_told_ 175 = .ok (.bipush 8, 2) := by decide +kernel
theorem dX12_told__177 : decode cX12_told_ 177 = .ok (.iload_n 1, 1) := by decide +kernel
theorem dX12_told__178 : decode cX12_told_ 178 = .ok (.imul, 1) := by decide +kernel
theorem dX12_told__179 : decode cX12_told_ 179 = .ok (.aload_n 0, 1) := by decide +kernel
theorem dX12_told__180 : decode cX12_told_ 180 = .ok (.getfield 137, 3) := by decide +kernel
theorem dX12_told__183 : decode cX12_told_ 183 = .ok (.iconst 0, 1) := by decide +kernel
theorem dX12_told__184 : decode cX12_told_ 184 = .ok (.invokevirtual 671, 3) := by decide +kernel
theorem dX12_told__187 : decode cX12_told_ 187 = .ok (.iload_n 3, 1) := by decide +kernel
theorem dX12_told__188 : decode cX12_told_ 188 = .ok (.ifCond .eq 11, 3) := by decide +kernel
theorem dX12_told__191 : decode cX12_told_ 191 = .ok (.aload_n 0, 1) := by decide +kernel
theorem dX12_told__192 : decode cX12_told_ 192 = .ok (.getfield 26, 3) := by decide +kernel
theorem dX12_told__195 : decode cX12_told_ 195 = .ok (.iconst 0, 1) := by decide +kernel
theorem dX12_told__196 : decode cX12_told_ 196 = .ok (.invokestatic 540, 3) := by decide +kernel
theorem dX12_told__199 : decode cX12_told_ 199 = .ok (.aload_n 0, 1) := by decide +kernel
theorem dX12_told__200 : decode cX12_told_ 200 = .ok (.iconst 0, 1) := by decide +kernel
theorem dX12_told__201 : decode cX12_told_ 201 = .ok (.putfield 259, 3) := by decide +kernel
theorem dX12_told__204 : decode cX12_told_ 204 = .ok (.aload_n 0, 1) := by decide +kernel
theorem dX12_told__205 : decode cX12_told_ 205 = .ok (.aload_n 0, 1) := by decide +kernel
theorem dX12_told__206 : decode cX12_told_ 206 = .ok (.getfield 26, 3) := by decide +kernel
theorem dX12_told__209 : decode cX12_told_ 209 = .ok (.iconst 0, 1) := by decide +kernel
theorem dX12_told__210 : decode cX12_told_ 210 = .ok (.invokevirtual 594, 3) := by decide +kernel
theorem dX12_told__213 : decode cX12_told_ 213 = .ok (.aload_n 0, 1) := by decide +kernel
theorem dX12_told__214 : decode cX12_told_ 214 = .ok (.getfield 29, 3) := by decide +kernel
theorem dX12_told__217 : decode cX12_told_ 217 = .ok (.iconst 0, 1) := by decide +kernel
theorem dX12_told__218 : decode cX12_told_ 218 = .ok (.iaload, 1) := by decide +kernel
theorem dX12_told__219 : decode cX12_told_ 219 = .ok (.iconst 1, 1) := by decide +kernel
theorem dX12_told__220 : decode cX12_told_ 220 = .ok (.if_icmp .ne 13, 3) := by decide +kernel
theorem dX12_told__223 : decode cX12_told_ 223 = .ok (.aload_n 0, 1) := by decide +kernel
theorem dX12_told__224 : decode cX12_told_ 224 = .ok (.getfield 29, 3) := by decide +kernel
theorem dX12_told__227 : decode cX12_told_ 227 = .ok (.iconst 1, 1) := by decide +kernel
theorem dX12_told__228 : decode cX12_told_ 228 = .ok (.iaload, 1) := by decide +kernel
theorem dX12_told__229 : decode cX12_told_ 229 = .ok (.iconst 1, 1) := by decide +kernel
theorem dX12_told__230 : decode cX12_told_ 230 = .ok (.if_icmp .eq 18, 3) := by decide +kernel
theorem dX12_told__233 : decode cX12_told_ 233 = .ok (.aload_n 0, 1) := by decide +kernel
theorem dX12_told__234 : decode cX12_told_ 234 = .ok (.bipush 47, 2) := by decide +kernel
theorem dX12_told__236 : decode cX12_told_ 236 = .ok (.invokevirtual 262, 3) := by decide +kernel
theorem dX12_told__239 : decode cX12_told_ 239 = .ok (.aload_n 0, 1) := by decide +kernel
theorem dX12_told__240 : decode cX12_told_ 240 = .ok (.aload_n 0, 1) := by decide +kernel
theorem dX12_told__241 : decode cX12_told_ 241 = .ok (.getfield 29, 3) := by decide +kernel
theorem dX12_told__244 : decode cX12_told_ 244 = .ok (.iconst 0, 1) := by decide +kernel
theorem dX12_told__245 : decode cX12_told_ 245 = .ok (.invokevirtual 594, 3) := by decide +kernel
theorem dX12_told__248 : decode cX12_told_ 248 = .ok (.aload_n 0, 1) := by decide +kernel
theorem dX12_told__249 : decode cX12_told_ 249 = .ok (.iload_n 2, 1) := by decide +kernel
theorem dX12_told__250 : decode cX12_told_ 250 = .ok (.invokevirtual 686, 3) := by decide +kernel
theorem dX12_told__253 : decode cX12_told_ 253 = .ok (.ireturn, 1) := by decide +kernel
theorem w_143 : Cond.selects RX12 yX12_asLong yX12_asLong ∈ tb := sel_9 (q := (yX12_asLong, 105)) 15 (by decide +kernel)
theorem w_181 : Cond.selects RX12 yX12_letterAt yX12_letterAt ∈ tb := sel_12 (q := (yX12_letterAt, 105)) 5 (by decide +kernel)
theorem w_1983 : Cond.fieldLink RX12 447 (TX12 22).1 (TX12 22).2.1 (TX12 22).2.2.1 ∈ tb := tbc_8 100 (by decide +kernel) rfl
theorem w_1984 : Cond.fieldLink RX12 450 (TX12 23).1 (TX12 23).2.1 (TX12 23).2.2.1 ∈ tb := tbc_8 101 (by decide +kernel) rfl
theorem w_2053 : Cond.fieldLink RX12 166 (TX12 92).1 (TX12 92).2.1 (TX12 92).2.2.1 ∈ tb := tbc_8 170 (by decide +kernel) rfl
theorem w_2480 : Cond.methodLink RX12 489 yX12_asLong ∈ tb := tbc_10 117 (by decide +kernel) rfl
theorem w_2482 : Cond.instanceMethod yX12_asLong ∈ tb := tbc_10 119 (by decide +kernel) rfl
theorem w_2483 : Cond.code yX12_asLong cX12_asLong 6 (some .long) ∈ tb := tbc_10 120 (by decide +kernel) rfl
theorem w_2700 : Cond.methodLink RX12 686 yX12_letterAt ∈ tb := tbc_11 97 (by decide +kernel) rfl
theorem w_2702 : Cond.instanceMethod yX12_letterAt ∈ tb := tbc_11 99 (by decide +kernel) rfl
theorem w_2703 : Cond.code yX12_letterAt cX12_letterAt 2 (some .int) ∈ tb := tbc_11 100 (by decide +kernel) rfl
section RW69
variable {p : Program} {l : Launch} {e : Env} {R : Room} {s : State} {m : MethodId} {args : Array Value} {below : List Frame} {meth : Method} {c : Code} {H : Heap} {locs : List Loc} {cells slots : Nat} {Q : State → Prop}
variable {cc : ByteArray} {pc nL : Nat} {ls : Array Slot} {rest st0 : List Value} {G : sG} {n : Nat} {S : sS}
theorem g_X12_447 (Cx : sC G p m c cc nL s args RX12) (hW : sW G n S H) {k : Nat} (hk : k < n) (ht : tau k = .inl 12) {v : Int} (hv : S.1 k 22 = v) (hdg : decode cc pc = .ok (.getfield 447, 3)) (kk : W p l e R s m args below meth c H locs cells slots Q (F0 m (pc + 3) ls (.int (iv v) :: rest))) : W p l e R s m args below meth c H locs cells slots Q (F0 m pc ls (.ref (G.2.2.1 + k) :: rest)) :=
  sGet Cx inX12 rfl 22 (by decide) w_1983 hW hk ht (congrArg (fun z => Value.int (iv z)) hv) hdg kk
theorem g_X12_450 (Cx : sC G p m c cc nL s args RX12) (hW : sW G n S H) {k : Nat} (hk : k < n) (ht : tau k = .inl 12) {v : Int} (hv : S.1 k 23 = v) (hdg : decode cc pc = .ok (.getfield 450, 3)) (kk : W p l e R s m args below meth c H locs cells slots Q (F0 m (pc + 3) ls (.int (iv v) :: rest))) : W p l e R s m args below meth c H locs cells slots Q (F0 m pc ls (.ref (G.2.2.1 + k) :: rest)) :=
  sGet Cx inX12 rfl 23 (by decide) w_1984 hW hk ht (congrArg (fun z => Value.int (iv z)) hv) hdg kk
theorem c_X12_489 (Cx : sC G p m c cc nL s args RX12) {rm : Room} {mc ms : Nat} (h1 : rm.cells = mc) (h2 : rm.slots = ms) (h3 : rm.frames + 1 ≤ R.frames ∧ 8 + (6 + 11) + rm.locals ≤ R.locals) : CallW R s args RX12 RX12 489 yX12_asLong cX12_asLong 6 (some .long) (.code yX12_asLong cX12_asLong 6 (some .long) :: tb) rm mc ms 2 :=
  sCw Cx 2 w_2480 w_2482 w_143 w_217 w_2483 (by decide +kernel) h1 h2 h3
theorem c_X12_686 (Cx : sC G p m c cc nL s args RX12) {rm : Room} {mc ms : Nat} (h1 : rm.cells = mc) (h2 : rm.slots = ms) (h3 : rm.frames + 1 ≤ R.frames ∧ 8 + (2 + 11) + rm.locals ≤ R.locals) : CallW R s args RX12 RX12 686 yX12_letterAt cX12_letterAt 2 (some .int) (.code yX12_letterAt cX12_letterAt 2 (some .int) :: tb) rm mc ms 1 :=
  sCw Cx 1 w_2700 w_2702 w_181 w_217 w_2703 (by decide +kernel) h1 h2 h3
theorem g_X12_166 (Cx : sC G p m c cc nL s args RX12) (hW : sW G n S H) {k : Nat} (hk : k < n) (ht : tau k = .inl 12) {v : Value} (hv : S.2.2.2 k 92 = v) (hdg : decode cc pc = .ok (.getfield 166, 3)) (kk : W p l e R s m args below meth c H locs cells slots Q (F0 m (pc + 3) ls (v :: rest))) : W p l e R s m args below meth c H locs cells slots Q (F0 m pc ls (.ref (G.2.2.1 + k) :: rest)) :=
  sGet Cx inX12 rfl 92 (by decide) w_2053 hW hk ht hv hdg kk
end RW69
