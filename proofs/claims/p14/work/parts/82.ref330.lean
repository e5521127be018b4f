theorem dX12_numberAt_0 : decode cX12_numberAt 0 = .ok (.aload_n 0, 1) := by decide +kernel
theorem dX12_numberAt_1 : decode cX12_numberAt 1 = .ok (.getfield 50, 3) := by decide +kernel
theorem dX12_numberAt_4 : decode cX12_numberAt 4 = .ok (.iload_n 1, 1) := by decide +kernel
theorem dX12_numberAt_5 : decode cX12_numberAt 5 = .ok (.iaload, 1) := by decide +kernel
theorem dX12_numberAt_6 : decode cX12_numberAt 6 = .ok (.aload_n 0, 1) := by decide +kernel
theorem dX12_numberAt_7 : decode cX12_numberAt 7 = .ok (.getfield 53, 3) := by decide +kernel
theorem dX12_numberAt_10 : decode cX12_numberAt 10 = .ok (.iload_n 1, 1) := by decide +kernel
theorem dX12_numberAt_11 : decode cX12_numberAt 11 = .ok (.iaload, 1) := by decide +kernel
theorem dX12_numberAt_12 : decode cX12_numberAt 12 = .ok (.iadd, 1) := by decide +kernel
theorem dX12_numberAt_13 : decode cX12_numberAt 13 = .ok (.istore 4, 2) := by decide +kernel
theorem dX12_numberAt_15 : decode cX12_numberAt 15 = .ok (.aload_n 0, 1) := by decide +kernel
theorem dX12_numberAt_16 : decode cX12_numberAt 16 = .ok (.getfield 50, 3) := by decide +kernel
theorem dX12_numberAt_19 : decode cX12_numberAt 19 = .ok (.iload_n 1, 1) := by decide +kernel
theorem dX12_numberAt_20 : decode cX12_numberAt 20 = .ok (.iaload, 1) := by decide +kernel
theorem dX12_numberAt_21 : decode cX12_numberAt 21 = .ok (.aload_n 0, 1) := by decide +kernel
theorem dX12_numberAt_22 : decode cX12_numberAt 22 = .ok (.getfield 44, 3) := by decide +kernel
theorem dX12_numberAt_25 : decode cX12_numberAt 25 = .ok (.aload_n 0, 1) := by decide +kernel
theorem dX12_numberAt_26 : decode cX12_numberAt 26 = .ok (.getfield 50, 3) := by decide +kernel
theorem dX12_numberAt_29 : decode cX12_numberAt 29 = .ok (.iload_n 1, 1) := by decide +kernel
theorem dX12_numberAt_30 : decode cX12_numberAt 30 = .ok (.iaload, 1) := by decide +kernel
theorem dX12_numberAt_31 : decode cX12_numberAt 31 = .ok (.baload, 1) := by decide +kernel
theorem dX12_numberAt_32 : decode cX12_numberAt 32 = .ok (.bipush 45, 2) := by decide +kernel
theorem dX12_numberAt_34 : decode cX12_numberAt 34 = .ok (.if_icmp .ne 7, 3) := by decide +kernel
theorem dX12_numberAt_37 : decode cX12_numberAt 37 = .ok (.iconst 1, 1) := by decide +kernel
theorem dX12_numberAt_38 : decode cX12_numberAt 38 = .ok (.goto 4, 3) := by decide +kernel
theorem dX12_numberAt_41 : decode cX12_numberAt 41 = .ok (.iconst 0, 1) := by decide +kernel
theorem dX12_numberAt_42 : decode cX12_numberAt 42 = .ok (.iadd, 1) := by decide +kernel
theorem dX12_numberAt_43 : decode cX12_numberAt 43 = .ok (.istore 5, 2) := by decide +kernel
theorem dX12_numberAt_45 : decode cX12_numberAt 45 = .ok (.iconst 0, 1) := by decide +kernel
theorem dX12_numberAt_46 : decode cX12_numberAt 46 = .ok (.istore 6, 2) := by decide +kernel
theorem dX12_numberAt_48 : decode cX12_numberAt 48 = .ok (.iload 4, 2) := by decide +kernel
theorem dX12_numberAt_50 : decode cX12_numberAt 50 = .ok (.iload 5, 2) := by decide +kernel
theorem dX12_numberAt_52 : decode cX12_numberAt 52 = .ok (.if_icmp .le 71, 3) := by decide +kernel
theorem dX12_numberAt_55 : decode cX12_numberAt 55 = .ok (.iload 5, 2) := by decide +kernel
theorem dX12_numberAt_57 : decode cX12_numberAt 57 = .ok (.iload 4, 2) := by decide +kernel
theorem dX12_numberAt_59 : decode cX12_numberAt 59 = .ok (.bipush 9, 2) := by decide +kernel
theorem dX12_numberAt_61 : decode cX12_numberAt 61 = .ok (.isub, 1) := by decide +kernel
theorem dX12_numberAt_62 : decode cX12_numberAt 62 = .ok (.invokestatic 700, 3) := by decide +kernel
theorem dX12_numberAt_65 : decode cX12_numberAt 65 = .ok (.istore 7, 2) := by decide +kernel
theorem dX12_numberAt_67 : decode cX12_numberAt 67 = .ok (.iconst 0, 1) := by decide +kernel
theorem dX12_numberAt_68 : decode cX12_numberAt 68 = .ok (.istore 8, 2) := by decide +kernel
theorem dX12_numberAt_70 : decode cX12_numberAt 70 = .ok (.iload 7, 2) := by decide +kernel
theorem dX12_numberAt_72 : decode cX12_numberAt 72 = .ok (.istore 9, 2) := by decide +kernel
theorem dX12_numberAt_74 : decode cX12_numberAt 74 = .ok (.iload 9, 2) := by decide +kernel
theorem dX12_numberAt_76 : decode cX12_numberAt 76 = .ok (.iload 4, 2) := by decide +kernel
theorem dX12_numberAt_78 : decode cX12_numberAt 78 = .ok (.if_icmp .ge 27, 3) := by decide +kernel
theorem dX12_numberAt_81 : decode cX12_numberAt 81 = .ok (.bipush 10, 2) := by decide +kernel
theorem dX12_numberAt_83 : decode cX12_numberAt 83 = .ok (.iload 8, 2) := by decide +kernel
theorem dX12_numberAt_85 : decode cX12_numberAt 85 = .ok (.imul, 1) := by decide +kernel
theorem dX12_numberAt_86 : decode cX12_numberAt 86 = .ok (.aload_n 0, 1) := by decide +kernel
theorem dX12_numberAt_87 : decode cX12_numberAt 87 = .ok (.getfield 44, 3) := by decide +kernel
theorem dX12_numberAt_90 : decode cX12_numberAt 90 = .ok (.iload 9, 2) := by decide +kernel
theorem dX12_numberAt_92 : decode cX12_numberAt 92 = .ok (.baload, 1) := by decide +kernel
theorem dX12_numberAt_93 : decode cX12_numberAt 93 = .ok (.iadd, 1) := by decide +kernel
theorem dX12_numberAt_94 : decode cX12_numberAt 94 = .ok (.bipush 48, 2) := by decide +kernel
theorem dX12_numberAt_96 : decode cX12_numberAt 96 = .ok (.isub, 1) := by decide +kernel
theorem dX12_numberAt_97 : decode cX12_numberAt 97 = .ok (.istore 8, 2) := by decide +kernel
theorem dX12_numberAt_99 : decode cX12_numberAt 99 = .ok (.iinc 9 1, 3) := by decide +kernel
theorem dX12_numberAt_102 : decode cX12_numberAt 102 = .ok (.goto (-28), 3) := by decide +kernel
theorem dX12_numberAt_105 : decode cX12_numberAt 105 = .ok (.iinc 6 1, 3) := by decide +kernel
theorem dX12_numberAt_108 : decode cX12_numberAt 108 = .ok (.aload_n 2, 1) := by decide +kernel
theorem dX12_numberAt_109 : decode cX12_numberAt 109 = .ok (.iload_n 3, 1) := by decide +kernel
theorem dX12_numberAt_110 : decode cX12_numberAt 110 = .ok (.iload 6, 2) := by decide +kernel
theorem dX12_numberAt_112 : decode cX12_numberAt 112 = .ok (.iadd, 1) := by decide +kernel
theorem dX12_numberAt_113 : decode cX12_numberAt 113 = .ok (.iload 8, 2) := by decide +kernel
theorem dX12_numberAt_115 : decode cX12_numberAt 115 = .ok (.iastore, 1) := by decide +kernel
theorem dX12_numberAt_116 : decode cX12_numberAt 116 = .ok (.iload 7, 2) := by decide +kernel
theorem dX12_numberAt_118 : decode cX12_numberAt 118 = .ok (.istore 4, 2) := by decide +kernel
theorem dX12_numberAt_120 : decode cX12_numberAt 120 = .ok (.goto (-72), 3) := by decide +kernel
theorem dX12_numberAt_123 : decode cX12_numberAt 123 = .ok (.aload_n 2, 1) := by decide +kernel
theorem dX12_numberAt_124 : decode cX12_numberAt 124 = .ok (.iload_n 3, 1) := by decide +kernel
theorem dX12_numberAt_125 : decode cX12_numberAt 125 = .ok (.iload 6, 2) := by decide +kernel
theorem dX12_numberAt_127 : decode cX12_numberAt 127 = .ok (.aload_n 0, 1) := by decide +kernel
theorem dX12_numberAt_128 : decode cX12_numberAt 128 = .ok (.getfield 56, 3) := by decide +kernel
theorem dX12_numberAt_131 : decode cX12_numberAt 131 = .ok (.iload_n 1, 1) := by decide +kernel
theorem dX12_numberAt_132 : decode cX12_numberAt 132 = .ok (.iaload, 1) := by decide +kernel
theorem dX12_numberAt_133 : decode cX12_numberAt 133 = .ok (.ifCond .ge 7, 3) := by decide +kernel
theorem dX12_numberAt_136 : decode cX12_numberAt 136 = .ok (.iconst (-1), 1) := by decide +kernel
theorem dX12_numberAt_137 : decode cX12_numberAt 137 = .ok (.goto 4, 3) := by decide +kernel
theorem dX12_numberAt_140 : decode cX12_numberAt 140 = .ok (.iconst 1, 1) := by decide +kernel
theorem dX12_numberAt_141 : decode cX12_numberAt 141 = .ok (.invokestatic 237, 3) := by decide +kernel
theorem dX12_numberAt_144 : decode cX12_numberAt 144 = .ok (.return_, 1) := by decide +kernel
theorem w_2745 : Cond.methodLink RX12 700 Lib.Math.max.name ∈ tb := tbc_11 142 (by decide +kernel) rfl
