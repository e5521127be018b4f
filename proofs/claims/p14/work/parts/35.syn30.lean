theorem dX8_isDigit_0 : decode cX8_isDigit 0 = .ok (.iload_n 0, 1) := by decide +kernel
theorem dX8_isDigit_1 : decode cX8_isDigit 1 = .ok (.bipush 48, 2) := by decide +kernel
theorem dX8_isDigit_3 : decode cX8_isDigit 3 = .ok (.if_icmp .lt 13, 3) := by decide +kernel
theorem dX8_isDigit_6 : decode cX8_isDigit 6 = .ok (.iload_n 0, 1) := by decide +kernel
theorem dX8_isDigit_7 : decode cX8_isDigit 7 = .ok (.bipush 57, 2) := by decide +kernel
theorem dX8_isDigit_9 : decode cX8_isDigit 9 = .ok (.if_icmp .gt 7, 3) := by decide +kernel
theorem dX8_isDigit_12 : decode cX8_isDigit 12 = .ok (.iconst 1, 1) := by decide +kernel
theorem dX8_isDigit_13 : decode cX8_isDigit 13 = .ok (.goto 4, 3) := by decide +kernel
theorem dX8_isDigit_16 : decode cX8_isDigit 16 = .ok (.iconst 0, 1) := by decide +kernel
theorem dX8_isDigit_17 : decode cX8_isDigit 17 = .ok (.ireturn, 1) := by decide +kernel
theorem dX8_isLetter_0 : decode cX8_isLetter 0 = .ok (.iload_n 0, 1) := by decide +kernel
theorem dX8_isLetter_1 : decode cX8_isLetter 1 = .ok (.bipush 97, 2) := by decide +kernel
theorem dX8_isLetter_3 : decode cX8_isLetter 3 = .ok (.if_icmp .lt 9, 3) := by decide +kernel
theorem dX8_isLetter_6 : decode cX8_isLetter 6 = .ok (.iload_n 0, 1) := by decide +kernel
theorem dX8_isLetter_7 : decode cX8_isLetter 7 = .ok (.bipush 122, 2) := by decide +kernel
theorem dX8_isLetter_9 : decode cX8_isLetter 9 = .ok (.if_icmp .le 15, 3) := by decide +kernel
theorem dX8_isLetter_12 : decode cX8_isLetter 12 = .ok (.iload_n 0, 1) := by decide +kernel
theorem dX8_isLetter_13 : decode cX8_isLetter 13 = .ok (.bipush 65, 2) := by decide +kernel
theorem dX8_isLetter_15 : decode cX8_isLetter 15 = .ok (.if_icmp .lt 13, 3) := by decide +kernel
theorem dX8_isLetter_18 : decode cX8_isLetter 18 = .ok (.iload_n 0, 1) := by decide +kernel
theorem dX8_isLetter_19 : decode cX8_isLetter 19 = .ok (.bipush 90, 2) := by decide +kernel
theorem dX8_isLetter_21 : decode cX8_isLetter 21 = .ok (.if_icmp .gt 7, 3) := by decide +kernel
theorem dX8_isLetter_24 : decode cX8_isLetter 24 = .ok (.iconst 1, 1) := by decide +kernel
theorem dX8_isLetter_25 : decode cX8_isLetter 25 = .ok (.goto 4, 3) := by decide +kernel
theorem dX8_isLetter_28 : decode cX8_isLetter 28 = .ok (.iconst 0, 1) := by decide +kernel
theorem dX8_isLetter_29 : decode cX8_isLetter 29 = .ok (.ireturn, 1) := by decide +kernel
theorem dX8_isNamePart_0 : decode cX8_isNamePart 0 = .ok (.iload_n 0, 1) := by decide +kernel
theorem dX8_isNamePart_1 : decode cX8_isNamePart 1 = .ok (.invokestatic 56, 3) := by decide +kernel
theorem dX8_isNamePart_4 : decode cX8_isNamePart 4 = .ok (.ifCond .ne 10, 3) := by decide +kernel
theorem dX8_isNamePart_7 : decode cX8_isNamePart 7 = .ok (.iload_n 0, 1) := by decide +kernel
theorem dX8_isNamePart_8 : decode cX8_isNamePart 8 = .ok (.invokestatic 63, 3) := by decide +kernel
theorem dX8_isNamePart_11 : decode cX8_isNamePart 11 = .ok (.ifCond .eq 7, 3) := by decide +kernel
theorem dX8_isNamePart_14 : decode cX8_isNamePart 14 = .ok (.iconst 1, 1) := by decide +kernel
theorem dX8_isNamePart_15 : decode cX8_isNamePart 15 = .ok (.goto 4, 3) := by decide +kernel
theorem dX8_isNamePart_18 : decode cX8_isNamePart 18 = .ok (.iconst 0, 1) := by decide +kernel
theorem dX8_isNamePart_19 : decode cX8_isNamePart 19 = .ok (.ireturn, 1) := by decide +kernel
theorem dX8_scan_0 : decode cX8_scan 0 = .ok (.aload_n 0, 1) := by decide +kernel
theorem dX8_scan_1 : decode cX8_scan 1 = .ok (.iconst 0, 1) := by decide +kernel
theorem dX8_scan_2 : decode cX8_scan 2 = .ok (.putfield 22, 3) := by decide +kernel
theorem dX8_scan_5 : decode cX8_scan 5 = .ok (.aload_n 1, 1) := by decide +kernel
theorem dX8_scan_6 : decode cX8_scan 6 = .ok (.invokevirtual 33, 3) := by decide +kernel
theorem dX8_scan_9 : decode cX8_scan 9 = .ok (.sipush 2000, 3) := by decide +kernel
theorem dX8_scan_12 : decode cX8_scan 12 = .ok (.invokestatic 39, 3) := by decide +kernel
theorem dX8_scan_15 : decode cX8_scan 15 = .ok (.istore_n 2, 1) := by decide +kernel
theorem dX8_scan_16 : decode cX8_scan 16 = .ok (.iconst 0, 1) := by decide +kernel
theorem dX8_scan_17 : decode cX8_scan 17 = .ok (.istore_n 3, 1) := by decide +kernel
theorem dX8_scan_18 : decode cX8_scan 18 = .ok (.iconst 0, 1) := by decide +kernel
theorem dX8_scan_19 : decode cX8_scan 19 = .ok (.istore 4, 2) := by decide +kernel
theorem dX8_scan_21 : decode cX8_scan 21 = .ok (.iload 4, 2) := by decide +kernel
theorem dX8_scan_23 : decode cX8_scan 23 = .ok (.sipush 2000, 3) := by decide +kernel
theorem dX8_scan_26 : decode cX8_scan 26 = .ok (.if_icmp .ge 44, 3) := by decide +kernel
theorem dX8_scan_29 : decode cX8_scan 29 = .ok (.iload_n 3, 1) := by decide +kernel
theorem dX8_scan_30 : decode cX8_scan 30 = .ok (.iload_n 2, 1) := by decide +kernel
theorem dX8_scan_31 : decode cX8_scan 31 = .ok (.if_icmp .ge 39, 3) := by decide +kernel
theorem dX8_scan_34 : decode cX8_scan 34 = .ok (.aload_n 0, 1) := by decide +kernel
theorem dX8_scan_35 : decode cX8_scan 35 = .ok (.aload_n 1, 1) := by decide +kernel
theorem dX8_scan_36 : decode cX8_scan 36 = .ok (.iload_n 3, 1) := by decide +kernel
theorem dX8_scan_37 : decode cX8_scan 37 = .ok (.invokevirtual 45, 3) := by decide +kernel
theorem dX8_scan_40 : decode cX8_scan 40 = .ok (.istore_n 3, 1) := by decide +kernel
theorem dX8_scan_41 : decode cX8_scan 41 = .ok (.aload_n 0, 1) := by decide +kernel
theorem dX8_scan_42 : decode cX8_scan 42 = .ok (.getfield 22, 3) := by decide +kernel
theorem dX8_scan_45 : decode cX8_scan 45 = .ok (.ifCond .le 19, 3) := by decide +kernel
theorem dX8_scan_48 : decode cX8_scan 48 = .ok (.aload_n 0, 1) := by decide +kernel
theorem dX8_scan_49 : decode cX8_scan 49 = .ok (.getfield 11, 3) := by decide +kernel
theorem dX8_scan_52 : decode cX8_scan 52 = .ok (.aload_n 0, 1) := by decide +kernel
theorem dX8_scan_53 : decode cX8_scan 53 = .ok (.getfield 22, 3) := by decide +kernel
theorem dX8_scan_56 : decode cX8_scan 56 = .ok (.iconst 1, 1) := by decide +kernel
theorem dX8_scan_57 : decode cX8_scan 57 = .ok (.isub, 1) := by decide +kernel
theorem dX8_scan_58 : decode cX8_scan 58 = .ok (.iaload, 1) := by decide +kernel
theorem dX8_scan_59 : decode cX8_scan 59 = .ok (.iconst 1, 1) := by decide +kernel
theorem dX8_scan_60 : decode cX8_scan 60 = .ok (.if_icmp .ne 4, 3) := by decide +kernel
theorem dX8_scan_63 : decode cX8_scan 63 = .ok (.return_, 1) := by decide +kernel
theorem dX8_scan_64 : decode cX8_scan 64 = .ok (.iinc 4 1, 3) := by decide +kernel
theorem dX8_scan_67 : decode cX8_scan 67 = .ok (.goto (-46), 3) := by decide +kernel
theorem dX8_scan_70 : decode cX8_scan 70 = .ok (.aload_n 0, 1) := by decide +kernel
theorem dX8_scan_71 : decode cX8_scan 71 = .ok (.iconst 0, 1) := by decide +kernel
theorem dX8_scan_72 : decode cX8_scan 72 = .ok (.iload_n 2, 1) := by decide +kernel
theorem dX8_scan_73 : decode cX8_scan 73 = .ok (.lconst 0, 1) := by decide +kernel
theorem dX8_scan_74 : decode cX8_scan 74 = .ok (.invokevirtual 49, 3) := by decide +kernel
theorem dX8_scan_77 : decode cX8_scan 77 = .ok (.return_, 1) := by decide +kernel
theorem dX8_scanName_0 : decode cX8_scanName 0 = .ok (.lconst 0, 1) := by decide +kernel
theorem dX8_scanName_1 : decode cX8_scanName 1 = .ok (.lstore_n 3, 1) := by decide +kernel
theorem dX8_scanName_2 : decode cX8_scanName 2 = .ok (.iload_n 2, 1) := by decide +kernel
theorem dX8_scanName_3 : decode cX8_scanName 3 = .ok (.istore 5, 2) := by decide +kernel
theorem dX8_scanName_5 : decode cX8_scanName 5 = .ok (.iload 5, 2) := by decide +kernel
theorem dX8_scanName_7 : decode cX8_scanName 7 = .ok (.sipush 2000, 3) := by decide +kernel
theorem dX8_scanName_10 : decode cX8_scanName 10 = .ok (.if_icmp .ge 34, 3) := by decide +kernel
theorem dX8_scanName_13 : decode cX8_scanName 13 = .ok (.aload_n 1, 1) := by decide +kernel
theorem dX8_scanName_14 : decode cX8_scanName 14 = .ok (.iload 5, 2) := by decide +kernel
theorem dX8_scanName_16 : decode cX8_scanName 16 = .ok (.invokevirtual 53, 3) := by decide +kernel
theorem dX8_scanName_19 : decode cX8_scanName 19 = .ok (.invokestatic 76, 3) := by decide +kernel
theorem dX8_scanName_22 : decode cX8_scanName 22 = .ok (.ifCond .eq 22, 3) := by decide +kernel
theorem dX8_scanName_25 : decode cX8_scanName 25 = .ok (.lload_n 3, 1) := by decide +kernel
theorem dX8_scanName_26 : decode cX8_scanName 26 = .ok (.bipush 8, 2) := by decide +kernel
theorem dX8_scanName_28 : decode cX8_scanName 28 = .ok (.lshl, 1) := by decide +kernel
theorem dX8_scanName_29 : decode cX8_scanName 29 = .ok (.aload_n 1, 1) := by decide +kernel
theorem dX8_scanName_30 : decode cX8_scanName 30 = .ok (.iload 5, 2) := by decide +kernel
theorem dX8_scanName_32 : decode cX8_scanName 32 = .ok (.invokevirtual 53, 3) := by decide +kernel
theorem dX8_scanName_35 : decode cX8_scanName 35 = .ok (.i2l, 1) := by decide +kernel
theorem dX8_scanName_36 : decode cX8_scanName 36 = .ok (.lor, 1) := by decide +kernel
theorem dX8_scanName_37 : decode cX8_scanName 37 = .ok (.lstore_n 3, 1) := by decide +kernel
theorem dX8_scanName_38 : decode cX8_scanName 38 = .ok (.iinc 5 1, 3) := by decide +kernel
theorem dX8_scanName_41 : decode cX8_scanName 41 = .ok (.goto (-36), 3) := by decide +kernel
theorem dX8_scanName_44 : decode cX8_scanName 44 = .ok (.iload 5, 2) := by decide +kernel
theorem dX8_scanName_46 : decode cX8_scanName 46 = .ok (.iload_n 2, 1) := by decide +kernel
theorem dX8_scanName_47 : decode cX8_scanName 47 = .ok (.isub, 1) := by decide +kernel
theorem dX8_scanName_48 : decode cX8_scanName 48 = .ok (.bipush 8, 2) := by decide +kernel
theorem dX8_scanName_50 : decode cX8_scanName 50 = .ok (.if_icmp .le 7, 3) := by decide +kernel
theorem dX8_scanName_53 : decode cX8_scanName 53 = .ok (.iconst 1, 1) := by decide +kernel
theorem dX8_scanName_54 : decode cX8_scanName 54 = .ok (.goto 4, 3) := by decide +kernel
theorem dX8_scanName_57 : decode cX8_scanName 57 = .ok (.iconst 2, 1) := by decide +kernel
theorem dX8_scanName_58 : decode cX8_scanName 58 = .ok (.istore 6, 2) := by decide +kernel
theorem dX8_scanName_60 : decode cX8_scanName 60 = .ok (.iconst 0, 1) := by decide +kernel
theorem dX8_scanName_61 : decode cX8_scanName 61 = .ok (.istore 7, 2) := by decide +kernel
theorem dX8_scanName_63 : decode cX8_scanName 63 = .ok (.iload 7, 2) := by decide +kernel
theorem dX8_scanName_65 : decode cX8_scanName 65 = .ok (.getstatic 79, 3) := by decide +kernel
theorem dX8_scanName_68 : decode cX8_scanName 68 = .ok (.arraylength, 1) := by decide +kernel
theorem dX8_scanName_69 : decode cX8_scanName 69 = .ok (.if_icmp .ge 32, 3) := by decide +kernel
theorem dX8_scanName_72 : decode cX8_scanName 72 = .ok (.iload 6, 2) := by decide +kernel
theorem dX8_scanName_74 : decode cX8_scanName 74 = .ok (.iconst 2, 1) := by decide +kernel
theorem dX8_scanName_75 : decode cX8_scanName 75 = .ok (.if_icmp .ne 20, 3) := by decide +kernel
theorem dX8_scanName_78 : decode cX8_scanName 78 = .ok (.lload_n 3, 1) := by decide +kernel
theorem dX8_scanName_79 : decode cX8_scanName 79 = .ok (.getstatic 79, 3) := by decide +kernel
theorem dX8_scanName_82 : decode cX8_scanName 82 = .ok (.iload 7, 2) := by decide +kernel
theorem dX8_scanName_84 : decode cX8_scanName 84 = .ok (.laload, 1) := by decide +kernel
theorem dX8_scanName_85 : decode cX8_scanName 85 = .ok (.lcmp, 1) := by decide +kernel
theorem dX8_scanName_86 : decode cX8_scanName 86 = .ok (.ifCond .ne 9, 3) := by decide +kernel
theorem dX8_scanName_89 : decode cX8_scanName 89 = .ok (.iconst 4, 1) := by decide +kernel
theorem dX8_scanName_90 : decode cX8_scanName 90 = .ok (.iload 7, 2) := by decide +kernel
theorem dX8_scanName_92 : decode cX8_scanName 92 = .ok (.iadd, 1) := by decide +kernel
theorem dX8_scanName_93 : decode cX8_scanName 93 = .ok (.istore 6, 2) := by decide +kernel
theorem dX8_scanName_95 : decode cX8_scanName 95 = .ok (.iinc 7 1, 3) := by decide +kernel
theorem dX8_scanName_98 : decode cX8_scanName 98 = .ok (.goto (-35), 3) := by decide +kernel
theorem dX8_scanName_101 : decode cX8_scanName 101 = .ok (.aload_n 0, 1) := by decide +kernel
theorem dX8_scanName_102 : decode cX8_scanName 102 = .ok (.iload 6, 2) := by decide +kernel
theorem dX8_scanName_104 : decode cX8_scanName 104 = .ok (.iload_n 2, 1) := by decide +kernel
theorem dX8_scanName_105 : decode cX8_scanName 105 = .ok (.lload_n 3, 1) := by decide +kernel
theorem dX8_scanName_106 : decode cX8_scanName 106 = .ok (.invokevirtual 49, 3) := by decide +kernel
theorem dX8_scanName_109 : decode cX8_scanName 109 = .ok (.iload 5, 2) := by decide +kernel
theorem dX8_scanName_111 : decode cX8_scanName 111 = .ok (.ireturn, 1) := by decide +kernel
theorem dX8_scanNumber_0 : decode cX8_scanNumber 0 = .ok (.iconst 0, 1) := by decide +kernel
theorem dX8_scanNumber_1 : decode cX8_scanNumber 1 = .ok (.istore_n 3, 1) := by decide +kernel
theorem dX8_scanNumber_2 : decode cX8_scanNumber 2 = .ok (.iload_n 2, 1) := by decide +kernel
theorem dX8_scanNumber_3 : decode cX8_scanNumber 3 = .ok (.istore 4, 2) := by decide +kernel
theorem dX8_scanNumber_5 : decode cX8_scanNumber 5 = .ok (.iload 4, 2) := by decide +kernel
theorem dX8_scanNumber_7 : decode cX8_scanNumber 7 = .ok (.sipush 2000, 3) := by decide +kernel
theorem dX8_scanNumber_10 : decode cX8_scanNumber 10 = .ok (.if_icmp .ge 36, 3) := by decide +kernel
theorem dX8_scanNumber_13 : decode cX8_scanNumber 13 = .ok (.aload_n 1, 1) := by decide +kernel
theorem dX8_scanNumber_14 : decode cX8_scanNumber 14 = .ok (.iload 4, 2) := by decide +kernel
theorem dX8_scanNumber_16 : decode cX8_scanNumber 16 = .ok (.invokevirtual 53, 3) := by decide +kernel
theorem dX8_scanNumber_19 : decode cX8_scanNumber 19 = .ok (.invokestatic 63, 3) := by decide +kernel
theorem dX8_scanNumber_22 : decode cX8_scanNumber 22 = .ok (.ifCond .eq 24, 3) := by decide +kernel
theorem dX8_scanNumber_25 : decode cX8_scanNumber 25 = .ok (.bipush 10, 2) := by decide +kernel
theorem dX8_scanNumber_27 : decode cX8_scanNumber 27 = .ok (.iload_n 3, 1) := by decide +kernel
theorem dX8_scanNumber_28 : decode cX8_scanNumber 28 = .ok (.imul, 1) := by decide +kernel
theorem dX8_scanNumber_29 : decode cX8_scanNumber 29 = .ok (.aload_n 1, 1) := by decide +kernel
theorem dX8_scanNumber_30 : decode cX8_scanNumber 30 = .ok (.iload 4, 2) := by decide +kernel
theorem dX8_scanNumber_32 : decode cX8_scanNumber 32 = .ok (.invokevirtual 53, 3) := by decide +kernel
theorem dX8_scanNumber_35 : decode cX8_scanNumber 35 = .ok (.iadd, 1) := by decide +kernel
theorem dX8_scanNumber_36 : decode cX8_scanNumber 36 = .ok (.bipush 48, 2) := by decide +kernel
theorem dX8_scanNumber_38 : decode cX8_scanNumber 38 = .ok (.isub, 1) := by decide +kernel
theorem dX8_scanNumber_39 : decode cX8_scanNumber 39 = .ok (.istore_n 3, 1) := by decide +kernel
theorem dX8_scanNumber_40 : decode cX8_scanNumber 40 = .ok (.iinc 4 1, 3) := by decide +kernel
theorem dX8_scanNumber_43 : decode cX8_scanNumber 43 = .ok (.goto (-38), 3) := by decide +kernel
theorem dX8_scanNumber_46 : decode cX8_scanNumber 46 = .ok (.iload 4, 2) := by decide +kernel
theorem dX8_scanNumber_48 : decode cX8_scanNumber 48 = .ok (.iload_n 2, 1) := by decide +kernel
theorem dX8_scanNumber_49 : decode cX8_scanNumber 49 = .ok (.isub, 1) := by decide +kernel
theorem dX8_scanNumber_50 : decode cX8_scanNumber 50 = .ok (.iconst 5, 1) := by decide +kernel
theorem dX8_scanNumber_51 : decode cX8_scanNumber 51 = .ok (.if_icmp .gt 15, 3) := by decide +kernel
theorem dX8_scanNumber_54 : decode cX8_scanNumber 54 = .ok (.aload_n 1, 1) := by decide +kernel
theorem dX8_scanNumber_55 : decode cX8_scanNumber 55 = .ok (.iload 4, 2) := by decide +kernel
theorem dX8_scanNumber_57 : decode cX8_scanNumber 57 = .ok (.invokevirtual 53, 3) := by decide +kernel
theorem dX8_scanNumber_60 : decode cX8_scanNumber 60 = .ok (.invokestatic 56, 3) := by decide +kernel
theorem dX8_scanNumber_63 : decode cX8_scanNumber 63 = .ok (.ifCond .eq 7, 3) := by decide +kernel
theorem dX8_scanNumber_66 : decode cX8_scanNumber 66 = .ok (.iconst 1, 1) := by decide +kernel
theorem dX8_scanNumber_67 : decode cX8_scanNumber 67 = .ok (.goto 4, 3) := by decide +kernel
theorem dX8_scanNumber_70 : decode cX8_scanNumber 70 = .ok (.iconst 0, 1) := by decide +kernel
theorem dX8_scanNumber_71 : decode cX8_scanNumber 71 = .ok (.istore 5, 2) := by decide +kernel
theorem dX8_scanNumber_73 : decode cX8_scanNumber 73 = .ok (.aload_n 0, 1) := by decide +kernel
theorem dX8_scanNumber_74 : decode cX8_scanNumber 74 = .ok (.iload 5, 2) := by decide +kernel
theorem dX8_scanNumber_76 : decode cX8_scanNumber 76 = .ok (.ifCond .eq 7, 3) := by decide +kernel
theorem dX8_scanNumber_79 : decode cX8_scanNumber 79 = .ok (.iconst 1, 1) := by decide +kernel
theorem dX8_scanNumber_80 : decode cX8_scanNumber 80 = .ok (.goto 4, 3) := by decide +kernel
theorem dX8_scanNumber_83 : decode cX8_scanNumber 83 = .ok (.iconst 3, 1) := by decide +kernel
theorem dX8_scanNumber_84 : decode cX8_scanNumber 84 = .ok (.iload_n 2, 1) := by decide +kernel
theorem dX8_scanNumber_85 : decode cX8_scanNumber 85 = .ok (.iload_n 3, 1) := by decide +kernel
theorem dX8_scanNumber_86 : decode cX8_scanNumber 86 = .ok (.i2l, 1) := by decide +kernel
theorem dX8_scanNumber_87 : decode cX8_scanNumber 87 = .ok (.invokevirtual 49, 3) := by decide +kernel
theorem dX8_scanNumber_90 : decode cX8_scanNumber 90 = .ok (.iload 4, 2) := by decide +kernel
theorem dX8_scanNumber_92 : decode cX8_scanNumber 92 = .ok (.ireturn, 1) := by decide +kernel
theorem dX8_scanOne_0 : decode cX8_scanOne 0 = .ok (.aload_n 1, 1) := by decide +kernel
theorem dX8_scanOne_1 : decode cX8_scanOne 1 = .ok (.iload_n 2, 1) := by decide +kernel
theorem dX8_scanOne_2 : decode cX8_scanOne 2 = .ok (.invokevirtual 53, 3) := by decide +kernel
theorem dX8_scanOne_5 : decode cX8_scanOne 5 = .ok (.istore_n 3, 1) := by decide +kernel
theorem dX8_scanOne_6 : decode cX8_scanOne 6 = .ok (.iload_n 3, 1) := by decide +kernel
theorem dX8_scanOne_7 : decode cX8_scanOne 7 = .ok (.bipush 32, 2) := by decide +kernel
theorem dX8_scanOne_9 : decode cX8_scanOne 9 = .ok (.if_icmp .eq 9, 3) := by decide +kernel
theorem dX8_scanOne_12 : decode cX8_scanOne 12 = .ok (.iload_n 3, 1) := by decide +kernel
theorem dX8_scanOne_13 : decode cX8_scanOne 13 = .ok (.bipush 10, 2) := by decide +kernel
theorem dX8_scanOne_15 : decode cX8_scanOne 15 = .ok (.if_icmp .ne 7, 3) := by decide +kernel
theorem dX8_scanOne_18 : decode cX8_scanOne 18 = .ok (.iload_n 2, 1) := by decide +kernel
theorem dX8_scanOne_19 : decode cX8_scanOne 19 = .ok (.iconst 1, 1) := by decide +kernel
theorem dX8_scanOne_20 : decode cX8_scanOne 20 = .ok (.iadd, 1) := by decide +kernel
theorem dX8_scanOne_21 : decode cX8_scanOne 21 = .ok (.ireturn, 1) := by decide +kernel
theorem dX8_scanOne_22 : decode cX8_scanOne 22 = .ok (.iload_n 3, 1) := by decide +kernel
theorem dX8_scanOne_23 : decode cX8_scanOne 23 = .ok (.invokestatic 56, 3) := by decide +kernel
theorem dX8_scanOne_26 : decode cX8_scanOne 26 = .ok (.ifCond .eq 10, 3) := by decide +kernel
theorem dX8_scanOne_29 : decode cX8_scanOne 29 = .ok (.aload_n 0, 1) := by decide +kernel
theorem dX8_scanOne_30 : decode cX8_scanOne 30 = .ok (.aload_n 1, 1) := by decide +kernel
theorem dX8_scanOne_31 : decode cX8_scanOne 31 = .ok (.iload_n 2, 1) := by decide +kernel
theorem dX8_scanOne_32 : decode cX8_scanOne 32 = .ok (.invokevirtual 60, 3) := by decide +kernel
theorem dX8_scanOne_35 : decode cX8_scanOne 35 = .ok (.ireturn, 1) := by decide +kernel
theorem dX8_scanOne_36 : decode cX8_scanOne 36 = .ok (.iload_n 3, 1) := by decide +kernel
theorem dX8_scanOne_37 : decode cX8_scanOne 37 = .ok (.invokestatic 63, 3) := by decide +kernel
theorem dX8_scanOne_40 : decode cX8_scanOne 40 = .ok (.ifCond .eq 10, 3) := by decide +kernel
theorem dX8_scanOne_43 : decode cX8_scanOne 43 = .ok (.aload_n 0, 1) := by decide +kernel
theorem dX8_scanOne_44 : decode cX8_scanOne 44 = .ok (.aload_n 1, 1) := by decide +kernel
theorem dX8_scanOne_45 : decode cX8_scanOne 45 = .ok (.iload_n 2, 1) := by decide +kernel
theorem dX8_scanOne_46 : decode cX8_scanOne 46 = .ok (.invokevirtual 66, 3) := by decide +kernel
theorem dX8_scanOne_49 : decode cX8_scanOne 49 = .ok (.ireturn, 1) := by decide +kernel
theorem dX8_scanOne_50 : decode cX8_scanOne 50 = .ok (.aload_n 1, 1) := by decide +kernel
theorem dX8_scanOne_51 : decode cX8_scanOne 51 = .ok (.iload_n 2, 1) := by decide +kernel
theorem dX8_scanOne_52 : decode cX8_scanOne 52 = .ok (.iconst 1, 1) := by decide +kernel
theorem dX8_scanOne_53 : decode cX8_scanOne 53 = .ok (.iadd, 1) := by decide +kernel
theorem dX8_scanOne_54 : decode cX8_scanOne 54 = .ok (.invokevirtual 53, 3) := by decide +kernel
theorem dX8_scanOne_57 : decode cX8_scanOne 57 = .ok (.iload_n 3, 1) := by decide +kernel
theorem dX8_scanOne_58 : decode cX8_scanOne 58 = .ok (.bipush 46, 2) := by decide +kernel
theorem dX8_scanOne_60 : decode cX8_scanOne 60 = .ok (.if_icmp .ne 8, 3) := by decide +kernel
theorem dX8_scanOne_63 : decode cX8_scanOne 63 = .ok (.bipush 46, 2) := by decide +kernel
theorem dX8_scanOne_65 : decode cX8_scanOne 65 = .ok (.goto 5, 3) := by decide +kernel
theorem dX8_scanOne_68 : decode cX8_scanOne 68 = .ok (.bipush 61, 2) := by decide +kernel
theorem dX8_scanOne_70 : decode cX8_scanOne 70 = .ok (.if_icmp .ne 7, 3) := by decide +kernel
theorem dX8_scanOne_73 : decode cX8_scanOne 73 = .ok (.iconst 1, 1) := by decide +kernel
theorem dX8_scanOne_74 : decode cX8_scanOne 74 = .ok (.goto 4, 3) := by decide +kernel
theorem dX8_scanOne_77 : decode cX8_scanOne 77 = .ok (.iconst 0, 1) := by decide +kernel
theorem dX8_scanOne_78 : decode cX8_scanOne 78 = .ok (.istore 4, 2) := by decide +kernel
theorem dX8_scanOne_80 : decode cX8_scanOne 80 = .ok (.iload 4, 2) := by decide +kernel
theorem dX8_scanOne_82 : decode cX8_scanOne 82 = .ok (.ifCond .eq 55, 3) := by decide +kernel
theorem dX8_scanOne_85 : decode cX8_scanOne 85 = .ok (.iload_n 3, 1) := by decide +kernel
theorem dX8_scanOne_86 : decode cX8_scanOne 86 = .ok (.bipush 46, 2) := by decide +kernel
theorem dX8_scanOne_88 : decode cX8_scanOne 88 = .ok (.if_icmp .eq 15, 3) := by decide +kernel
theorem dX8_scanOne_91 : decode cX8_scanOne 91 = .ok (.iload_n 3, 1) := by decide +kernel
theorem dX8_scanOne_92 : decode cX8_scanOne 92 = .ok (.bipush 60, 2) := by decide +kernel
theorem dX8_scanOne_94 : decode cX8_scanOne 94 = .ok (.if_icmp .eq 9, 3) := by decide +kernel
theorem dX8_scanOne_97 : decode cX8_scanOne 97 = .ok (.iload_n 3, 1) := by decide +kernel
theorem dX8_scanOne_98 : decode cX8_scanOne 98 = .ok (.bipush 62, 2) := by decide +kernel
theorem dX8_scanOne_100 : decode cX8_scanOne 100 = .ok (.if_icmp .ne 37, 3) := by decide +kernel
theorem dX8_scanOne_103 : decode cX8_scanOne 103 = .ok (.aload_n 0, 1) := by decide +kernel
theorem dX8_scanOne_104 : decode cX8_scanOne 104 = .ok (.iload_n 3, 1) := by decide +kernel
theorem dX8_scanOne_105 : decode cX8_scanOne 105 = .ok (.bipush 46, 2) := by decide +kernel
theorem dX8_scanOne_107 : decode cX8_scanOne 107 = .ok (.if_icmp .ne 8, 3) := by decide +kernel
theorem dX8_scanOne_110 : decode cX8_scanOne 110 = .ok (.bipush 14, 2) := by decide +kernel
theorem dX8_scanOne_112 : decode cX8_scanOne 112 = .ok (.goto 16, 3) := by decide +kernel
theorem dX8_scanOne_115 : decode cX8_scanOne 115 = .ok (.iload_n 3, 1) := by decide +kernel
theorem dX8_scanOne_116 : decode cX8_scanOne 116 = .ok (.bipush 60, 2) := by decide +kernel
theorem dX8_scanOne_118 : decode cX8_scanOne 118 = .ok (.if_icmp .ne 8, 3) := by decide +kernel
theorem dX8_scanOne_121 : decode cX8_scanOne 121 = .ok (.bipush 25, 2) := by decide +kernel
theorem dX8_scanOne_123 : decode cX8_scanOne 123 = .ok (.goto 5, 3) := by decide +kernel
theorem dX8_scanOne_126 : decode cX8_scanOne 126 = .ok (.bipush 26, 2) := by decide +kernel
theorem dX8_scanOne_128 : decode cX8_scanOne 128 = .ok (.iload_n 2, 1) := by decide +kernel
theorem dX8_scanOne_129 : decode cX8_scanOne 129 = .ok (.lconst 0, 1) := by decide +kernel
theorem dX8_scanOne_130 : decode cX8_scanOne 130 = .ok (.invokevirtual 49, 3) := by decide +kernel
theorem dX8_scanOne_133 : decode cX8_scanOne 133 = .ok (.iload_n 2, 1) := by decide +kernel
theorem dX8_scanOne_134 : decode cX8_scanOne 134 = .ok (.iconst 2, 1) := by decide +kernel
theorem dX8_scanOne_135 : decode cX8_scanOne 135 = .ok (.iadd, 1) := by decide +kernel
theorem dX8_scanOne_136 : decode cX8_scanOne 136 = .ok (.ireturn, 1) := by decide +kernel
theorem dX8_scanOne_137 : decode cX8_scanOne 137 = .ok (.iload_n 3, 1) := by decide +kernel
theorem dX8_scanOne_138 : decode cX8_scanOne 138 = .ok (.sipush 128, 3) := by decide +kernel
theorem dX8_scanOne_141 : decode cX8_scanOne 141 = .ok (.if_icmp .ge 13, 3) := by decide +kernel
theorem dX8_scanOne_144 : decode cX8_scanOne 144 = .ok (.ldc 69, 2) := by decide +kernel
theorem dX8_scanOne_146 : decode cX8_scanOne 146 = .ok (.iload_n 3, 1) := by decide +kernel
theorem dX8_scanOne_147 : decode cX8_scanOne 147 = .ok (.i2c, 1) := by decide +kernel
theorem dX8_scanOne_148 : decode cX8_scanOne 148 = .ok (.invokevirtual 71, 3) := by decide +kernel
theorem dX8_scanOne_151 : decode cX8_scanOne 151 = .ok (.goto 4, 3) := by decide +kernel
theorem dX8_scanOne_154 : decode cX8_scanOne 154 = .ok (.iconst (-1), 1) := by decide +kernel
theorem dX8_scanOne_155 : decode cX8_scanOne 155 = .ok (.istore 5, 2) := by decide +kernel
theorem dX8_scanOne_157 : decode cX8_scanOne 157 = .ok (.aload_n 0, 1) := by decide +kernel
theorem dX8_scanOne_158 : decode cX8_scanOne 158 = .ok (.iload_n 3, 1) := by decide +kernel
theorem dX8_scanOne_159 : decode cX8_scanOne 159 = .ok (.bipush 61, 2) := by decide +kernel
theorem dX8_scanOne_161 : decode cX8_scanOne 161 = .ok (.if_icmp .ne 8, 3) := by decide +kernel
theorem dX8_scanOne_164 : decode cX8_scanOne 164 = .ok (.bipush 13, 2) := by decide +kernel
theorem dX8_scanOne_166 : decode cX8_scanOne 166 = .ok (.goto 17, 3) := by decide +kernel
theorem dX8_scanOne_169 : decode cX8_scanOne 169 = .ok (.iload 5, 2) := by decide +kernel
theorem dX8_scanOne_171 : decode cX8_scanOne 171 = .ok (.ifCond .lt 11, 3) := by decide +kernel
theorem dX8_scanOne_174 : decode cX8_scanOne 174 = .ok (.bipush 15, 2) := by decide +kernel
theorem dX8_scanOne_176 : decode cX8_scanOne 176 = .ok (.iload 5, 2) := by decide +kernel
theorem dX8_scanOne_178 : decode cX8_scanOne 178 = .ok (.iadd, 1) := by decide +kernel
theorem dX8_scanOne_179 : decode cX8_scanOne 179 = .ok (.goto 4, 3) := by decide +kernel
theorem dX8_scanOne_182 : decode cX8_scanOne 182 = .ok (.iconst 1, 1) := by decide +kernel
theorem dX8_scanOne_183 : decode cX8_scanOne 183 = .ok (.iload_n 2, 1) := by decide +kernel
theorem dX8_scanOne_184 : decode cX8_scanOne 184 = .ok (.lconst 0, 1) := by decide +kernel
theorem dX8_scanOne_185 : decode cX8_scanOne 185 = .ok (.invokevirtual 49, 3) := by decide +kernel
theorem dX8_scanOne_188 : decode cX8_scanOne 188 = .ok (.iload_n 2, 1) := by decide +kernel
theorem dX8_scanOne_189 : decode cX8_scanOne 189 = .ok (.iconst 1, 1) := by decide +kernel
theorem dX8_scanOne_190 : decode cX8_scanOne 190 = .ok (.iadd, 1) := by decide +kernel
theorem dX8_scanOne_191 : decode cX8_scanOne 191 = .ok (.ireturn, 1) := by decide +kernel
theorem dX8_token_0 : decode cX8_token 0 = .ok (.aload_n 0, 1) := by decide +kernel
theorem dX8_token_1 : decode cX8_token 1 = .ok (.getfield 22, 3) := by decide +kernel
theorem dX8_token_4 : decode cX8_token 4 = .ok (.aload_n 0, 1) := by decide +kernel
theorem dX8_token_5 : decode cX8_token 5 = .ok (.getfield 11, 3) := by decide +kernel
theorem dX8_token_8 : decode cX8_token 8 = .ok (.arraylength, 1) := by decide +kernel
theorem dX8_token_9 : decode cX8_token 9 = .ok (.if_icmp .ge 43, 3) := by decide +kernel
theorem dX8_token_12 : decode cX8_token 12 = .ok (.aload_n 0, 1) := by decide +kernel
theorem dX8_token_13 : decode cX8_token 13 = .ok (.getfield 11, 3) := by decide +kernel
theorem dX8_token_16 : decode cX8_token 16 = .ok (.aload_n 0, 1) := by decide +kernel
theorem dX8_token_17 : decode cX8_token 17 = .ok (.getfield 22, 3) := by decide +kernel
theorem dX8_token_20 : decode cX8_token 20 = .ok (.iload_n 1, 1) := by decide +kernel
theorem dX8_token_21 : decode cX8_token 21 = .ok (.iastore, 1) := by decide +kernel
theorem dX8_token_22 : decode cX8_token 22 = .ok (.aload_n 0, 1) := by decide +kernel
theorem dX8_token_23 : decode cX8_token 23 = .ok (.getfield 15, 3) := by decide +kernel
theorem dX8_token_26 : decode cX8_token 26 = .ok (.aload_n 0, 1) := by decide +kernel
theorem dX8_token_27 : decode cX8_token 27 = .ok (.getfield 22, 3) := by decide +kernel
theorem dX8_token_30 : decode cX8_token 30 = .ok (.iload_n 2, 1) := by decide +kernel
theorem dX8_token_31 : decode cX8_token 31 = .ok (.iastore, 1) := by decide +kernel
theorem dX8_token_32 : decode cX8_token 32 = .ok (.aload_n 0, 1) := by decide +kernel
theorem dX8_token_33 : decode cX8_token 33 = .ok (.getfield 18, 3) := by decide +kernel
theorem dX8_token_36 : decode cX8_token 36 = .ok (.aload_n 0, 1) := by decide +kernel
theorem dX8_token_37 : decode cX8_token 37 = .ok (.getfield 22, 3) := by decide +kernel
theorem dX8_token_40 : decode cX8_token 40 = .ok (.lload_n 3, 1) := by decide +kernel
theorem dX8_token_41 : decode cX8_token 41 = .ok (.lastore, 1) := by decide +kernel
theorem dX8_token_42 : decode cX8_token 42 = .ok (.aload_n 0, 1) := by decide +kernel
theorem dX8_token_43 : decode cX8_token 43 = .ok (.dup, 1) := by decide +kernel
theorem dX8_token_44 : decode cX8_token 44 = .ok (.getfield 22, 3) := by decide +kernel
theorem dX8_token_47 : decode cX8_token 47 = .ok (.iconst 1, 1) := by decide +kernel
theorem dX8_token_48 : decode cX8_token 48 = .ok (.iadd, 1) := by decide +kernel
theorem dX8_token_49 : decode cX8_token 49 = .ok (.putfield 22, 3) := by decide +kernel
theorem dX8_token_52 : decode cX8_token 52 = .ok (.return_, 1) := by decide +kernel
theorem w_0 : Cond.selects RX8 yX8_scanOne yX8_scanOne ∈ tb := sel_1 (q := (yX8_scanOne, 5)) 0 (by decide +kernel)
theorem w_1 : Cond.selects RX8 yX8_scanName yX8_scanName ∈ tb := sel_1 (q := (yX8_scanName, 5)) 1 (by decide +kernel)
theorem w_2 : Cond.selects RX8 yX8_token yX8_token ∈ tb := sel_1 (q := (yX8_token, 5)) 2 (by decide +kernel)
theorem w_3 : Cond.selects RX8 yX8_scanNumber yX8_scanNumber ∈ tb := sel_1 (q := (yX8_scanNumber, 5)) 3 (by decide +kernel)
theorem w_743 : Cond.instanceMethod yX10_length ∈ tb := tbc_3 60 (by decide +kernel) rfl
theorem w_744 : Cond.selects RX10 yX10_length yX10_length ∈ tb := tbc_3 61 (by decide +kernel) rfl
theorem w_745 : Cond.code yX10_length cX10_length 1 (some .int) ∈ tb := tbc_3 62 (by decide +kernel) rfl
theorem w_775 : Cond.methodLink RX8 33 yX10_length ∈ tb := tbc_3 92 (by decide +kernel) rfl
theorem w_776 : Cond.methodLink RX8 39 Lib.Math.min.name ∈ tb := tbc_3 93 (by decide +kernel) rfl
theorem w_779 : Cond.methodLink RX8 45 yX8_scanOne ∈ tb := tbc_3 96 (by decide +kernel) rfl
theorem w_781 : Cond.instanceMethod yX8_scanOne ∈ tb := tbc_3 98 (by decide +kernel) rfl
theorem w_782 : Cond.code yX8_scanOne cX8_scanOne 6 (some .int) ∈ tb := tbc_3 99 (by decide +kernel) rfl
theorem w_783 : Cond.methodLink RX8 53 yX10_byteAt ∈ tb := tbc_3 100 (by decide +kernel) rfl
theorem w_787 : Cond.methodLink RX8 56 yX8_isLetter ∈ tb := tbc_3 104 (by decide +kernel) rfl
theorem w_788 : Cond.static yX8_isLetter ∈ tb := tbc_3 105 (by decide +kernel) rfl
theorem w_789 : Cond.code yX8_isLetter cX8_isLetter 1 (some .boolean) ∈ tb := tbc_3 106 (by decide +kernel) rfl
theorem w_790 : Cond.methodLink RX8 60 yX8_scanName ∈ tb := tbc_3 107 (by decide +kernel) rfl
theorem w_792 : Cond.instanceMethod yX8_scanName ∈ tb := tbc_3 109 (by decide +kernel) rfl
theorem w_793 : Cond.code yX8_scanName cX8_scanName 8 (some .int) ∈ tb := tbc_3 110 (by decide +kernel) rfl
theorem w_794 : Cond.methodLink RX8 76 yX8_isNamePart ∈ tb := tbc_3 111 (by decide +kernel) rfl
theorem w_795 : Cond.static yX8_isNamePart ∈ tb := tbc_3 112 (by decide +kernel) rfl
theorem w_796 : Cond.code yX8_isNamePart cX8_isNamePart 1 (some .boolean) ∈ tb := tbc_3 113 (by decide +kernel) rfl
theorem w_797 : Cond.methodLink RX8 63 yX8_isDigit ∈ tb := tbc_3 114 (by decide +kernel) rfl
theorem w_798 : Cond.static yX8_isDigit ∈ tb := tbc_3 115 (by decide +kernel) rfl
theorem w_799 : Cond.code yX8_isDigit cX8_isDigit 1 (some .boolean) ∈ tb := tbc_3 116 (by decide +kernel) rfl
theorem w_800 : Cond.fieldLink RX8 79 "OptimumHouse$Syntax" "WORDS" "[J" ∈ tb := tbc_3 117 (by decide +kernel) rfl
theorem w_802 : Cond.methodLink RX8 49 yX8_token ∈ tb := tbc_3 119 (by decide +kernel) rfl
theorem w_804 : Cond.instanceMethod yX8_token ∈ tb := tbc_3 121 (by decide +kernel) rfl
theorem w_805 : Cond.code yX8_token cX8_token 5 none ∈ tb := tbc_3 122 (by decide +kernel) rfl
theorem w_806 : Cond.methodLink RX8 66 yX8_scanNumber ∈ tb := tbc_3 123 (by decide +kernel) rfl
theorem w_808 : Cond.instanceMethod yX8_scanNumber ∈ tb := tbc_3 125 (by decide +kernel) rfl
theorem w_809 : Cond.code yX8_scanNumber cX8_scanNumber 6 (some .int) ∈ tb := tbc_3 126 (by decide +kernel) rfl
theorem w_811 : Cond.methodLink RX8 71 yJ0_indexOf_0f7a4 ∈ tb := tbc_3 128 (by decide +kernel) rfl
theorem w_812 : Cond.instanceMethod yJ0_indexOf_0f7a4 ∈ tb := tbc_3 129 (by decide +kernel) rfl
theorem w_813 : Cond.selects RJ0 yJ0_indexOf_0f7a4 yJ0_indexOf_0f7a4 ∈ tb := tbc_3 130 (by decide +kernel) rfl
theorem w_814 : Cond.code yJ0_indexOf_0f7a4 cJ0_indexOf_0f7a4 2 (some .int) ∈ tb := tbc_3 131 (by decide +kernel) rfl
section RW35
variable {p : Program} {l : Launch} {e : Env} {R : Room} {s : State} {m : MethodId} {args : Array Value} {below : List Frame} {meth : Method} {c : Code} {H : Heap} {locs : List Loc} {cells slots : Nat} {Q : State → Prop}
variable {cc : ByteArray} {pc nL : Nat} {ls : Array Slot} {rest st0 : List Value} {G : sG} {n : Nat} {S : sS}
theorem c_X8_56 (Cx : sC G p m c cc nL s args RX8) {rm : Room} {mc ms : Nat} (h1 : rm.cells = mc) (h2 : rm.slots = ms) (h3 : rm.frames + 1 ≤ R.frames ∧ 8 + (1 + 11) + rm.locals ≤ R.locals) : CallB R s args RX8 56 yX8_isLetter cX8_isLetter 1 (some .boolean) (.code yX8_isLetter cX8_isLetter 1 (some .boolean) :: tb) rm mc ms 1 ∧ (Cond.static yX8_isLetter).before args s = true :=
  sCS Cx 1 w_787 w_788 w_209 w_789 (by decide +kernel) h1 h2 h3
theorem c_X8_63 (Cx : sC G p m c cc nL s args RX8) {rm : Room} {mc ms : Nat} (h1 : rm.cells = mc) (h2 : rm.slots = ms) (h3 : rm.frames + 1 ≤ R.frames ∧ 8 + (1 + 11) + rm.locals ≤ R.locals) : CallB R s args RX8 63 yX8_isDigit cX8_isDigit 1 (some .boolean) (.code yX8_isDigit cX8_isDigit 1 (some .boolean) :: tb) rm mc ms 1 ∧ (Cond.static yX8_isDigit).before args s = true :=
  sCS Cx 1 w_797 w_798 w_209 w_799 (by decide +kernel) h1 h2 h3
theorem p_X8_22 (Cx : sC G p m c cc nL s args RX8) (hW : sW G n S H) (hL : sL G locs) {k : Nat} (hk : k < n) (ht : tau k = .inl 8) {v : Int} (hdg : decode cc pc = .ok (.putfield 22, 3)) (kk : ∀ (H1 : Heap) (locs1 : List Loc), sW G n (uF S k 3 v) H1 → sL G locs1 → W p l e R s m args below meth c H1 locs1 cells slots Q (F0 m (pc + 3) ls rest)) : W p l e R s m args below meth c H locs cells slots Q (F0 m pc ls (.int (iv v) :: .ref (G.2.2.1 + k) :: rest)) :=
  sPut Cx inX8 tyX8 tyX8_ok nmX8 rfl 3 (by decide) w_311 rfl hW hL hk ht rfl rfl (fun _ h => uF_same h) (fun _ h => uF_off h) (congrArg (fun z => Value.int (iv z)) uF_on) hdg kk
theorem c_X8_49 (Cx : sC G p m c cc nL s args RX8) {rm : Room} {mc ms : Nat} (h1 : rm.cells = mc) (h2 : rm.slots = ms) (h3 : rm.frames + 1 ≤ R.frames ∧ 8 + (5 + 11) + rm.locals ≤ R.locals) : CallW R s args RX8 RX8 49 yX8_token cX8_token 5 none (.code yX8_token cX8_token 5 none :: tb) rm mc ms 3 :=
  sCw Cx 3 w_802 w_804 w_2 w_209 w_805 (by decide +kernel) h1 h2 h3
theorem c_X8_53 (Cx : sC G p m c cc nL s args RX8) {rm : Room} {mc ms : Nat} (h1 : rm.cells = mc) (h2 : rm.slots = ms) (h3 : rm.frames + 1 ≤ R.frames ∧ 8 + (2 + 11) + rm.locals ≤ R.locals) : CallW R s args RX8 RX10 53 yX10_byteAt cX10_byteAt 2 (some .int) (.code yX10_byteAt cX10_byteAt 2 (some .int) :: tb) rm mc ms 1 :=
  sCw Cx 1 w_783 w_784 w_785 w_205 w_786 (by decide +kernel) h1 h2 h3
theorem c_X8_76 (Cx : sC G p m c cc nL s args RX8) {rm : Room} {mc ms : Nat} (h1 : rm.cells = mc) (h2 : rm.slots = ms) (h3 : rm.frames + 1 ≤ R.frames ∧ 8 + (1 + 11) + rm.locals ≤ R.locals) : CallB R s args RX8 76 yX8_isNamePart cX8_isNamePart 1 (some .boolean) (.code yX8_isNamePart cX8_isNamePart 1 (some .boolean) :: tb) rm mc ms 1 ∧ (Cond.static yX8_isNamePart).before args s = true :=
  sCS Cx 1 w_794 w_795 w_209 w_796 (by decide +kernel) h1 h2 h3
theorem c_X8_71 (Cx : sC G p m c cc nL s args RX8) {rm : Room} {mc ms : Nat} (h1 : rm.cells = mc) (h2 : rm.slots = ms) (h3 : rm.frames + 1 ≤ R.frames ∧ 8 + (2 + 11) + rm.locals ≤ R.locals) : CallW R s args RX8 RJ0 71 yJ0_indexOf_0f7a4 cJ0_indexOf_0f7a4 2 (some .int) (.code yJ0_indexOf_0f7a4 cJ0_indexOf_0f7a4 2 (some .int) :: tb) rm mc ms 1 :=
  sCw Cx 1 w_811 w_812 w_813 w_218 w_814 (by decide +kernel) h1 h2 h3
theorem c_X8_66 (Cx : sC G p m c cc nL s args RX8) {rm : Room} {mc ms : Nat} (h1 : rm.cells = mc) (h2 : rm.slots = ms) (h3 : rm.frames + 1 ≤ R.frames ∧ 8 + (6 + 11) + rm.locals ≤ R.locals) : CallW R s args RX8 RX8 66 yX8_scanNumber cX8_scanNumber 6 (some .int) (.code yX8_scanNumber cX8_scanNumber 6 (some .int) :: tb) rm mc ms 2 :=
  sCw Cx 2 w_806 w_808 w_3 w_209 w_809 (by decide +kernel) h1 h2 h3
theorem c_X8_60 (Cx : sC G p m c cc nL s args RX8) {rm : Room} {mc ms : Nat} (h1 : rm.cells = mc) (h2 : rm.slots = ms) (h3 : rm.frames + 1 ≤ R.frames ∧ 8 + (8 + 11) + rm.locals ≤ R.locals) : CallW R s args RX8 RX8 60 yX8_scanName cX8_scanName 8 (some .int) (.code yX8_scanName cX8_scanName 8 (some .int) :: tb) rm mc ms 2 :=
  sCw Cx 2 w_790 w_792 w_1 w_209 w_793 (by decide +kernel) h1 h2 h3
theorem c_X8_33 (Cx : sC G p m c cc nL s args RX8) {rm : Room} {mc ms : Nat} (h1 : rm.cells = mc) (h2 : rm.slots = ms) (h3 : rm.frames + 1 ≤ R.frames ∧ 8 + (1 + 11) + rm.locals ≤ R.locals) : CallW R s args RX8 RX10 33 yX10_length cX10_length 1 (some .int) (.code yX10_length cX10_length 1 (some .int) :: tb) rm mc ms 0 :=
  sCw Cx 0 w_775 w_743 w_744 w_205 w_745 (by decide +kernel) h1 h2 h3
theorem c_X8_45 (Cx : sC G p m c cc nL s args RX8) {rm : Room} {mc ms : Nat} (h1 : rm.cells = mc) (h2 : rm.slots = ms) (h3 : rm.frames + 1 ≤ R.frames ∧ 8 + (6 + 11) + rm.locals ≤ R.locals) : CallW R s args RX8 RX8 45 yX8_scanOne cX8_scanOne 6 (some .int) (.code yX8_scanOne cX8_scanOne 6 (some .int) :: tb) rm mc ms 2 :=
  sCw Cx 2 w_779 w_781 w_0 w_209 w_782 (by decide +kernel) h1 h2 h3
end RW35
