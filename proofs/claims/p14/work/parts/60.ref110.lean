theorem dX12_dropPlace_0 : decode cX12_dropPlace 0 = .ok (.iconst 0, 1) := by decide +kernel
theorem dX12_dropPlace_1 : decode cX12_dropPlace 1 = .ok (.istore_n 1, 1) := by decide +kernel
theorem dX12_dropPlace_2 : decode cX12_dropPlace 2 = .ok (.iconst 1, 1) := by decide +kernel
theorem dX12_dropPlace_3 : decode cX12_dropPlace 3 = .ok (.istore_n 2, 1) := by decide +kernel
theorem dX12_dropPlace_4 : decode cX12_dropPlace 4 = .ok (.iload_n 2, 1) := by decide +kernel
theorem dX12_dropPlace_5 : decode cX12_dropPlace 5 = .ok (.aload_n 0, 1) := by decide +kernel
theorem dX12_dropPlace_6 : decode cX12_dropPlace 6 = .ok (.getfield 526, 3) := by decide +kernel
theorem dX12_dropPlace_9 : decode cX12_dropPlace 9 = .ok (.if_icmp .gt 20, 3) := by decide +kernel
theorem dX12_dropPlace_12 : decode cX12_dropPlace 12 = .ok (.aload_n 0, 1) := by decide +kernel
theorem dX12_dropPlace_13 : decode cX12_dropPlace 13 = .ok (.getfield 115, 3) := by decide +kernel
theorem dX12_dropPlace_16 : decode cX12_dropPlace 16 = .ok (.iload_n 2, 1) := by decide +kernel
theorem dX12_dropPlace_17 : decode cX12_dropPlace 17 = .ok (.iaload, 1) := by decide +kernel
theorem dX12_dropPlace_18 : decode cX12_dropPlace 18 = .ok (.ifCond .ne 5, 3) := by decide +kernel
theorem dX12_dropPlace_21 : decode cX12_dropPlace 21 = .ok (.iload_n 2, 1) := by decide +kernel
theorem dX12_dropPlace_22 : decode cX12_dropPlace 22 = .ok (.istore_n 1, 1) := by decide +kernel
theorem dX12_dropPlace_23 : decode cX12_dropPlace 23 = .ok (.iinc 2 1, 3) := by decide +kernel
theorem dX12_dropPlace_26 : decode cX12_dropPlace 26 = .ok (.goto (-22), 3) := by decide +kernel
theorem dX12_dropPlace_29 : decode cX12_dropPlace 29 = .ok (.aload_n 0, 1) := by decide +kernel
theorem dX12_dropPlace_30 : decode cX12_dropPlace 30 = .ok (.getfield 115, 3) := by decide +kernel
theorem dX12_dropPlace_33 : decode cX12_dropPlace 33 = .ok (.iload_n 1, 1) := by decide +kernel
theorem dX12_dropPlace_34 : decode cX12_dropPlace 34 = .ok (.aload_n 0, 1) := by decide +kernel
theorem dX12_dropPlace_35 : decode cX12_dropPlace 35 = .ok (.getfield 115, 3) := by decide +kernel
theorem dX12_dropPlace_38 : decode cX12_dropPlace 38 = .ok (.aload_n 0, 1) := by decide +kernel
theorem dX12_dropPlace_39 : decode cX12_dropPlace 39 = .ok (.getfield 526, 3) := by decide +kernel
theorem dX12_dropPlace_42 : decode cX12_dropPlace 42 = .ok (.iaload, 1) := by decide +kernel
theorem dX12_dropPlace_43 : decode cX12_dropPlace 43 = .ok (.iastore, 1) := by decide +kernel
theorem dX12_dropPlace_44 : decode cX12_dropPlace 44 = .ok (.iconst 0, 1) := by decide +kernel
theorem dX12_dropPlace_45 : decode cX12_dropPlace 45 = .ok (.istore_n 2, 1) := by decide +kernel
theorem dX12_dropPlace_46 : decode cX12_dropPlace 46 = .ok (.iload_n 2, 1) := by decide +kernel
theorem dX12_dropPlace_47 : decode cX12_dropPlace 47 = .ok (.aload_n 0, 1) := by decide +kernel
theorem dX12_dropPlace_48 : decode cX12_dropPlace 48 = .ok (.getfield 483, 3) := by decide +kernel
theorem dX12_dropPlace_51 : decode cX12_dropPlace 51 = .ok (.iconst 1, 1) := by decide +kernel
theorem dX12_dropPlace_52 : decode cX12_dropPlace 52 = .ok (.iadd, 1) := by decide +kernel
theorem dX12_dropPlace_53 : decode cX12_dropPlace 53 = .ok (.if_icmp .gt 35, 3) := by decide +kernel
theorem dX12_dropPlace_56 : decode cX12_dropPlace 56 = .ok (.aload_n 0, 1) := by decide +kernel
theorem dX12_dropPlace_57 : decode cX12_dropPlace 57 = .ok (.getfield 103, 3) := by decide +kernel
theorem dX12_dropPlace_60 : decode cX12_dropPlace 60 = .ok (.aload_n 0, 1) := by decide +kernel
theorem dX12_dropPlace_61 : decode cX12_dropPlace 61 = .ok (.iload_n 2, 1) := by decide +kernel
theorem dX12_dropPlace_62 : decode cX12_dropPlace 62 = .ok (.aload_n 0, 1) := by decide +kernel
theorem dX12_dropPlace_63 : decode cX12_dropPlace 63 = .ok (.getfield 526, 3) := by decide +kernel
theorem dX12_dropPlace_66 : decode cX12_dropPlace 66 = .ok (.invokevirtual 529, 3) := by decide +kernel
theorem dX12_dropPlace_69 : decode cX12_dropPlace 69 = .ok (.aload_n 0, 1) := by decide +kernel
theorem dX12_dropPlace_70 : decode cX12_dropPlace 70 = .ok (.getfield 103, 3) := by decide +kernel
theorem dX12_dropPlace_73 : decode cX12_dropPlace 73 = .ok (.aload_n 0, 1) := by decide +kernel
theorem dX12_dropPlace_74 : decode cX12_dropPlace 74 = .ok (.iload_n 2, 1) := by decide +kernel
theorem dX12_dropPlace_75 : decode cX12_dropPlace 75 = .ok (.iload_n 1, 1) := by decide +kernel
theorem dX12_dropPlace_76 : decode cX12_dropPlace 76 = .ok (.invokevirtual 529, 3) := by decide +kernel
theorem dX12_dropPlace_79 : decode cX12_dropPlace 79 = .ok (.invokestatic 233, 3) := by decide +kernel
theorem dX12_dropPlace_82 : decode cX12_dropPlace 82 = .ok (.iinc 2 1, 3) := by decide +kernel
theorem dX12_dropPlace_85 : decode cX12_dropPlace 85 = .ok (.goto (-39), 3) := by decide +kernel
theorem dX12_dropPlace_88 : decode cX12_dropPlace 88 = .ok (.aload_n 0, 1) := by decide +kernel
theorem dX12_dropPlace_89 : decode cX12_dropPlace 89 = .ok (.dup, 1) := by decide +kernel
theorem dX12_dropPlace_90 : decode cX12_dropPlace 90 = .ok (.getfield 526, 3) := by decide +kernel
theorem dX12_dropPlace_93 : decode cX12_dropPlace 93 = .ok (.iconst 1, 1) := by decide +kernel
theorem dX12_dropPlace_94 : decode cX12_dropPlace 94 = .ok (.isub, 1) := by decide +kernel
theorem dX12_dropPlace_95 : decode cX12_dropPlace 95 = .ok (.putfield 526, 3) := by decide +kernel
theorem dX12_dropPlace_98 : decode cX12_dropPlace 98 = .ok (.aload_n 0, 1) := by decide +kernel
theorem dX12_dropPlace_99 : decode cX12_dropPlace 99 = .ok (.iconst 0, 1) := by decide +kernel
theorem dX12_dropPlace_100 : decode cX12_dropPlace 100 = .ok (.putfield 535, 3) := by decide +kernel
theorem dX12_dropPlace_103 : decode cX12_dropPlace 103 = .ok (.return_, 1) := by decide +kernel
theorem dX12_isNoBetter_0 : decode cX12_isNoBetter 0 = .ok (.aload_n 0, 1) := by decide +kernel
theorem dX12_isNoBetter_1 : decode cX12_isNoBetter 1 = .ok (.invokevirtual 628, 3) := by decide +kernel
theorem dX12_isNoBetter_4 : decode cX12_isNoBetter 4 = .ok (.ifCond .eq 67, 3) := by decide +kernel
theorem dX12_isNoBetter_7 : decode cX12_isNoBetter 7 = .ok (.aload_n 0, 1) := by decide +kernel
theorem dX12_isNoBetter_8 : decode cX12_isNoBetter 8 = .ok (.aload_n 0, 1) := by decide +kernel
theorem dX12_isNoBetter_9 : decode cX12_isNoBetter 9 = .ok (.getfield 103, 3) := by decide +kernel
theorem dX12_isNoBetter_12 : decode cX12_isNoBetter 12 = .ok (.iconst 0, 1) := by decide +kernel
theorem dX12_isNoBetter_13 : decode cX12_isNoBetter 13 = .ok (.aload_n 0, 1) := by decide +kernel
theorem dX12_isNoBetter_14 : decode cX12_isNoBetter 14 = .ok (.getfield 109, 3) := by decide +kernel
theorem dX12_isNoBetter_17 : decode cX12_isNoBetter 17 = .ok (.iconst 0, 1) := by decide +kernel
theorem dX12_isNoBetter_18 : decode cX12_isNoBetter 18 = .ok (.aload_n 0, 1) := by decide +kernel
theorem dX12_isNoBetter_19 : decode cX12_isNoBetter 19 = .ok (.getfield 26, 3) := by decide +kernel
theorem dX12_isNoBetter_22 : decode cX12_isNoBetter 22 = .ok (.iconst 0, 1) := by decide +kernel
theorem dX12_isNoBetter_23 : decode cX12_isNoBetter 23 = .ok (.aload_n 0, 1) := by decide +kernel
theorem dX12_isNoBetter_24 : decode cX12_isNoBetter 24 = .ok (.getfield 35, 3) := by decide +kernel
theorem dX12_isNoBetter_27 : decode cX12_isNoBetter 27 = .ok (.iconst 0, 1) := by decide +kernel
theorem dX12_isNoBetter_28 : decode cX12_isNoBetter 28 = .ok (.invokevirtual 266, 3) := by decide +kernel
theorem dX12_isNoBetter_31 : decode cX12_isNoBetter 31 = .ok (.aload_n 0, 1) := by decide +kernel
theorem dX12_isNoBetter_32 : decode cX12_isNoBetter 32 = .ok (.getfield 26, 3) := by decide +kernel
theorem dX12_isNoBetter_35 : decode cX12_isNoBetter 35 = .ok (.iconst 0, 1) := by decide +kernel
theorem dX12_isNoBetter_36 : decode cX12_isNoBetter 36 = .ok (.aload_n 0, 1) := by decide +kernel
theorem dX12_isNoBetter_37 : decode cX12_isNoBetter 37 = .ok (.getfield 137, 3) := by decide +kernel
theorem dX12_isNoBetter_40 : decode cX12_isNoBetter 40 = .ok (.iconst 0, 1) := by decide +kernel
theorem dX12_isNoBetter_41 : decode cX12_isNoBetter 41 = .ok (.aload_n 0, 1) := by decide +kernel
theorem dX12_isNoBetter_42 : decode cX12_isNoBetter 42 = .ok (.getfield 29, 3) := by decide +kernel
theorem dX12_isNoBetter_45 : decode cX12_isNoBetter 45 = .ok (.iconst 0, 1) := by decide +kernel
theorem dX12_isNoBetter_46 : decode cX12_isNoBetter 46 = .ok (.invokestatic 548, 3) := by decide +kernel
theorem dX12_isNoBetter_49 : decode cX12_isNoBetter 49 = .ok (.aload_n 0, 1) := by decide +kernel
theorem dX12_isNoBetter_50 : decode cX12_isNoBetter 50 = .ok (.getfield 29, 3) := by decide +kernel
theorem dX12_isNoBetter_53 : decode cX12_isNoBetter 53 = .ok (.iconst 0, 1) := by decide +kernel
theorem dX12_isNoBetter_54 : decode cX12_isNoBetter 54 = .ok (.aload_n 0, 1) := by decide +kernel
theorem dX12_isNoBetter_55 : decode cX12_isNoBetter 55 = .ok (.getfield 134, 3) := by decide +kernel
theorem dX12_isNoBetter_58 : decode cX12_isNoBetter 58 = .ok (.iconst 0, 1) := by decide +kernel
theorem dX12_isNoBetter_59 : decode cX12_isNoBetter 59 = .ok (.invokestatic 552, 3) := by decide +kernel
theorem dX12_isNoBetter_62 : decode cX12_isNoBetter 62 = .ok (.ifCond .gt 7, 3) := by decide +kernel
theorem dX12_isNoBetter_65 : decode cX12_isNoBetter 65 = .ok (.iconst 1, 1) := by decide +kernel
theorem dX12_isNoBetter_66 : decode cX12_isNoBetter 66 = .ok (.goto 4, 3) := by decide +kernel
theorem dX12_isNoBetter_69 : decode cX12_isNoBetter 69 = .ok (.iconst 0, 1) := by decide +kernel
theorem dX12_isNoBetter_70 : decode cX12_isNoBetter 70 = .ok (.ireturn, 1) := by decide +kernel
theorem dX12_isNoBetter_71 : decode cX12_isNoBetter 71 = .ok (.aload_n 0, 1) := by decide +kernel
theorem dX12_isNoBetter_72 : decode cX12_isNoBetter 72 = .ok (.getfield 103, 3) := by decide +kernel
theorem dX12_isNoBetter_75 : decode cX12_isNoBetter 75 = .ok (.iconst 0, 1) := by decide +kernel
theorem dX12_isNoBetter_76 : decode cX12_isNoBetter 76 = .ok (.aload_n 0, 1) := by decide +kernel
theorem dX12_isNoBetter_77 : decode cX12_isNoBetter 77 = .ok (.getfield 137, 3) := by decide +kernel
theorem dX12_isNoBetter_80 : decode cX12_isNoBetter 80 = .ok (.iconst 0, 1) := by decide +kernel
theorem dX12_isNoBetter_81 : decode cX12_isNoBetter 81 = .ok (.aload_n 0, 1) := by decide +kernel
theorem dX12_isNoBetter_82 : decode cX12_isNoBetter 82 = .ok (.getfield 26, 3) := by decide +kernel
theorem dX12_isNoBetter_85 : decode cX12_isNoBetter 85 = .ok (.iconst 0, 1) := by decide +kernel
theorem dX12_isNoBetter_86 : decode cX12_isNoBetter 86 = .ok (.invokestatic 548, 3) := by decide +kernel
theorem dX12_isNoBetter_89 : decode cX12_isNoBetter 89 = .ok (.aload_n 0, 1) := by decide +kernel
theorem dX12_isNoBetter_90 : decode cX12_isNoBetter 90 = .ok (.getfield 134, 3) := by decide +kernel
theorem dX12_isNoBetter_93 : decode cX12_isNoBetter 93 = .ok (.iconst 0, 1) := by decide +kernel
theorem dX12_isNoBetter_94 : decode cX12_isNoBetter 94 = .ok (.aload_n 0, 1) := by decide +kernel
theorem dX12_isNoBetter_95 : decode cX12_isNoBetter 95 = .ok (.getfield 109, 3) := by decide +kernel
theorem dX12_isNoBetter_98 : decode cX12_isNoBetter 98 = .ok (.iconst 0, 1) := by decide +kernel
theorem dX12_isNoBetter_99 : decode cX12_isNoBetter 99 = .ok (.aload_n 0, 1) := by decide +kernel
theorem dX12_isNoBetter_100 : decode cX12_isNoBetter 100 = .ok (.getfield 29, 3) := by decide +kernel
theorem dX12_isNoBetter_103 : decode cX12_isNoBetter 103 = .ok (.iconst 0, 1) := by decide +kernel
theorem dX12_isNoBetter_104 : decode cX12_isNoBetter 104 = .ok (.invokestatic 548, 3) := by decide +kernel
theorem dX12_isNoBetter_107 : decode cX12_isNoBetter 107 = .ok (.aload_n 0, 1) := by decide +kernel
theorem dX12_isNoBetter_108 : decode cX12_isNoBetter 108 = .ok (.getfield 26, 3) := by decide +kernel
theorem dX12_isNoBetter_111 : decode cX12_isNoBetter 111 = .ok (.iconst 0, 1) := by decide +kernel
theorem dX12_isNoBetter_112 : decode cX12_isNoBetter 112 = .ok (.aload_n 0, 1) := by decide +kernel
theorem dX12_isNoBetter_113 : decode cX12_isNoBetter 113 = .ok (.getfield 29, 3) := by decide +kernel
theorem dX12_isNoBetter_116 : decode cX12_isNoBetter 116 = .ok (.iconst 0, 1) := by decide +kernel
theorem dX12_isNoBetter_117 : decode cX12_isNoBetter 117 = .ok (.invokestatic 552, 3) := by decide +kernel
theorem dX12_isNoBetter_120 : decode cX12_isNoBetter 120 = .ok (.ifCond .gt 7, 3) := by decide +kernel
theorem dX12_isNoBetter_123 : decode cX12_isNoBetter 123 = .ok (.iconst 1, 1) := by decide +kernel
theorem dX12_isNoBetter_124 : decode cX12_isNoBetter 124 = .ok (.goto 4, 3) := by decide +kernel
theorem dX12_isNoBetter_127 : decode cX12_isNoBetter 127 = .ok (.iconst 0, 1) := by decide +kernel
theorem dX12_isNoBetter_128 : decode cX12_isNoBetter 128 = .ok (.ireturn, 1) := by decide +kernel
theorem dX12_isWholeGoal_0 : decode cX12_isWholeGoal 0 = .ok (.iconst 1, 1) := by decide +kernel
theorem dX12_isWholeGoal_1 : decode cX12_isWholeGoal 1 = .ok (.istore_n 1, 1) := by decide +kernel
theorem dX12_isWholeGoal_2 : decode cX12_isWholeGoal 2 = .ok (.iload_n 1, 1) := by decide +kernel
theorem dX12_isWholeGoal_3 : decode cX12_isWholeGoal 3 = .ok (.aload_n 0, 1) := by decide +kernel
theorem dX12_isWholeGoal_4 : decode cX12_isWholeGoal 4 = .ok (.getfield 465, 3) := by decide +kernel
theorem dX12_isWholeGoal_7 : decode cX12_isWholeGoal 7 = .ok (.if_icmp .gt 31, 3) := by decide +kernel
theorem dX12_isWholeGoal_10 : decode cX12_isWholeGoal 10 = .ok (.aload_n 0, 1) := by decide +kernel
theorem dX12_isWholeGoal_11 : decode cX12_isWholeGoal 11 = .ok (.getfield 97, 3) := by decide +kernel
theorem dX12_isWholeGoal_14 : decode cX12_isWholeGoal 14 = .ok (.iload_n 1, 1) := by decide +kernel
theorem dX12_isWholeGoal_15 : decode cX12_isWholeGoal 15 = .ok (.laload, 1) := by decide +kernel
theorem dX12_isWholeGoal_16 : decode cX12_isWholeGoal 16 = .ok (.lconst 0, 1) := by decide +kernel
theorem dX12_isWholeGoal_17 : decode cX12_isWholeGoal 17 = .ok (.lcmp, 1) := by decide +kernel
theorem dX12_isWholeGoal_18 : decode cX12_isWholeGoal 18 = .ok (.ifCond .eq 14, 3) := by decide +kernel
theorem dX12_isWholeGoal_21 : decode cX12_isWholeGoal 21 = .ok (.aload_n 0, 1) := by decide +kernel
theorem dX12_isWholeGoal_22 : decode cX12_isWholeGoal 22 = .ok (.getfield 94, 3) := by decide +kernel
theorem dX12_isWholeGoal_25 : decode cX12_isWholeGoal 25 = .ok (.iload_n 1, 1) := by decide +kernel
theorem dX12_isWholeGoal_26 : decode cX12_isWholeGoal 26 = .ok (.baload, 1) := by decide +kernel
theorem dX12_isWholeGoal_27 : decode cX12_isWholeGoal 27 = .ok (.ifCond .ne 5, 3) := by decide +kernel
theorem dX12_isWholeGoal_30 : decode cX12_isWholeGoal 30 = .ok (.iconst 0, 1) := by decide +kernel
theorem dX12_isWholeGoal_31 : decode cX12_isWholeGoal 31 = .ok (.ireturn, 1) := by decide +kernel
theorem dX12_isWholeGoal_32 : decode cX12_isWholeGoal 32 = .ok (.iinc 1 1, 3) := by decide +kernel
theorem dX12_isWholeGoal_35 : decode cX12_isWholeGoal 35 = .ok (.goto (-33), 3) := by decide +kernel
theorem dX12_isWholeGoal_38 : decode cX12_isWholeGoal 38 = .ok (.iconst 1, 1) := by decide +kernel
theorem dX12_isWholeGoal_39 : decode cX12_isWholeGoal 39 = .ok (.ireturn, 1) := by decide +kernel
theorem dX12_mayBegin_0 : decode cX12_mayBegin 0 = .ok (.aload_n 0, 1) := by decide +kernel
theorem dX12_mayBegin_1 : decode cX12_mayBegin 1 = .ok (.getfield 480, 3) := by decide +kernel
theorem dX12_mayBegin_4 : decode cX12_mayBegin 4 = .ok (.bipush 40, 2) := by decide +kernel
theorem dX12_mayBegin_6 : decode cX12_mayBegin 6 = .ok (.if_icmp .eq 13, 3) := by decide +kernel
theorem dX12_mayBegin_9 : decode cX12_mayBegin 9 = .ok (.aload_n 0, 1) := by decide +kernel
theorem dX12_mayBegin_10 : decode cX12_mayBegin 10 = .ok (.getfield 499, 3) := by decide +kernel
theorem dX12_mayBegin_13 : decode cX12_mayBegin 13 = .ok (.sipush 1000, 3) := by decide +kernel
theorem dX12_mayBegin_16 : decode cX12_mayBegin 16 = .ok (.if_icmp .ne 11, 3) := by decide +kernel
theorem dX12_mayBegin_19 : decode cX12_mayBegin 19 = .ok (.aload_n 0, 1) := by decide +kernel
theorem dX12_mayBegin_20 : decode cX12_mayBegin 20 = .ok (.bipush 6, 2) := by decide +kernel
theorem dX12_mayBegin_22 : decode cX12_mayBegin 22 = .ok (.putfield 477, 3) := by decide +kernel
theorem dX12_mayBegin_25 : decode cX12_mayBegin 25 = .ok (.iconst 0, 1) := by decide +kernel
theorem dX12_mayBegin_26 : decode cX12_mayBegin 26 = .ok (.ireturn, 1) := by decide +kernel
theorem dX12_mayBegin_27 : decode cX12_mayBegin 27 = .ok (.aload_n 0, 1) := by decide +kernel
theorem dX12_mayBegin_28 : decode cX12_mayBegin 28 = .ok (.dup, 1) := by decide +kernel
theorem dX12_mayBegin_29 : decode cX12_mayBegin 29 = .ok (.getfield 499, 3) := by decide +kernel
theorem dX12_mayBegin_32 : decode cX12_mayBegin 32 = .ok (.iconst 1, 1) := by decide +kernel
theorem dX12_mayBegin_33 : decode cX12_mayBegin 33 = .ok (.iadd, 1) := by decide +kernel
theorem dX12_mayBegin_34 : decode cX12_mayBegin 34 = .ok (.putfield 499, 3) := by decide +kernel
theorem dX12_mayBegin_37 : decode cX12_mayBegin 37 = .ok (.aload_n 0, 1) := by decide +kernel
theorem dX12_mayBegin_38 : decode cX12_mayBegin 38 = .ok (.dup, 1) := by decide +kernel
theorem dX12_mayBegin_39 : decode cX12_mayBegin 39 = .ok (.getfield 480, 3) := by decide +kernel
theorem dX12_mayBegin_42 : decode cX12_mayBegin 42 = .ok (.iconst 1, 1) := by decide +kernel
theorem dX12_mayBegin_43 : decode cX12_mayBegin 43 = .ok (.iadd, 1) := by decide +kernel
theorem dX12_mayBegin_44 : decode cX12_mayBegin 44 = .ok (.putfield 480, 3) := by decide +kernel
theorem dX12_mayBegin_47 : decode cX12_mayBegin 47 = .ok (.aload_n 0, 1) := by decide +kernel
theorem dX12_mayBegin_48 : decode cX12_mayBegin 48 = .ok (.dup, 1) := by decide +kernel
theorem dX12_mayBegin_49 : decode cX12_mayBegin 49 = .ok (.getfield 483, 3) := by decide +kernel
theorem dX12_mayBegin_52 : decode cX12_mayBegin 52 = .ok (.iconst 1, 1) := by decide +kernel
theorem dX12_mayBegin_53 : decode cX12_mayBegin 53 = .ok (.iadd, 1) := by decide +kernel
theorem dX12_mayBegin_54 : decode cX12_mayBegin 54 = .ok (.putfield 483, 3) := by decide +kernel
theorem dX12_mayBegin_57 : decode cX12_mayBegin 57 = .ok (.aload_n 0, 1) := by decide +kernel
theorem dX12_mayBegin_58 : decode cX12_mayBegin 58 = .ok (.getfield 112, 3) := by decide +kernel
theorem dX12_mayBegin_61 : decode cX12_mayBegin 61 = .ok (.aload_n 0, 1) := by decide +kernel
theorem dX12_mayBegin_62 : decode cX12_mayBegin 62 = .ok (.getfield 483, 3) := by decide +kernel
theorem dX12_mayBegin_65 : decode cX12_mayBegin 65 = .ok (.aload_n 0, 1) := by decide +kernel
theorem dX12_mayBegin_66 : decode cX12_mayBegin 66 = .ok (.getfield 465, 3) := by decide +kernel
theorem dX12_mayBegin_69 : decode cX12_mayBegin 69 = .ok (.aload_n 0, 1) := by decide +kernel
theorem dX12_mayBegin_70 : decode cX12_mayBegin 70 = .ok (.getfield 480, 3) := by decide +kernel
theorem dX12_mayBegin_73 : decode cX12_mayBegin 73 = .ok (.iadd, 1) := by decide +kernel
theorem dX12_mayBegin_74 : decode cX12_mayBegin 74 = .ok (.iastore, 1) := by decide +kernel
theorem dX12_mayBegin_75 : decode cX12_mayBegin 75 = .ok (.aload_n 0, 1) := by decide +kernel
theorem dX12_mayBegin_76 : decode cX12_mayBegin 76 = .ok (.iconst 4, 1) := by decide +kernel
theorem dX12_mayBegin_77 : decode cX12_mayBegin 77 = .ok (.putfield 532, 3) := by decide +kernel
theorem dX12_mayBegin_80 : decode cX12_mayBegin 80 = .ok (.iconst 1, 1) := by decide +kernel
theorem dX12_mayBegin_81 : decode cX12_mayBegin 81 = .ok (.ireturn, 1) := by decide +kernel
theorem dX12_multipliersOf_0 : decode cX12_multipliersOf 0 = .ok (.aload_n 0, 1) := by decide +kernel
theorem dX12_multipliersOf_1 : decode cX12_multipliersOf 1 = .ok (.invokevirtual 600, 3) := by decide +kernel
theorem dX12_multipliersOf_4 : decode cX12_multipliersOf 4 = .ok (.iconst 1, 1) := by decide +kernel
theorem dX12_multipliersOf_5 : decode cX12_multipliersOf 5 = .ok (.istore_n 2, 1) := by decide +kernel
theorem dX12_multipliersOf_6 : decode cX12_multipliersOf 6 = .ok (.iload_n 2, 1) := by decide +kernel
theorem dX12_multipliersOf_7 : decode cX12_multipliersOf 7 = .ok (.aload_n 0, 1) := by decide +kernel
theorem dX12_multipliersOf_8 : decode cX12_multipliersOf 8 = .ok (.getfield 526, 3) := by decide +kernel
theorem dX12_multipliersOf_11 : decode cX12_multipliersOf 11 = .ok (.if_icmp .gt 53, 3) := by decide +kernel
theorem dX12_multipliersOf_14 : decode cX12_multipliersOf 14 = .ok (.aload_n 0, 1) := by decide +kernel
theorem dX12_multipliersOf_15 : decode cX12_multipliersOf 15 = .ok (.getfield 115, 3) := by decide +kernel
theorem dX12_multipliersOf_18 : decode cX12_multipliersOf 18 = .ok (.iload_n 2, 1) := by decide +kernel
theorem dX12_multipliersOf_19 : decode cX12_multipliersOf 19 = .ok (.iaload, 1) := by decide +kernel
theorem dX12_multipliersOf_20 : decode cX12_multipliersOf 20 = .ok (.aload_n 0, 1) := by decide +kernel
theorem dX12_multipliersOf_21 : decode cX12_multipliersOf 21 = .ok (.getfield 465, 3) := by decide +kernel
theorem dX12_multipliersOf_24 : decode cX12_multipliersOf 24 = .ok (.if_icmp .le 34, 3) := by decide +kernel
theorem dX12_multipliersOf_27 : decode cX12_multipliersOf 27 = .ok (.aload_n 0, 1) := by decide +kernel
theorem dX12_multipliersOf_28 : decode cX12_multipliersOf 28 = .ok (.getfield 103, 3) := by decide +kernel
theorem dX12_multipliersOf_31 : decode cX12_multipliersOf 31 = .ok (.aload_n 0, 1) := by decide +kernel
theorem dX12_multipliersOf_32 : decode cX12_multipliersOf 32 = .ok (.iload_n 1, 1) := by decide +kernel
theorem dX12_multipliersOf_33 : decode cX12_multipliersOf 33 = .ok (.iload_n 2, 1) := by decide +kernel
theorem dX12_multipliersOf_34 : decode cX12_multipliersOf 34 = .ok (.invokevirtual 529, 3) := by decide +kernel
theorem dX12_multipliersOf_37 : decode cX12_multipliersOf 37 = .ok (.aload_n 0, 1) := by decide +kernel
theorem dX12_multipliersOf_38 : decode cX12_multipliersOf 38 = .ok (.getfield 154, 3) := by decide +kernel
theorem dX12_multipliersOf_41 : decode cX12_multipliersOf 41 = .ok (.bipush 8, 2) := by decide +kernel
theorem dX12_multipliersOf_43 : decode cX12_multipliersOf 43 = .ok (.aload_n 0, 1) := by decide +kernel
theorem dX12_multipliersOf_44 : decode cX12_multipliersOf 44 = .ok (.getfield 115, 3) := by decide +kernel
theorem dX12_multipliersOf_47 : decode cX12_multipliersOf 47 = .ok (.iload_n 2, 1) := by decide +kernel
theorem dX12_multipliersOf_48 : decode cX12_multipliersOf 48 = .ok (.iaload, 1) := by decide +kernel
theorem dX12_multipliersOf_49 : decode cX12_multipliersOf 49 = .ok (.aload_n 0, 1) := by decide +kernel
theorem dX12_multipliersOf_50 : decode cX12_multipliersOf 50 = .ok (.getfield 465, 3) := by decide +kernel
theorem dX12_multipliersOf_53 : decode cX12_multipliersOf 53 = .ok (.isub, 1) := by decide +kernel
theorem dX12_multipliersOf_54 : decode cX12_multipliersOf 54 = .ok (.imul, 1) := by decide +kernel
theorem dX12_multipliersOf_55 : decode cX12_multipliersOf 55 = .ok (.invokestatic 233, 3) := by decide +kernel
theorem dX12_multipliersOf_58 : decode cX12_multipliersOf 58 = .ok (.iinc 2 1, 3) := by decide +kernel
theorem dX12_multipliersOf_61 : decode cX12_multipliersOf 61 = .ok (.goto (-55), 3) := by decide +kernel
theorem dX12_multipliersOf_64 : decode cX12_multipliersOf 64 = .ok (.return_, 1) := by decide +kernel
theorem dX12_outOfBasis_0 : decode cX12_outOfBasis 0 = .ok (.iconst 0, 1) := by decide +kernel
theorem dX12_outOfBasis_1 : decode cX12_outOfBasis 1 = .ok (.istore_n 1, 1) := by decide +kernel
theorem dX12_outOfBasis_2 : decode cX12_outOfBasis 2 = .ok (.iconst 1, 1) := by decide +kernel
theorem dX12_outOfBasis_3 : decode cX12_outOfBasis 3 = .ok (.istore_n 2, 1) := by decide +kernel
theorem dX12_outOfBasis_4 : decode cX12_outOfBasis 4 = .ok (.iload_n 2, 1) := by decide +kernel
theorem dX12_outOfBasis_5 : decode cX12_outOfBasis 5 = .ok (.aload_n 0, 1) := by decide +kernel
theorem dX12_outOfBasis_6 : decode cX12_outOfBasis 6 = .ok (.getfield 483, 3) := by decide +kernel
theorem dX12_outOfBasis_9 : decode cX12_outOfBasis 9 = .ok (.if_icmp .gt 20, 3) := by decide +kernel
theorem dX12_outOfBasis_12 : decode cX12_outOfBasis 12 = .ok (.aload_n 0, 1) := by decide +kernel
theorem dX12_outOfBasis_13 : decode cX12_outOfBasis 13 = .ok (.getfield 112, 3) := by decide +kernel
theorem dX12_outOfBasis_16 : decode cX12_outOfBasis 16 = .ok (.iload_n 2, 1) := by decide +kernel
theorem dX12_outOfBasis_17 : decode cX12_outOfBasis 17 = .ok (.iaload, 1) := by decide +kernel
theorem dX12_outOfBasis_18 : decode cX12_outOfBasis 18 = .ok (.ifCond .ne 5, 3) := by decide +kernel
theorem dX12_outOfBasis_21 : decode cX12_outOfBasis 21 = .ok (.iload_n 2, 1) := by decide +kernel
theorem dX12_outOfBasis_22 : decode cX12_outOfBasis 22 = .ok (.istore_n 1, 1) := by decide +kernel
theorem dX12_outOfBasis_23 : decode cX12_outOfBasis 23 = .ok (.iinc 2 1, 3) := by decide +kernel
theorem dX12_outOfBasis_26 : decode cX12_outOfBasis 26 = .ok (.goto (-22), 3) := by decide +kernel
theorem dX12_outOfBasis_29 : decode cX12_outOfBasis 29 = .ok (.iload_n 1, 1) := by decide +kernel
theorem dX12_outOfBasis_30 : decode cX12_outOfBasis 30 = .ok (.ifCond .ne 10, 3) := by decide +kernel
theorem dX12_outOfBasis_33 : decode cX12_outOfBasis 33 = .ok (.aload_n 0, 1) := by decide +kernel
theorem dX12_outOfBasis_34 : decode cX12_outOfBasis 34 = .ok (.iconst 5, 1) := by decide +kernel
theorem dX12_outOfBasis_35 : decode cX12_outOfBasis 35 = .ok (.putfield 532, 3) := by decide +kernel
theorem dX12_outOfBasis_38 : decode cX12_outOfBasis 38 = .ok (.iconst 0, 1) := by decide +kernel
theorem dX12_outOfBasis_39 : decode cX12_outOfBasis 39 = .ok (.ireturn, 1) := by decide +kernel
theorem dX12_outOfBasis_40 : decode cX12_outOfBasis 40 = .ok (.iconst 0, 1) := by decide +kernel
theorem dX12_outOfBasis_41 : decode cX12_outOfBasis 41 = .ok (.istore_n 2, 1) := by decide +kernel
theorem dX12_outOfBasis_42 : decode cX12_outOfBasis 42 = .ok (.iconst 1, 1) := by decide +kernel
theorem dX12_outOfBasis_43 : decode cX12_outOfBasis 43 = .ok (.istore_n 3, 1) := by decide +kernel
theorem dX12_outOfBasis_44 : decode cX12_outOfBasis 44 = .ok (.iload_n 3, 1) := by decide +kernel
theorem dX12_outOfBasis_45 : decode cX12_outOfBasis 45 = .ok (.aload_n 0, 1) := by decide +kernel
theorem dX12_outOfBasis_46 : decode cX12_outOfBasis 46 = .ok (.getfield 526, 3) := by decide +kernel
theorem dX12_outOfBasis_49 : decode cX12_outOfBasis 49 = .ok (.if_icmp .gt 46, 3) := by decide +kernel
theorem dX12_outOfBasis_52 : decode cX12_outOfBasis 52 = .ok (.aload_n 0, 1) := by decide +kernel
theorem dX12_outOfBasis_53 : decode cX12_outOfBasis 53 = .ok (.getfield 103, 3) := by decide +kernel
theorem dX12_outOfBasis_56 : decode cX12_outOfBasis 56 = .ok (.aload_n 0, 1) := by decide +kernel
theorem dX12_outOfBasis_57 : decode cX12_outOfBasis 57 = .ok (.iload_n 1, 1) := by decide +kernel
theorem dX12_outOfBasis_58 : decode cX12_outOfBasis 58 = .ok (.iconst 1, 1) := by decide +kernel
theorem dX12_outOfBasis_59 : decode cX12_outOfBasis 59 = .ok (.iadd, 1) := by decide +kernel
theorem dX12_outOfBasis_60 : decode cX12_outOfBasis 60 = .ok (.iload_n 3, 1) := by decide +kernel
theorem dX12_outOfBasis_61 : decode cX12_outOfBasis 61 = .ok (.invokevirtual 529, 3) := by decide +kernel
theorem dX12_outOfBasis_64 : decode cX12_outOfBasis 64 = .ok (.iaload, 1) := by decide +kernel
theorem dX12_outOfBasis_65 : decode cX12_outOfBasis 65 = .ok (.ifCond .eq 24, 3) := by decide +kernel
theorem dX12_outOfBasis_68 : decode cX12_outOfBasis 68 = .ok (.iload_n 2, 1) := by decide +kernel
theorem dX12_outOfBasis_69 : decode cX12_outOfBasis 69 = .ok (.ifCond .eq 18, 3) := by decide +kernel
theorem dX12_outOfBasis_72 : decode cX12_outOfBasis 72 = .ok (.aload_n 0, 1) := by decide +kernel
theorem dX12_outOfBasis_73 : decode cX12_outOfBasis 73 = .ok (.getfield 115, 3) := by decide +kernel
theorem dX12_outOfBasis_76 : decode cX12_outOfBasis 76 = .ok (.iload_n 3, 1) := by decide +kernel
theorem dX12_outOfBasis_77 : decode cX12_outOfBasis 77 = .ok (.iaload, 1) := by decide +kernel
theorem dX12_outOfBasis_78 : decode cX12_outOfBasis 78 = .ok (.aload_n 0, 1) := by decide +kernel
theorem dX12_outOfBasis_79 : decode cX12_outOfBasis 79 = .ok (.getfield 115, 3) := by decide +kernel
theorem dX12_outOfBasis_82 : decode cX12_outOfBasis 82 = .ok (.iload_n 2, 1) := by decide +kernel
theorem dX12_outOfBasis_83 : decode cX12_outOfBasis 83 = .ok (.iaload, 1) := by decide +kernel
theorem dX12_outOfBasis_84 : decode cX12_outOfBasis 84 = .ok (.if_icmp .ge 5, 3) := by decide +kernel
theorem dX12_outOfBasis_87 : decode cX12_outOfBasis 87 = .ok (.iload_n 3, 1) := by decide +kernel
theorem dX12_outOfBasis_88 : decode cX12_outOfBasis 88 = .ok (.istore_n 2, 1) := by decide +kernel
theorem dX12_outOfBasis_89 : decode cX12_outOfBasis 89 = .ok (.iinc 3 1, 3) := by decide +kernel
theorem dX12_outOfBasis_92 : decode cX12_outOfBasis 92 = .ok (.goto (-48), 3) := by decide +kernel
theorem dX12_outOfBasis_95 : decode cX12_outOfBasis 95 = .ok (.aload_n 0, 1) := by decide +kernel
theorem dX12_outOfBasis_96 : decode cX12_outOfBasis 96 = .ok (.iload_n 1, 1) := by decide +kernel
theorem dX12_outOfBasis_97 : decode cX12_outOfBasis 97 = .ok (.putfield 562, 3) := by decide +kernel
theorem dX12_outOfBasis_100 : decode cX12_outOfBasis 100 = .ok (.aload_n 0, 1) := by decide +kernel
theorem dX12_outOfBasis_101 : decode cX12_outOfBasis 101 = .ok (.iload_n 2, 1) := by decide +kernel
theorem dX12_outOfBasis_102 : decode cX12_outOfBasis 102 = .ok (.putfield 555, 3) := by decide +kernel
theorem dX12_outOfBasis_105 : decode cX12_outOfBasis 105 = .ok (.aload_n 0, 1) := by decide +kernel
theorem dX12_outOfBasis_106 : decode cX12_outOfBasis 106 = .ok (.iconst 5, 1) := by decide +kernel
theorem dX12_outOfBasis_107 : decode cX12_outOfBasis 107 = .ok (.putfield 532, 3) := by decide +kernel
theorem dX12_outOfBasis_110 : decode cX12_outOfBasis 110 = .ok (.iconst 1, 1) := by decide +kernel
theorem dX12_outOfBasis_111 : decode cX12_outOfBasis 111 = .ok (.ireturn, 1) := by decide +kernel
theorem dX12_takeBest_0 : decode cX12_takeBest 0 = .ok (.aload_n 0, 1) := by decide +kernel
theorem dX12_takeBest_1 : decode cX12_takeBest 1 = .ok (.iconst 1, 1) := by decide +kernel
theorem dX12_takeBest_2 : decode cX12_takeBest 2 = .ok (.putfield 514, 3) := by decide +kernel
theorem dX12_takeBest_5 : decode cX12_takeBest 5 = .ok (.aload_n 0, 1) := by decide +kernel
theorem dX12_takeBest_6 : decode cX12_takeBest 6 = .ok (.dup, 1) := by decide +kernel
theorem dX12_takeBest_7 : decode cX12_takeBest 7 = .ok (.getfield 502, 3) := by decide +kernel
theorem dX12_takeBest_10 : decode cX12_takeBest 10 = .ok (.iconst 1, 1) := by decide +kernel
theorem dX12_takeBest_11 : decode cX12_takeBest 11 = .ok (.iadd, 1) := by decide +kernel
theorem dX12_takeBest_12 : decode cX12_takeBest 12 = .ok (.putfield 502, 3) := by decide +kernel
theorem dX12_takeBest_15 : decode cX12_takeBest 15 = .ok (.aload_n 0, 1) := by decide +kernel
theorem dX12_takeBest_16 : decode cX12_takeBest 16 = .ok (.getfield 103, 3) := by decide +kernel
theorem dX12_takeBest_19 : decode cX12_takeBest 19 = .ok (.iconst 0, 1) := by decide +kernel
theorem dX12_takeBest_20 : decode cX12_takeBest 20 = .ok (.aload_n 0, 1) := by decide +kernel
theorem dX12_takeBest_21 : decode cX12_takeBest 21 = .ok (.getfield 134, 3) := by decide +kernel
theorem dX12_takeBest_24 : decode cX12_takeBest 24 = .ok (.iconst 0, 1) := by decide +kernel
theorem dX12_takeBest_25 : decode cX12_takeBest 25 = .ok (.invokestatic 233, 3) := by decide +kernel
theorem dX12_takeBest_28 : decode cX12_takeBest 28 = .ok (.aload_n 0, 1) := by decide +kernel
theorem dX12_takeBest_29 : decode cX12_takeBest 29 = .ok (.getfield 109, 3) := by decide +kernel
theorem dX12_takeBest_32 : decode cX12_takeBest 32 = .ok (.iconst 0, 1) := by decide +kernel
theorem dX12_takeBest_33 : decode cX12_takeBest 33 = .ok (.aload_n 0, 1) := by decide +kernel
theorem dX12_takeBest_34 : decode cX12_takeBest 34 = .ok (.getfield 137, 3) := by decide +kernel
theorem dX12_takeBest_37 : decode cX12_takeBest 37 = .ok (.iconst 0, 1) := by decide +kernel
theorem dX12_takeBest_38 : decode cX12_takeBest 38 = .ok (.invokestatic 233, 3) := by decide +kernel
theorem dX12_takeBest_41 : decode cX12_takeBest 41 = .ok (.iconst 1, 1) := by decide +kernel
theorem dX12_takeBest_42 : decode cX12_takeBest 42 = .ok (.istore_n 1, 1) := by decide +kernel
theorem dX12_takeBest_43 : decode cX12_takeBest 43 = .ok (.iload_n 1, 1) := by decide +kernel
theorem dX12_takeBest_44 : decode cX12_takeBest 44 = .ok (.aload_n 0, 1) := by decide +kernel
theorem dX12_takeBest_45 : decode cX12_takeBest 45 = .ok (.getfield 465, 3) := by decide +kernel
theorem dX12_takeBest_48 : decode cX12_takeBest 48 = .ok (.if_icmp .gt 19, 3) := by decide +kernel
theorem dX12_takeBest_51 : decode cX12_takeBest 51 = .ok (.aload_n 0, 1) := by decide +kernel
theorem dX12_takeBest_52 : decode cX12_takeBest 52 = .ok (.getfield 140, 3) := by decide +kernel
theorem dX12_takeBest_55 : decode cX12_takeBest 55 = .ok (.bipush 8, 2) := by decide +kernel
theorem dX12_takeBest_57 : decode cX12_takeBest 57 = .ok (.iload_n 1, 1) := by decide +kernel
theorem dX12_takeBest_58 : decode cX12_takeBest 58 = .ok (.imul, 1) := by decide +kernel
theorem dX12_takeBest_59 : decode cX12_takeBest 59 = .ok (.iconst 0, 1) := by decide +kernel
theorem dX12_takeBest_60 : decode cX12_takeBest 60 = .ok (.iastore, 1) := by decide +kernel
theorem dX12_takeBest_61 : decode cX12_takeBest 61 = .ok (.iinc 1 1, 3) := by decide +kernel
theorem dX12_takeBest_64 : decode cX12_takeBest 64 = .ok (.goto (-21), 3) := by decide +kernel
theorem dX12_takeBest_67 : decode cX12_takeBest 67 = .ok (.iconst 1, 1) := by decide +kernel
theorem dX12_takeBest_68 : decode cX12_takeBest 68 = .ok (.istore_n 1, 1) := by decide +kernel
theorem dX12_takeBest_69 : decode cX12_takeBest 69 = .ok (.iload_n 1, 1) := by decide +kernel
theorem dX12_takeBest_70 : decode cX12_takeBest 70 = .ok (.aload_n 0, 1) := by decide +kernel
theorem dX12_takeBest_71 : decode cX12_takeBest 71 = .ok (.getfield 483, 3) := by decide +kernel
theorem dX12_takeBest_74 : decode cX12_takeBest 74 = .ok (.if_icmp .gt 60, 3) := by decide +kernel
theorem dX12_takeBest_77 : decode cX12_takeBest 77 = .ok (.aload_n 0, 1) := by decide +kernel
theorem dX12_takeBest_78 : decode cX12_takeBest 78 = .ok (.getfield 112, 3) := by decide +kernel
theorem dX12_takeBest_81 : decode cX12_takeBest 81 = .ok (.iload_n 1, 1) := by decide +kernel
theorem dX12_takeBest_82 : decode cX12_takeBest 82 = .ok (.iaload, 1) := by decide +kernel
theorem dX12_takeBest_83 : decode cX12_takeBest 83 = .ok (.iconst 1, 1) := by decide +kernel
theorem dX12_takeBest_84 : decode cX12_takeBest 84 = .ok (.if_icmp .lt 44, 3) := by decide +kernel
theorem dX12_takeBest_87 : decode cX12_takeBest 87 = .ok (.aload_n 0, 1) := by decide +kernel
theorem dX12_takeBest_88 : decode cX12_takeBest 88 = .ok (.getfield 112, 3) := by decide +kernel
theorem dX12_takeBest_91 : decode cX12_takeBest 91 = .ok (.iload_n 1, 1) := by decide +kernel
theorem dX12_takeBest_92 : decode cX12_takeBest 92 = .ok (.iaload, 1) := by decide +kernel
theorem dX12_takeBest_93 : decode cX12_takeBest 93 = .ok (.aload_n 0, 1) := by decide +kernel
theorem dX12_takeBest_94 : decode cX12_takeBest 94 = .ok (.getfield 465, 3) := by decide +kernel
theorem dX12_takeBest_97 : decode cX12_takeBest 97 = .ok (.if_icmp .gt 31, 3) := by decide +kernel
theorem dX12_takeBest_100 : decode cX12_takeBest 100 = .ok (.aload_n 0, 1) := by decide +kernel
theorem dX12_takeBest_101 : decode cX12_takeBest 101 = .ok (.getfield 103, 3) := by decide +kernel
theorem dX12_takeBest_104 : decode cX12_takeBest 104 = .ok (.aload_n 0, 1) := by decide +kernel
theorem dX12_takeBest_105 : decode cX12_takeBest 105 = .ok (.iload_n 1, 1) := by decide +kernel
theorem dX12_takeBest_106 : decode cX12_takeBest 106 = .ok (.iconst 1, 1) := by decide +kernel
theorem dX12_takeBest_107 : decode cX12_takeBest 107 = .ok (.iadd, 1) := by decide +kernel
theorem dX12_takeBest_108 : decode cX12_takeBest 108 = .ok (.iconst 0, 1) := by decide +kernel
theorem dX12_takeBest_109 : decode cX12_takeBest 109 = .ok (.invokevirtual 529, 3) := by decide +kernel
theorem dX12_takeBest_112 : decode cX12_takeBest 112 = .ok (.aload_n 0, 1) := by decide +kernel
theorem dX12_takeBest_113 : decode cX12_takeBest 113 = .ok (.getfield 140, 3) := by decide +kernel
theorem dX12_takeBest_116 : decode cX12_takeBest 116 = .ok (.bipush 8, 2) := by decide +kernel
theorem dX12_takeBest_118 : decode cX12_takeBest 118 = .ok (.aload_n 0, 1) := by decide +kernel
theorem dX12_takeBest_119 : decode cX12_takeBest 119 = .ok (.getfield 112, 3) := by decide +kernel
theorem dX12_takeBest_122 : decode cX12_takeBest 122 = .ok (.iload_n 1, 1) := by decide +kernel
theorem dX12_takeBest_123 : decode cX12_takeBest 123 = .ok (.iaload, 1) := by decide +kernel
theorem dX12_takeBest_124 : decode cX12_takeBest 124 = .ok (.imul, 1) := by decide +kernel
theorem dX12_takeBest_125 : decode cX12_takeBest 125 = .ok (.invokestatic 233, 3) := by decide +kernel
theorem dX12_takeBest_128 : decode cX12_takeBest 128 = .ok (.iinc 1 1, 3) := by decide +kernel
theorem dX12_takeBest_131 : decode cX12_takeBest 131 = .ok (.goto (-62), 3) := by decide +kernel
theorem dX12_takeBest_134 : decode cX12_takeBest 134 = .ok (.return_, 1) := by decide +kernel
theorem dX12_writePairs_0 : decode cX12_writePairs 0 = .ok (.aload_n 0, 1) := by decide +kernel
theorem dX12_writePairs_1 : decode cX12_writePairs 1 = .ok (.aload_n 1, 1) := by decide +kernel
theorem dX12_writePairs_2 : decode cX12_writePairs 2 = .ok (.invokevirtual 603, 3) := by decide +kernel
theorem dX12_writePairs_5 : decode cX12_writePairs 5 = .ok (.aload_n 0, 1) := by decide +kernel
theorem dX12_writePairs_6 : decode cX12_writePairs 6 = .ok (.aload_n 0, 1) := by decide +kernel
theorem dX12_writePairs_7 : decode cX12_writePairs 7 = .ok (.getfield 109, 3) := by decide +kernel
theorem dX12_writePairs_10 : decode cX12_writePairs 10 = .ok (.iconst 0, 1) := by decide +kernel
theorem dX12_writePairs_11 : decode cX12_writePairs 11 = .ok (.invokevirtual 597, 3) := by decide +kernel
theorem dX12_writePairs_14 : decode cX12_writePairs 14 = .ok (.iconst 1, 1) := by decide +kernel
theorem dX12_writePairs_15 : decode cX12_writePairs 15 = .ok (.istore_n 2, 1) := by decide +kernel
theorem dX12_writePairs_16 : decode cX12_writePairs 16 = .ok (.iload_n 2, 1) := by decide +kernel
theorem dX12_writePairs_17 : decode cX12_writePairs 17 = .ok (.aload_n 0, 1) := by decide +kernel
theorem dX12_writePairs_18 : decode cX12_writePairs 18 = .ok (.getfield 480, 3) := by decide +kernel
theorem dX12_writePairs_21 : decode cX12_writePairs 21 = .ok (.if_icmp .gt 49, 3) := by decide +kernel
theorem dX12_writePairs_24 : decode cX12_writePairs 24 = .ok (.aload_n 0, 1) := by decide +kernel
theorem dX12_writePairs_25 : decode cX12_writePairs 25 = .ok (.getfield 154, 3) := by decide +kernel
theorem dX12_writePairs_28 : decode cX12_writePairs 28 = .ok (.bipush 8, 2) := by decide +kernel
theorem dX12_writePairs_30 : decode cX12_writePairs 30 = .ok (.iload_n 2, 1) := by decide +kernel
theorem dX12_writePairs_31 : decode cX12_writePairs 31 = .ok (.imul, 1) := by decide +kernel
theorem dX12_writePairs_32 : decode cX12_writePairs 32 = .ok (.iaload, 1) := by decide +kernel
theorem dX12_writePairs_33 : decode cX12_writePairs 33 = .ok (.ifCond .ne 6, 3) := by decide +kernel
theorem dX12_writePairs_36 : decode cX12_writePairs 36 = .ok (.goto 28, 3) := by decide +kernel
theorem dX12_writePairs_39 : decode cX12_writePairs 39 = .ok (.aload_n 0, 1) := by decide +kernel
theorem dX12_writePairs_40 : decode cX12_writePairs 40 = .ok (.iload_n 2, 1) := by decide +kernel
theorem dX12_writePairs_41 : decode cX12_writePairs 41 = .ok (.i2l, 1) := by decide +kernel
theorem dX12_writePairs_42 : decode cX12_writePairs 42 = .ok (.invokevirtual 607, 3) := by decide +kernel
theorem dX12_writePairs_45 : decode cX12_writePairs 45 = .ok (.aload_n 0, 1) := by decide +kernel
theorem dX12_writePairs_46 : decode cX12_writePairs 46 = .ok (.ldc_w 611, 3) := by decide +kernel
theorem dX12_writePairs_49 : decode cX12_writePairs 49 = .ok (.invokevirtual 603, 3) := by decide +kernel
theorem dX12_writePairs_52 : decode cX12_writePairs 52 = .ok (.aload_n 0, 1) := by decide +kernel
theorem dX12_writePairs_53 : decode cX12_writePairs 53 = .ok (.aload_n 0, 1) := by decide +kernel
theorem dX12_writePairs_54 : decode cX12_writePairs 54 = .ok (.getfield 154, 3) := by decide +kernel
theorem dX12_writePairs_57 : decode cX12_writePairs 57 = .ok (.bipush 8, 2) := by decide +kernel
theorem dX12_writePairs_59 : decode cX12_writePairs 59 = .ok (.iload_n 2, 1) := by decide +kernel
theorem dX12_writePairs_60 : decode cX12_writePairs 60 = .ok (.imul, 1) := by decide +kernel
theorem dX12_writePairs_61 : decode cX12_writePairs 61 = .ok (.invokevirtual 597, 3) := by decide +kernel
theorem dX12_writePairs_64 : decode cX12_writePairs 64 = .ok (.iinc 2 1, 3) := by decide +kernel
theorem dX12_writePairs_67 : decode cX12_writePairs 67 = .ok (.goto (-51), 3) := by decide +kernel
theorem dX12_writePairs_70 : decode cX12_writePairs 70 = .ok (.aload_n 0, 1) := by decide +kernel
theorem dX12_writePairs_71 : decode cX12_writePairs 71 = .ok (.ldc_w 613, 3) := by decide +kernel
theorem dX12_writePairs_74 : decode cX12_writePairs 74 = .ok (.invokevirtual 603, 3) := by decide +kernel
theorem dX12_writePairs_77 : decode cX12_writePairs 77 = .ok (.aload_n 0, 1) := by decide +kernel
theorem dX12_writePairs_78 : decode cX12_writePairs 78 = .ok (.getfield 520, 3) := by decide +kernel
theorem dX12_writePairs_81 : decode cX12_writePairs 81 = .ok (.sipush 30000, 3) := by decide +kernel
theorem dX12_writePairs_84 : decode cX12_writePairs 84 = .ok (.if_icmp .le 9, 3) := by decide +kernel
theorem dX12_writePairs_87 : decode cX12_writePairs 87 = .ok (.aload_n 0, 1) := by decide +kernel
theorem dX12_writePairs_88 : decode cX12_writePairs 88 = .ok (.bipush 6, 2) := by decide +kernel
theorem dX12_writePairs_90 : decode cX12_writePairs 90 = .ok (.putfield 477, 3) := by decide +kernel
theorem dX12_writePairs_93 : decode cX12_writePairs 93 = .ok (.return_, 1) := by decide +kernel
theorem w_150 : Cond.selects RX12 yX12_clearMultipliers yX12_clearMultipliers ∈ tb := sel_10 (q := (yX12_clearMultipliers, 105)) 6 (by decide +kernel)
theorem w_152 : Cond.selects RX12 yX12_write yX12_write ∈ tb := sel_10 (q := (yX12_write, 105)) 8 (by decide +kernel)
theorem w_156 : Cond.selects RX12 yX12_writeSmall yX12_writeSmall ∈ tb := sel_10 (q := (yX12_writeSmall, 105)) 12 (by decide +kernel)
theorem w_172 : Cond.selects RX12 yX12_isWholeGoal yX12_isWholeGoal ∈ tb := sel_11 (q := (yX12_isWholeGoal, 105)) 12 (by decide +kernel)
theorem w_2007 : Cond.fieldLink RX12 465 (TX12 46).1 (TX12 46).2.1 (TX12 46).2.2.1 ∈ tb := tbc_8 124 (by decide +kernel) rfl
theorem w_2011 : Cond.fieldLink RX12 94 (TX12 50).1 (TX12 50).2.1 (TX12 50).2.2.1 ∈ tb := tbc_8 128 (by decide +kernel) rfl
theorem w_2012 : Cond.fieldLink RX12 97 (TX12 51).1 (TX12 51).2.1 (TX12 51).2.2.1 ∈ tb := tbc_8 129 (by decide +kernel) rfl
theorem w_2022 : Cond.fieldLink RX12 477 (TX12 61).1 (TX12 61).2.1 (TX12 61).2.2.1 ∈ tb := tbc_8 139 (by decide +kernel) rfl
theorem w_2023 : Cond.fieldLink RX12 532 (TX12 62).1 (TX12 62).2.1 (TX12 62).2.2.1 ∈ tb := tbc_8 140 (by decide +kernel) rfl
theorem w_2024 : Cond.fieldLink RX12 480 (TX12 63).1 (TX12 63).2.1 (TX12 63).2.2.1 ∈ tb := tbc_8 141 (by decide +kernel) rfl
theorem w_2026 : Cond.fieldLink RX12 499 (TX12 65).1 (TX12 65).2.1 (TX12 65).2.2.1 ∈ tb := tbc_8 143 (by decide +kernel) rfl
theorem w_2027 : Cond.fieldLink RX12 502 (TX12 66).1 (TX12 66).2.1 (TX12 66).2.2.1 ∈ tb := tbc_8 144 (by decide +kernel) rfl
theorem w_2040 : Cond.fieldLink RX12 514 (TX12 79).1 (TX12 79).2.1 (TX12 79).2.2.1 ∈ tb := tbc_8 157 (by decide +kernel) rfl
theorem w_2041 : Cond.fieldLink RX12 134 (TX12 80).1 (TX12 80).2.1 (TX12 80).2.2.1 ∈ tb := tbc_8 158 (by decide +kernel) rfl
theorem w_2042 : Cond.fieldLink RX12 137 (TX12 81).1 (TX12 81).2.1 (TX12 81).2.2.1 ∈ tb := tbc_8 159 (by decide +kernel) rfl
theorem w_2043 : Cond.fieldLink RX12 140 (TX12 82).1 (TX12 82).2.1 (TX12 82).2.2.1 ∈ tb := tbc_8 160 (by decide +kernel) rfl
theorem w_2533 : Cond.methodLink RX12 600 yX12_clearMultipliers ∈ tb := tbc_10 170 (by decide +kernel) rfl
theorem w_2535 : Cond.instanceMethod yX12_clearMultipliers ∈ tb := tbc_10 172 (by decide +kernel) rfl
theorem w_2536 : Cond.code yX12_clearMultipliers cX12_clearMultipliers 2 none ∈ tb := tbc_10 173 (by decide +kernel) rfl
theorem w_2545 : Cond.methodLink RX12 603 yX12_write ∈ tb := tbc_10 182 (by decide +kernel) rfl
theorem w_2547 : Cond.instanceMethod yX12_write ∈ tb := tbc_10 184 (by decide +kernel) rfl
theorem w_2548 : Cond.code yX12_write cX12_write 3 none ∈ tb := tbc_10 185 (by decide +kernel) rfl
theorem w_2562 : Cond.methodLink RX12 607 yX12_writeSmall ∈ tb := tbc_10 199 (by decide +kernel) rfl
theorem w_2564 : Cond.instanceMethod yX12_writeSmall ∈ tb := tbc_10 201 (by decide +kernel) rfl
theorem w_2565 : Cond.code yX12_writeSmall cX12_writeSmall 3 none ∈ tb := tbc_10 202 (by decide +kernel) rfl
theorem w_2646 : Cond.methodLink RX12 628 yX12_isWholeGoal ∈ tb := tbc_11 43 (by decide +kernel) rfl
theorem w_2648 : Cond.instanceMethod yX12_isWholeGoal ∈ tb := tbc_11 45 (by decide +kernel) rfl
theorem w_2649 : Cond.code yX12_isWholeGoal cX12_isWholeGoal 2 (some .boolean) ∈ tb := tbc_11 46 (by decide +kernel) rfl
section RW60
variable {p : Program} {l : Launch} {e : Env} {R : Room} {s : State} {m : MethodId} {args : Array Value} {below : List Frame} {meth : Method} {c : Code} {H : Heap} {locs : List Loc} {cells slots : Nat} {Q : State → Prop}
variable {cc : ByteArray} {pc nL : Nat} {ls : Array Slot} {rest st0 : List Value} {G : sG} {n : Nat} {S : sS}
theorem g_X12_465 (Cx : sC G p m c cc nL s args RX12) (hW : sW G n S H) {k : Nat} (hk : k < n) (ht : tau k = .inl 12) {v : Int} (hv : S.1 k 46 = v) (hdg : decode cc pc = .ok (.getfield 465, 3)) (kk : W p l e R s m args below meth c H locs cells slots Q (F0 m (pc + 3) ls (.int (iv v) :: rest))) : W p l e R s m args below meth c H locs cells slots Q (F0 m pc ls (.ref (G.2.2.1 + k) :: rest)) :=
  sGet Cx inX12 rfl 46 (by decide) w_2007 hW hk ht (congrArg (fun z => Value.int (iv z)) hv) hdg kk
theorem g_X12_97 (Cx : sC G p m c cc nL s args RX12) (hW : sW G n S H) {k : Nat} (hk : k < n) (ht : tau k = .inl 12) {v : Value} (hv : S.2.2.2 k 51 = v) (hdg : decode cc pc = .ok (.getfield 97, 3)) (kk : W p l e R s m args below meth c H locs cells slots Q (F0 m (pc + 3) ls (v :: rest))) : W p l e R s m args below meth c H locs cells slots Q (F0 m pc ls (.ref (G.2.2.1 + k) :: rest)) :=
  sGet Cx inX12 rfl 51 (by decide) w_2012 hW hk ht hv hdg kk
theorem g_X12_94 (Cx : sC G p m c cc nL s args RX12) (hW : sW G n S H) {k : Nat} (hk : k < n) (ht : tau k = .inl 12) {v : Value} (hv : S.2.2.2 k 50 = v) (hdg : decode cc pc = .ok (.getfield 94, 3)) (kk : W p l e R s m args below meth c H locs cells slots Q (F0 m (pc + 3) ls (v :: rest))) : W p l e R s m args below meth c H locs cells slots Q (F0 m pc ls (.ref (G.2.2.1 + k) :: rest)) :=
  sGet Cx inX12 rfl 50 (by decide) w_2011 hW hk ht hv hdg kk
theorem c_X12_628 (Cx : sC G p m c cc nL s args RX12) {rm : Room} {mc ms : Nat} (h1 : rm.cells = mc) (h2 : rm.slots = ms) (h3 : rm.frames + 1 ≤ R.frames ∧ 8 + (2 + 11) + rm.locals ≤ R.locals) : CallW R s args RX12 RX12 628 yX12_isWholeGoal cX12_isWholeGoal 2 (some .boolean) (.code yX12_isWholeGoal cX12_isWholeGoal 2 (some .boolean) :: tb) rm mc ms 0 :=
  sCw Cx 0 w_2646 w_2648 w_172 w_217 w_2649 (by decide +kernel) h1 h2 h3
theorem g_X12_137 (Cx : sC G p m c cc nL s args RX12) (hW : sW G n S H) {k : Nat} (hk : k < n) (ht : tau k = .inl 12) {v : Value} (hv : S.2.2.2 k 81 = v) (hdg : decode cc pc = .ok (.getfield 137, 3)) (kk : W p l e R s m args below meth c H locs cells slots Q (F0 m (pc + 3) ls (v :: rest))) : W p l e R s m args below meth c H locs cells slots Q (F0 m pc ls (.ref (G.2.2.1 + k) :: rest)) :=
  sGet Cx inX12 rfl 81 (by decide) w_2042 hW hk ht hv hdg kk
theorem g_X12_134 (Cx : sC G p m c cc nL s args RX12) (hW : sW G n S H) {k : Nat} (hk : k < n) (ht : tau k = .inl 12) {v : Value} (hv : S.2.2.2 k 80 = v) (hdg : decode cc pc = .ok (.getfield 134, 3)) (kk : W p l e R s m args below meth c H locs cells slots Q (F0 m (pc + 3) ls (v :: rest))) : W p l e R s m args below meth c H locs cells slots Q (F0 m pc ls (.ref (G.2.2.1 + k) :: rest)) :=
  sGet Cx inX12 rfl 80 (by decide) w_2041 hW hk ht hv hdg kk
theorem c_X12_600 (Cx : sC G p m c cc nL s args RX12) {rm : Room} {mc ms : Nat} (h1 : rm.cells = mc) (h2 : rm.slots = ms) (h3 : rm.frames + 1 ≤ R.frames ∧ 8 + (2 + 11) + rm.locals ≤ R.locals) : CallW R s args RX12 RX12 600 yX12_clearMultipliers cX12_clearMultipliers 2 none (.code yX12_clearMultipliers cX12_clearMultipliers 2 none :: tb) rm mc ms 0 :=
  sCw Cx 0 w_2533 w_2535 w_150 w_217 w_2536 (by decide +kernel) h1 h2 h3
theorem c_X12_603 (Cx : sC G p m c cc nL s args RX12) {rm : Room} {mc ms : Nat} (h1 : rm.cells = mc) (h2 : rm.slots = ms) (h3 : rm.frames + 1 ≤ R.frames ∧ 8 + (3 + 11) + rm.locals ≤ R.locals) : CallW R s args RX12 RX12 603 yX12_write cX12_write 3 none (.code yX12_write cX12_write 3 none :: tb) rm mc ms 1 :=
  sCw Cx 1 w_2545 w_2547 w_152 w_217 w_2548 (by decide +kernel) h1 h2 h3
theorem g_X12_480 (Cx : sC G p m c cc nL s args RX12) (hW : sW G n S H) {k : Nat} (hk : k < n) (ht : tau k = .inl 12) {v : Int} (hv : S.1 k 63 = v) (hdg : decode cc pc = .ok (.getfield 480, 3)) (kk : W p l e R s m args below meth c H locs cells slots Q (F0 m (pc + 3) ls (.int (iv v) :: rest))) : W p l e R s m args below meth c H locs cells slots Q (F0 m pc ls (.ref (G.2.2.1 + k) :: rest)) :=
  sGet Cx inX12 rfl 63 (by decide) w_2024 hW hk ht (congrArg (fun z => Value.int (iv z)) hv) hdg kk
theorem p_X12_477 (Cx : sC G p m c cc nL s args RX12) (hW : sW G n S H) (hL : sL G locs) {k : Nat} (hk : k < n) (ht : tau k = .inl 12) {v : Int} (hdg : decode cc pc = .ok (.putfield 477, 3)) (kk : ∀ (H1 : Heap) (locs1 : List Loc), sW G n (uF S k 61 v) H1 → sL G locs1 → W p l e R s m args below meth c H1 locs1 cells slots Q (F0 m (pc + 3) ls rest)) : W p l e R s m args below meth c H locs cells slots Q (F0 m pc ls (.int (iv v) :: .ref (G.2.2.1 + k) :: rest)) :=
  sPut Cx inX12 tyX12 tyX12_ok nmX12 rfl 61 (by decide) w_2022 rfl hW hL hk ht rfl rfl (fun _ h => uF_same h) (fun _ h => uF_off h) (congrArg (fun z => Value.int (iv z)) uF_on) hdg kk
theorem c_X12_607 (Cx : sC G p m c cc nL s args RX12) {rm : Room} {mc ms : Nat} (h1 : rm.cells = mc) (h2 : rm.slots = ms) (h3 : rm.frames + 1 ≤ R.frames ∧ 8 + (3 + 11) + rm.locals ≤ R.locals) : CallW R s args RX12 RX12 607 yX12_writeSmall cX12_writeSmall 3 none (.code yX12_writeSmall cX12_writeSmall 3 none :: tb) rm mc ms 1 :=
  sCw Cx 1 w_2562 w_2564 w_156 w_217 w_2565 (by decide +kernel) h1 h2 h3
theorem g_X12_499 (Cx : sC G p m c cc nL s args RX12) (hW : sW G n S H) {k : Nat} (hk : k < n) (ht : tau k = .inl 12) {v : Int} (hv : S.1 k 65 = v) (hdg : decode cc pc = .ok (.getfield 499, 3)) (kk : W p l e R s m args below meth c H locs cells slots Q (F0 m (pc + 3) ls (.int (iv v) :: rest))) : W p l e R s m args below meth c H locs cells slots Q (F0 m pc ls (.ref (G.2.2.1 + k) :: rest)) :=
  sGet Cx inX12 rfl 65 (by decide) w_2026 hW hk ht (congrArg (fun z => Value.int (iv z)) hv) hdg kk
theorem p_X12_499 (Cx : sC G p m c cc nL s args RX12) (hW : sW G n S H) (hL : sL G locs) {k : Nat} (hk : k < n) (ht : tau k = .inl 12) {v : Int} (hdg : decode cc pc = .ok (.putfield 499, 3)) (kk : ∀ (H1 : Heap) (locs1 : List Loc), sW G n (uF S k 65 v) H1 → sL G locs1 → W p l e R s m args below meth c H1 locs1 cells slots Q (F0 m (pc + 3) ls rest)) : W p l e R s m args below meth c H locs cells slots Q (F0 m pc ls (.int (iv v) :: .ref (G.2.2.1 + k) :: rest)) :=
  sPut Cx inX12 tyX12 tyX12_ok nmX12 rfl 65 (by decide) w_2026 rfl hW hL hk ht rfl rfl (fun _ h => uF_same h) (fun _ h => uF_off h) (congrArg (fun z => Value.int (iv z)) uF_on) hdg kk
theorem p_X12_480 (Cx : sC G p m c cc nL s args RX12) (hW : sW G n S H) (hL : sL G locs) {k : Nat} (hk : k < n) (ht : tau k = .inl 12) {v : Int} (hdg : decode cc pc = .ok (.putfield 480, 3)) (kk : ∀ (H1 : Heap) (locs1 : List Loc), sW G n (uF S k 63 v) H1 → sL G locs1 → W p l e R s m args below meth c H1 locs1 cells slots Q (F0 m (pc + 3) ls rest)) : W p l e R s m args below meth c H locs cells slots Q (F0 m pc ls (.int (iv v) :: .ref (G.2.2.1 + k) :: rest)) :=
  sPut Cx inX12 tyX12 tyX12_ok nmX12 rfl 63 (by decide) w_2024 rfl hW hL hk ht rfl rfl (fun _ h => uF_same h) (fun _ h => uF_off h) (congrArg (fun z => Value.int (iv z)) uF_on) hdg kk
theorem p_X12_483 (Cx : sC G p m c cc nL s args RX12) (hW : sW G n S H) (hL : sL G locs) {k : Nat} (hk : k < n) (ht : tau k = .inl 12) {v : Int} (hdg : decode cc pc = .ok (.putfield 483, 3)) (kk : ∀ (H1 : Heap) (locs1 : List Loc), sW G n (uF S k 58 v) H1 → sL G locs1 → W p l e R s m args below meth c H1 locs1 cells slots Q (F0 m (pc + 3) ls rest)) : W p l e R s m args below meth c H locs cells slots Q (F0 m pc ls (.int (iv v) :: .ref (G.2.2.1 + k) :: rest)) :=
  sPut Cx inX12 tyX12 tyX12_ok nmX12 rfl 58 (by decide) w_2019 rfl hW hL hk ht rfl rfl (fun _ h => uF_same h) (fun _ h => uF_off h) (congrArg (fun z => Value.int (iv z)) uF_on) hdg kk
theorem p_X12_532 (Cx : sC G p m c cc nL s args RX12) (hW : sW G n S H) (hL : sL G locs) {k : Nat} (hk : k < n) (ht : tau k = .inl 12) {v : Int} (hdg : decode cc pc = .ok (.putfield 532, 3)) (kk : ∀ (H1 : Heap) (locs1 : List Loc), sW G n (uF S k 62 v) H1 → sL G locs1 → W p l e R s m args below meth c H1 locs1 cells slots Q (F0 m (pc + 3) ls rest)) : W p l e R s m args below meth c H locs cells slots Q (F0 m pc ls (.int (iv v) :: .ref (G.2.2.1 + k) :: rest)) :=
  sPut Cx inX12 tyX12 tyX12_ok nmX12 rfl 62 (by decide) w_2023 rfl hW hL hk ht rfl rfl (fun _ h => uF_same h) (fun _ h => uF_off h) (congrArg (fun z => Value.int (iv z)) uF_on) hdg kk
theorem p_X12_526 (Cx : sC G p m c cc nL s args RX12) (hW : sW G n S H) (hL : sL G locs) {k : Nat} (hk : k < n) (ht : tau k = .inl 12) {v : Int} (hdg : decode cc pc = .ok (.putfield 526, 3)) (kk : ∀ (H1 : Heap) (locs1 : List Loc), sW G n (uF S k 59 v) H1 → sL G locs1 → W p l e R s m args below meth c H1 locs1 cells slots Q (F0 m (pc + 3) ls rest)) : W p l e R s m args below meth c H locs cells slots Q (F0 m pc ls (.int (iv v) :: .ref (G.2.2.1 + k) :: rest)) :=
  sPut Cx inX12 tyX12 tyX12_ok nmX12 rfl 59 (by decide) w_2020 rfl hW hL hk ht rfl rfl (fun _ h => uF_same h) (fun _ h => uF_off h) (congrArg (fun z => Value.int (iv z)) uF_on) hdg kk
theorem p_X12_535 (Cx : sC G p m c cc nL s args RX12) (hW : sW G n S H) (hL : sL G locs) {k : Nat} (hk : k < n) (ht : tau k = .inl 12) {v : Int} (hv : v = 0 ∨ v = 1) (hdg : decode cc pc = .ok (.putfield 535, 3)) (kk : ∀ (H1 : Heap) (locs1 : List Loc), sW G n (uF S k 60 v) H1 → sL G locs1 → W p l e R s m args below meth c H1 locs1 cells slots Q (F0 m (pc + 3) ls rest)) : W p l e R s m args below meth c H locs cells slots Q (F0 m pc ls (.int (iv v) :: .ref (G.2.2.1 + k) :: rest)) :=
  sPut Cx inX12 tyX12 tyX12_ok nmX12 rfl 60 (by decide) w_2021 rfl hW hL hk ht (by rcases hv with rfl | rfl <;> rfl) (by rcases hv with rfl | rfl <;> rfl) (fun _ h => uF_same h) (fun _ h => uF_off h) (congrArg (fun z => Value.int (iv z)) uF_on) hdg kk
theorem p_X12_514 (Cx : sC G p m c cc nL s args RX12) (hW : sW G n S H) (hL : sL G locs) {k : Nat} (hk : k < n) (ht : tau k = .inl 12) {v : Int} (hv : v = 0 ∨ v = 1) (hdg : decode cc pc = .ok (.putfield 514, 3)) (kk : ∀ (H1 : Heap) (locs1 : List Loc), sW G n (uF S k 79 v) H1 → sL G locs1 → W p l e R s m args below meth c H1 locs1 cells slots Q (F0 m (pc + 3) ls rest)) : W p l e R s m args below meth c H locs cells slots Q (F0 m pc ls (.int (iv v) :: .ref (G.2.2.1 + k) :: rest)) :=
  sPut Cx inX12 tyX12 tyX12_ok nmX12 rfl 79 (by decide) w_2040 rfl hW hL hk ht (by rcases hv with rfl | rfl <;> rfl) (by rcases hv with rfl | rfl <;> rfl) (fun _ h => uF_same h) (fun _ h => uF_off h) (congrArg (fun z => Value.int (iv z)) uF_on) hdg kk
theorem g_X12_502 (Cx : sC G p m c cc nL s args RX12) (hW : sW G n S H) {k : Nat} (hk : k < n) (ht : tau k = .inl 12) {v : Int} (hv : S.1 k 66 = v) (hdg : decode cc pc = .ok (.getfield 502, 3)) (kk : W p l e R s m args below meth c H locs cells slots Q (F0 m (pc + 3) ls (.int (iv v) :: rest))) : W p l e R s m args below meth c H locs cells slots Q (F0 m pc ls (.ref (G.2.2.1 + k) :: rest)) :=
  sGet Cx inX12 rfl 66 (by decide) w_2027 hW hk ht (congrArg (fun z => Value.int (iv z)) hv) hdg kk
theorem p_X12_502 (Cx : sC G p m c cc nL s args RX12) (hW : sW G n S H) (hL : sL G locs) {k : Nat} (hk : k < n) (ht : tau k = .inl 12) {v : Int} (hdg : decode cc pc = .ok (.putfield 502, 3)) (kk : ∀ (H1 : Heap) (locs1 : List Loc), sW G n (uF S k 66 v) H1 → sL G locs1 → W p l e R s m args below meth c H1 locs1 cells slots Q (F0 m (pc + 3) ls rest)) : W p l e R s m args below meth c H locs cells slots Q (F0 m pc ls (.int (iv v) :: .ref (G.2.2.1 + k) :: rest)) :=
  sPut Cx inX12 tyX12 tyX12_ok nmX12 rfl 66 (by decide) w_2027 rfl hW hL hk ht rfl rfl (fun _ h => uF_same h) (fun _ h => uF_off h) (congrArg (fun z => Value.int (iv z)) uF_on) hdg kk
theorem g_X12_140 (Cx : sC G p m c cc nL s args RX12) (hW : sW G n S H) {k : Nat} (hk : k < n) (ht : tau k = .inl 12) {v : Value} (hv : S.2.2.2 k 82 = v) (hdg : decode cc pc = .ok (.getfield 140, 3)) (kk : W p l e R s m args below meth c H locs cells slots Q (F0 m (pc + 3) ls (v :: rest))) : W p l e R s m args below meth c H locs cells slots Q (F0 m pc ls (.ref (G.2.2.1 + k) :: rest)) :=
  sGet Cx inX12 rfl 82 (by decide) w_2043 hW hk ht hv hdg kk
end RW60
