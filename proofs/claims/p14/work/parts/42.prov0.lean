theorem dX5_clear_0 : decode cX5_clear 0 = .ok (.aload_n 0, 1) := by decide +kernel
theorem dX5_clear_1 : decode cX5_clear 1 = .ok (.getfield 16, 3) := by decide +kernel
theorem dX5_clear_4 : decode cX5_clear 4 = .ok (.invokevirtual 52, 3) := by decide +kernel
theorem dX5_clear_7 : decode cX5_clear 7 = .ok (.aload_n 0, 1) := by decide +kernel
theorem dX5_clear_8 : decode cX5_clear 8 = .ok (.getfield 20, 3) := by decide +kernel
theorem dX5_clear_11 : decode cX5_clear 11 = .ok (.invokevirtual 52, 3) := by decide +kernel
theorem dX5_clear_14 : decode cX5_clear 14 = .ok (.return_, 1) := by decide +kernel
theorem dX5_common_0 : decode cX5_common 0 = .ok (.aload_n 1, 1) := by decide +kernel
theorem dX5_common_1 : decode cX5_common 1 = .ok (.astore_n 3, 1) := by decide +kernel
theorem dX5_common_2 : decode cX5_common 2 = .ok (.aload_n 2, 1) := by decide +kernel
theorem dX5_common_3 : decode cX5_common 3 = .ok (.astore 4, 2) := by decide +kernel
theorem dX5_common_5 : decode cX5_common 5 = .ok (.iconst 0, 1) := by decide +kernel
theorem dX5_common_6 : decode cX5_common 6 = .ok (.istore 5, 2) := by decide +kernel
theorem dX5_common_8 : decode cX5_common 8 = .ok (.iload 5, 2) := by decide +kernel
theorem dX5_common_10 : decode cX5_common 10 = .ok (.sipush 1000, 3) := by decide +kernel
theorem dX5_common_13 : decode cX5_common 13 = .ok (.if_icmp .ge 41, 3) := by decide +kernel
theorem dX5_common_16 : decode cX5_common 16 = .ok (.aload 4, 2) := by decide +kernel
theorem dX5_common_18 : decode cX5_common 18 = .ok (.getfield 126, 3) := by decide +kernel
theorem dX5_common_21 : decode cX5_common 21 = .ok (.ifCond .eq 33, 3) := by decide +kernel
theorem dX5_common_24 : decode cX5_common 24 = .ok (.aload_n 3, 1) := by decide +kernel
theorem dX5_common_25 : decode cX5_common 25 = .ok (.aload 4, 2) := by decide +kernel
theorem dX5_common_27 : decode cX5_common 27 = .ok (.aload_n 0, 1) := by decide +kernel
theorem dX5_common_28 : decode cX5_common 28 = .ok (.getfield 46, 3) := by decide +kernel
theorem dX5_common_31 : decode cX5_common 31 = .ok (.aload_n 0, 1) := by decide +kernel
theorem dX5_common_32 : decode cX5_common 32 = .ok (.getfield 49, 3) := by decide +kernel
theorem dX5_common_35 : decode cX5_common 35 = .ok (.invokevirtual 137, 3) := by decide +kernel
theorem dX5_common_38 : decode cX5_common 38 = .ok (.aload_n 3, 1) := by decide +kernel
theorem dX5_common_39 : decode cX5_common 39 = .ok (.astore 6, 2) := by decide +kernel
theorem dX5_common_41 : decode cX5_common 41 = .ok (.aload 4, 2) := by decide +kernel
theorem dX5_common_43 : decode cX5_common 43 = .ok (.astore_n 3, 1) := by decide +kernel
theorem dX5_common_44 : decode cX5_common 44 = .ok (.aload 6, 2) := by decide +kernel
theorem dX5_common_46 : decode cX5_common 46 = .ok (.astore 4, 2) := by decide +kernel
theorem dX5_common_48 : decode cX5_common 48 = .ok (.iinc 5 1, 3) := by decide +kernel
theorem dX5_common_51 : decode cX5_common 51 = .ok (.goto (-43), 3) := by decide +kernel
theorem dX5_common_54 : decode cX5_common 54 = .ok (.aload_n 3, 1) := by decide +kernel
theorem dX5_common_55 : decode cX5_common 55 = .ok (.areturn, 1) := by decide +kernel
theorem dX5_isMade_0 : decode cX5_isMade 0 = .ok (.aload_n 0, 1) := by decide +kernel
theorem dX5_isMade_1 : decode cX5_isMade 1 = .ok (.getfield 16, 3) := by decide +kernel
theorem dX5_isMade_4 : decode cX5_isMade 4 = .ok (.invokevirtual 59, 3) := by decide +kernel
theorem dX5_isMade_7 : decode cX5_isMade 7 = .ok (.ifCond .le 7, 3) := by decide +kernel
theorem dX5_isMade_10 : decode cX5_isMade 10 = .ok (.iconst 1, 1) := by decide +kernel
theorem dX5_isMade_11 : decode cX5_isMade 11 = .ok (.goto 4, 3) := by decide +kernel
theorem dX5_isMade_14 : decode cX5_isMade 14 = .ok (.iconst 0, 1) := by decide +kernel
theorem dX5_isMade_15 : decode cX5_isMade 15 = .ok (.ireturn, 1) := by decide +kernel
theorem dX5_isOver_0 : decode cX5_isOver 0 = .ok (.aload_n 0, 1) := by decide +kernel
theorem dX5_isOver_1 : decode cX5_isOver 1 = .ok (.getfield 16, 3) := by decide +kernel
theorem dX5_isOver_4 : decode cX5_isOver 4 = .ok (.invokevirtual 55, 3) := by decide +kernel
theorem dX5_isOver_7 : decode cX5_isOver 7 = .ok (.ifCond .ne 13, 3) := by decide +kernel
theorem dX5_isOver_10 : decode cX5_isOver 10 = .ok (.aload_n 0, 1) := by decide +kernel
theorem dX5_isOver_11 : decode cX5_isOver 11 = .ok (.invokevirtual 63, 3) := by decide +kernel
theorem dX5_isOver_14 : decode cX5_isOver 14 = .ok (.sipush 30000, 3) := by decide +kernel
theorem dX5_isOver_17 : decode cX5_isOver 17 = .ok (.if_icmp .le 7, 3) := by decide +kernel
theorem dX5_isOver_20 : decode cX5_isOver 20 = .ok (.iconst 1, 1) := by decide +kernel
theorem dX5_isOver_21 : decode cX5_isOver 21 = .ok (.goto 4, 3) := by decide +kernel
theorem dX5_isOver_24 : decode cX5_isOver 24 = .ok (.iconst 0, 1) := by decide +kernel
theorem dX5_isOver_25 : decode cX5_isOver 25 = .ok (.ireturn, 1) := by decide +kernel
theorem dX5_isTreeOver_0 : decode cX5_isTreeOver 0 = .ok (.aload_n 0, 1) := by decide +kernel
theorem dX5_isTreeOver_1 : decode cX5_isTreeOver 1 = .ok (.getfield 20, 3) := by decide +kernel
theorem dX5_isTreeOver_4 : decode cX5_isTreeOver 4 = .ok (.invokevirtual 55, 3) := by decide +kernel
theorem dX5_isTreeOver_7 : decode cX5_isTreeOver 7 = .ok (.ireturn, 1) := by decide +kernel
theorem dX5_pointDenominator_0 : decode cX5_pointDenominator 0 = .ok (.aload_n 1, 1) := by decide +kernel
theorem dX5_pointDenominator_1 : decode cX5_pointDenominator 1 = .ok (.aload_n 0, 1) := by decide +kernel
theorem dX5_pointDenominator_2 : decode cX5_pointDenominator 2 = .ok (.getfield 25, 3) := by decide +kernel
theorem dX5_pointDenominator_5 : decode cX5_pointDenominator 5 = .ok (.bipush 104, 2) := by decide +kernel
theorem dX5_pointDenominator_7 : decode cX5_pointDenominator 7 = .ok (.invokevirtual 88, 3) := by decide +kernel
theorem dX5_pointDenominator_10 : decode cX5_pointDenominator 10 = .ok (.return_, 1) := by decide +kernel
theorem dX5_pointNumber_0 : decode cX5_pointNumber 0 = .ok (.aload_n 2, 1) := by decide +kernel
theorem dX5_pointNumber_1 : decode cX5_pointNumber 1 = .ok (.aload_n 0, 1) := by decide +kernel
theorem dX5_pointNumber_2 : decode cX5_pointNumber 2 = .ok (.getfield 25, 3) := by decide +kernel
theorem dX5_pointNumber_5 : decode cX5_pointNumber 5 = .ok (.iload_n 1, 1) := by decide +kernel
theorem dX5_pointNumber_6 : decode cX5_pointNumber 6 = .ok (.bipush 8, 2) := by decide +kernel
theorem dX5_pointNumber_8 : decode cX5_pointNumber 8 = .ok (.imul, 1) := by decide +kernel
theorem dX5_pointNumber_9 : decode cX5_pointNumber 9 = .ok (.invokevirtual 88, 3) := by decide +kernel
theorem dX5_pointNumber_12 : decode cX5_pointNumber 12 = .ok (.return_, 1) := by decide +kernel
theorem dX5_proofByte_0 : decode cX5_proofByte 0 = .ok (.iload_n 1, 1) := by decide +kernel
theorem dX5_proofByte_1 : decode cX5_proofByte 1 = .ok (.aload_n 0, 1) := by decide +kernel
theorem dX5_proofByte_2 : decode cX5_proofByte 2 = .ok (.getfield 16, 3) := by decide +kernel
theorem dX5_proofByte_5 : decode cX5_proofByte 5 = .ok (.invokevirtual 59, 3) := by decide +kernel
theorem dX5_proofByte_8 : decode cX5_proofByte 8 = .ok (.if_icmp .ge 12, 3) := by decide +kernel
theorem dX5_proofByte_11 : decode cX5_proofByte 11 = .ok (.aload_n 0, 1) := by decide +kernel
theorem dX5_proofByte_12 : decode cX5_proofByte 12 = .ok (.getfield 16, 3) := by decide +kernel
theorem dX5_proofByte_15 : decode cX5_proofByte 15 = .ok (.iload_n 1, 1) := by decide +kernel
theorem dX5_proofByte_16 : decode cX5_proofByte 16 = .ok (.invokevirtual 66, 3) := by decide +kernel
theorem dX5_proofByte_19 : decode cX5_proofByte 19 = .ok (.ireturn, 1) := by decide +kernel
theorem dX5_proofByte_20 : decode cX5_proofByte 20 = .ok (.iload_n 1, 1) := by decide +kernel
theorem dX5_proofByte_21 : decode cX5_proofByte 21 = .ok (.aload_n 0, 1) := by decide +kernel
theorem dX5_proofByte_22 : decode cX5_proofByte 22 = .ok (.getfield 16, 3) := by decide +kernel
theorem dX5_proofByte_25 : decode cX5_proofByte 25 = .ok (.invokevirtual 59, 3) := by decide +kernel
theorem dX5_proofByte_28 : decode cX5_proofByte 28 = .ok (.isub, 1) := by decide +kernel
theorem dX5_proofByte_29 : decode cX5_proofByte 29 = .ok (.iconst 1, 1) := by decide +kernel
theorem dX5_proofByte_30 : decode cX5_proofByte 30 = .ok (.isub, 1) := by decide +kernel
theorem dX5_proofByte_31 : decode cX5_proofByte 31 = .ok (.istore_n 2, 1) := by decide +kernel
theorem dX5_proofByte_32 : decode cX5_proofByte 32 = .ok (.iload_n 2, 1) := by decide +kernel
theorem dX5_proofByte_33 : decode cX5_proofByte 33 = .ok (.ifCond .ge 18, 3) := by decide +kernel
theorem dX5_proofByte_36 : decode cX5_proofByte 36 = .ok (.aload_n 0, 1) := by decide +kernel
theorem dX5_proofByte_37 : decode cX5_proofByte 37 = .ok (.getfield 20, 3) := by decide +kernel
theorem dX5_proofByte_40 : decode cX5_proofByte 40 = .ok (.invokevirtual 59, 3) := by decide +kernel
theorem dX5_proofByte_43 : decode cX5_proofByte 43 = .ok (.ifCond .le 8, 3) := by decide +kernel
theorem dX5_proofByte_46 : decode cX5_proofByte 46 = .ok (.bipush 32, 2) := by decide +kernel
theorem dX5_proofByte_48 : decode cX5_proofByte 48 = .ok (.goto 11, 3) := by decide +kernel
theorem dX5_proofByte_51 : decode cX5_proofByte 51 = .ok (.aload_n 0, 1) := by decide +kernel
theorem dX5_proofByte_52 : decode cX5_proofByte 52 = .ok (.getfield 20, 3) := by decide +kernel
theorem dX5_proofByte_55 : decode cX5_proofByte 55 = .ok (.iload_n 2, 1) := by decide +kernel
theorem dX5_proofByte_56 : decode cX5_proofByte 56 = .ok (.invokevirtual 66, 3) := by decide +kernel
theorem dX5_proofByte_59 : decode cX5_proofByte 59 = .ok (.ireturn, 1) := by decide +kernel
theorem dX5_proofLength_0 : decode cX5_proofLength 0 = .ok (.aload_n 0, 1) := by decide +kernel
theorem dX5_proofLength_1 : decode cX5_proofLength 1 = .ok (.getfield 16, 3) := by decide +kernel
theorem dX5_proofLength_4 : decode cX5_proofLength 4 = .ok (.invokevirtual 59, 3) := by decide +kernel
theorem dX5_proofLength_7 : decode cX5_proofLength 7 = .ok (.aload_n 0, 1) := by decide +kernel
theorem dX5_proofLength_8 : decode cX5_proofLength 8 = .ok (.getfield 20, 3) := by decide +kernel
theorem dX5_proofLength_11 : decode cX5_proofLength 11 = .ok (.invokevirtual 59, 3) := by decide +kernel
theorem dX5_proofLength_14 : decode cX5_proofLength 14 = .ok (.ifCond .le 15, 3) := by decide +kernel
theorem dX5_proofLength_17 : decode cX5_proofLength 17 = .ok (.iconst 1, 1) := by decide +kernel
theorem dX5_proofLength_18 : decode cX5_proofLength 18 = .ok (.aload_n 0, 1) := by decide +kernel
theorem dX5_proofLength_19 : decode cX5_proofLength 19 = .ok (.getfield 20, 3) := by decide +kernel
theorem dX5_proofLength_22 : decode cX5_proofLength 22 = .ok (.invokevirtual 59, 3) := by decide +kernel
theorem dX5_proofLength_25 : decode cX5_proofLength 25 = .ok (.iadd, 1) := by decide +kernel
theorem dX5_proofLength_26 : decode cX5_proofLength 26 = .ok (.goto 4, 3) := by decide +kernel
theorem dX5_proofLength_29 : decode cX5_proofLength 29 = .ok (.iconst 0, 1) := by decide +kernel
theorem dX5_proofLength_30 : decode cX5_proofLength 30 = .ok (.iadd, 1) := by decide +kernel
theorem dX5_proofLength_31 : decode cX5_proofLength 31 = .ok (.ireturn, 1) := by decide +kernel
theorem dX5_proveInfeasible_0 : decode cX5_proveInfeasible 0 = .ok (.aload_n 0, 1) := by decide +kernel
theorem dX5_proveInfeasible_1 : decode cX5_proveInfeasible 1 = .ok (.getfield 16, 3) := by decide +kernel
theorem dX5_proveInfeasible_4 : decode cX5_proveInfeasible 4 = .ok (.invokevirtual 52, 3) := by decide +kernel
theorem dX5_proveInfeasible_7 : decode cX5_proveInfeasible 7 = .ok (.aload_n 0, 1) := by decide +kernel
theorem dX5_proveInfeasible_8 : decode cX5_proveInfeasible 8 = .ok (.getfield 16, 3) := by decide +kernel
theorem dX5_proveInfeasible_11 : decode cX5_proveInfeasible 11 = .ok (.ldc 192, 2) := by decide +kernel
theorem dX5_proveInfeasible_13 : decode cX5_proveInfeasible 13 = .ok (.invokevirtual 95, 3) := by decide +kernel
theorem dX5_proveInfeasible_16 : decode cX5_proveInfeasible 16 = .ok (.return_, 1) := by decide +kernel
theorem dX5_proveOptimal_0 : decode cX5_proveOptimal 0 = .ok (.aload_n 0, 1) := by decide +kernel
theorem dX5_proveOptimal_1 : decode cX5_proveOptimal 1 = .ok (.getfield 16, 3) := by decide +kernel
theorem dX5_proveOptimal_4 : decode cX5_proveOptimal 4 = .ok (.invokevirtual 52, 3) := by decide +kernel
theorem dX5_proveOptimal_7 : decode cX5_proveOptimal 7 = .ok (.aload_n 0, 1) := by decide +kernel
theorem dX5_proveOptimal_8 : decode cX5_proveOptimal 8 = .ok (.getfield 16, 3) := by decide +kernel
theorem dX5_proveOptimal_11 : decode cX5_proveOptimal 11 = .ok (.ldc 178, 2) := by decide +kernel
theorem dX5_proveOptimal_13 : decode cX5_proveOptimal 13 = .ok (.invokevirtual 95, 3) := by decide +kernel
theorem dX5_proveOptimal_16 : decode cX5_proveOptimal 16 = .ok (.aload_n 0, 1) := by decide +kernel
theorem dX5_proveOptimal_17 : decode cX5_proveOptimal 17 = .ok (.iconst 0, 1) := by decide +kernel
theorem dX5_proveOptimal_18 : decode cX5_proveOptimal 18 = .ok (.aload_n 0, 1) := by decide +kernel
theorem dX5_proveOptimal_19 : decode cX5_proveOptimal 19 = .ok (.getfield 30, 3) := by decide +kernel
theorem dX5_proveOptimal_22 : decode cX5_proveOptimal 22 = .ok (.invokevirtual 173, 3) := by decide +kernel
theorem dX5_proveOptimal_25 : decode cX5_proveOptimal 25 = .ok (.aload_n 0, 1) := by decide +kernel
theorem dX5_proveOptimal_26 : decode cX5_proveOptimal 26 = .ok (.aload_n 0, 1) := by decide +kernel
theorem dX5_proveOptimal_27 : decode cX5_proveOptimal 27 = .ok (.getfield 34, 3) := by decide +kernel
theorem dX5_proveOptimal_30 : decode cX5_proveOptimal 30 = .ok (.invokevirtual 170, 3) := by decide +kernel
theorem dX5_proveOptimal_33 : decode cX5_proveOptimal 33 = .ok (.aload_n 0, 1) := by decide +kernel
theorem dX5_proveOptimal_34 : decode cX5_proveOptimal 34 = .ok (.aload_n 0, 1) := by decide +kernel
theorem dX5_proveOptimal_35 : decode cX5_proveOptimal 35 = .ok (.getfield 30, 3) := by decide +kernel
theorem dX5_proveOptimal_38 : decode cX5_proveOptimal 38 = .ok (.aload_n 0, 1) := by decide +kernel
theorem dX5_proveOptimal_39 : decode cX5_proveOptimal 39 = .ok (.getfield 34, 3) := by decide +kernel
theorem dX5_proveOptimal_42 : decode cX5_proveOptimal 42 = .ok (.aload_n 1, 1) := by decide +kernel
theorem dX5_proveOptimal_43 : decode cX5_proveOptimal 43 = .ok (.getfield 180, 3) := by decide +kernel
theorem dX5_proveOptimal_46 : decode cX5_proveOptimal 46 = .ok (.ifCond .ne 7, 3) := by decide +kernel
theorem dX5_proveOptimal_49 : decode cX5_proveOptimal 49 = .ok (.iconst 1, 1) := by decide +kernel
theorem dX5_proveOptimal_50 : decode cX5_proveOptimal 50 = .ok (.goto 4, 3) := by decide +kernel
theorem dX5_proveOptimal_53 : decode cX5_proveOptimal 53 = .ok (.iconst 0, 1) := by decide +kernel
theorem dX5_proveOptimal_54 : decode cX5_proveOptimal 54 = .ok (.invokevirtual 156, 3) := by decide +kernel
theorem dX5_proveOptimal_57 : decode cX5_proveOptimal 57 = .ok (.aload_n 0, 1) := by decide +kernel
theorem dX5_proveOptimal_58 : decode cX5_proveOptimal 58 = .ok (.getfield 16, 3) := by decide +kernel
theorem dX5_proveOptimal_61 : decode cX5_proveOptimal 61 = .ok (.aload_n 0, 1) := by decide +kernel
theorem dX5_proveOptimal_62 : decode cX5_proveOptimal 62 = .ok (.getfield 30, 3) := by decide +kernel
theorem dX5_proveOptimal_65 : decode cX5_proveOptimal 65 = .ok (.iconst 1, 1) := by decide +kernel
theorem dX5_proveOptimal_66 : decode cX5_proveOptimal 66 = .ok (.invokevirtual 99, 3) := by decide +kernel
theorem dX5_proveOptimal_69 : decode cX5_proveOptimal 69 = .ok (.aload_n 0, 1) := by decide +kernel
theorem dX5_proveOptimal_70 : decode cX5_proveOptimal 70 = .ok (.getfield 16, 3) := by decide +kernel
theorem dX5_proveOptimal_73 : decode cX5_proveOptimal 73 = .ok (.ldc 176, 2) := by decide +kernel
theorem dX5_proveOptimal_75 : decode cX5_proveOptimal 75 = .ok (.invokevirtual 95, 3) := by decide +kernel
theorem dX5_proveOptimal_78 : decode cX5_proveOptimal 78 = .ok (.aload_n 0, 1) := by decide +kernel
theorem dX5_proveOptimal_79 : decode cX5_proveOptimal 79 = .ok (.getfield 16, 3) := by decide +kernel
theorem dX5_proveOptimal_82 : decode cX5_proveOptimal 82 = .ok (.aload_n 0, 1) := by decide +kernel
theorem dX5_proveOptimal_83 : decode cX5_proveOptimal 83 = .ok (.getfield 34, 3) := by decide +kernel
theorem dX5_proveOptimal_86 : decode cX5_proveOptimal 86 = .ok (.iconst 1, 1) := by decide +kernel
theorem dX5_proveOptimal_87 : decode cX5_proveOptimal 87 = .ok (.invokevirtual 99, 3) := by decide +kernel
theorem dX5_proveOptimal_90 : decode cX5_proveOptimal 90 = .ok (.aload_n 0, 1) := by decide +kernel
theorem dX5_proveOptimal_91 : decode cX5_proveOptimal 91 = .ok (.aload_n 1, 1) := by decide +kernel
theorem dX5_proveOptimal_92 : decode cX5_proveOptimal 92 = .ok (.getfield 186, 3) := by decide +kernel
theorem dX5_proveOptimal_95 : decode cX5_proveOptimal 95 = .ok (.invokevirtual 189, 3) := by decide +kernel
theorem dX5_proveOptimal_98 : decode cX5_proveOptimal 98 = .ok (.return_, 1) := by decide +kernel
theorem dX5_proveUnbounded_0 : decode cX5_proveUnbounded 0 = .ok (.aload_n 0, 1) := by decide +kernel
theorem dX5_proveUnbounded_1 : decode cX5_proveUnbounded 1 = .ok (.aload_n 2, 1) := by decide +kernel
theorem dX5_proveUnbounded_2 : decode cX5_proveUnbounded 2 = .ok (.aload_n 1, 1) := by decide +kernel
theorem dX5_proveUnbounded_3 : decode cX5_proveUnbounded 3 = .ok (.getfield 186, 3) := by decide +kernel
theorem dX5_proveUnbounded_6 : decode cX5_proveUnbounded 6 = .ok (.invokevirtual 194, 3) := by decide +kernel
theorem dX5_proveUnbounded_9 : decode cX5_proveUnbounded 9 = .ok (.aload_n 0, 1) := by decide +kernel
theorem dX5_proveUnbounded_10 : decode cX5_proveUnbounded 10 = .ok (.getfield 16, 3) := by decide +kernel
theorem dX5_proveUnbounded_13 : decode cX5_proveUnbounded 13 = .ok (.invokevirtual 52, 3) := by decide +kernel
theorem dX5_proveUnbounded_16 : decode cX5_proveUnbounded 16 = .ok (.aload_n 0, 1) := by decide +kernel
theorem dX5_proveUnbounded_17 : decode cX5_proveUnbounded 17 = .ok (.getfield 16, 3) := by decide +kernel
theorem dX5_proveUnbounded_20 : decode cX5_proveUnbounded 20 = .ok (.ldc 198, 2) := by decide +kernel
theorem dX5_proveUnbounded_22 : decode cX5_proveUnbounded 22 = .ok (.invokevirtual 95, 3) := by decide +kernel
theorem dX5_proveUnbounded_25 : decode cX5_proveUnbounded 25 = .ok (.aload_n 0, 1) := by decide +kernel
theorem dX5_proveUnbounded_26 : decode cX5_proveUnbounded 26 = .ok (.aload_n 1, 1) := by decide +kernel
theorem dX5_proveUnbounded_27 : decode cX5_proveUnbounded 27 = .ok (.getfield 186, 3) := by decide +kernel
theorem dX5_proveUnbounded_30 : decode cX5_proveUnbounded 30 = .ok (.invokevirtual 189, 3) := by decide +kernel
theorem dX5_proveUnbounded_33 : decode cX5_proveUnbounded 33 = .ok (.aload_n 0, 1) := by decide +kernel
theorem dX5_proveUnbounded_34 : decode cX5_proveUnbounded 34 = .ok (.getfield 16, 3) := by decide +kernel
theorem dX5_proveUnbounded_37 : decode cX5_proveUnbounded 37 = .ok (.ldc 200, 2) := by decide +kernel
theorem dX5_proveUnbounded_39 : decode cX5_proveUnbounded 39 = .ok (.invokevirtual 95, 3) := by decide +kernel
theorem dX5_proveUnbounded_42 : decode cX5_proveUnbounded 42 = .ok (.iconst 1, 1) := by decide +kernel
theorem dX5_proveUnbounded_43 : decode cX5_proveUnbounded 43 = .ok (.istore_n 3, 1) := by decide +kernel
theorem dX5_proveUnbounded_44 : decode cX5_proveUnbounded 44 = .ok (.iload_n 3, 1) := by decide +kernel
theorem dX5_proveUnbounded_45 : decode cX5_proveUnbounded 45 = .ok (.aload_n 1, 1) := by decide +kernel
theorem dX5_proveUnbounded_46 : decode cX5_proveUnbounded 46 = .ok (.getfield 186, 3) := by decide +kernel
theorem dX5_proveUnbounded_49 : decode cX5_proveUnbounded 49 = .ok (.if_icmp .gt 30, 3) := by decide +kernel
theorem dX5_proveUnbounded_52 : decode cX5_proveUnbounded 52 = .ok (.aload_n 2, 1) := by decide +kernel
theorem dX5_proveUnbounded_53 : decode cX5_proveUnbounded 53 = .ok (.iload_n 3, 1) := by decide +kernel
theorem dX5_proveUnbounded_54 : decode cX5_proveUnbounded 54 = .ok (.aload_n 0, 1) := by decide +kernel
theorem dX5_proveUnbounded_55 : decode cX5_proveUnbounded 55 = .ok (.getfield 40, 3) := by decide +kernel
theorem dX5_proveUnbounded_58 : decode cX5_proveUnbounded 58 = .ok (.invokevirtual 202, 3) := by decide +kernel
theorem dX5_proveUnbounded_61 : decode cX5_proveUnbounded 61 = .ok (.aload_n 0, 1) := by decide +kernel
theorem dX5_proveUnbounded_62 : decode cX5_proveUnbounded 62 = .ok (.getfield 16, 3) := by decide +kernel
theorem dX5_proveUnbounded_65 : decode cX5_proveUnbounded 65 = .ok (.aload_n 0, 1) := by decide +kernel
theorem dX5_proveUnbounded_66 : decode cX5_proveUnbounded 66 = .ok (.getfield 40, 3) := by decide +kernel
theorem dX5_proveUnbounded_69 : decode cX5_proveUnbounded 69 = .ok (.iconst 1, 1) := by decide +kernel
theorem dX5_proveUnbounded_70 : decode cX5_proveUnbounded 70 = .ok (.invokevirtual 99, 3) := by decide +kernel
theorem dX5_proveUnbounded_73 : decode cX5_proveUnbounded 73 = .ok (.iinc 3 1, 3) := by decide +kernel
theorem dX5_proveUnbounded_76 : decode cX5_proveUnbounded 76 = .ok (.goto (-32), 3) := by decide +kernel
theorem dX5_proveUnbounded_79 : decode cX5_proveUnbounded 79 = .ok (.aload_n 0, 1) := by decide +kernel
theorem dX5_proveUnbounded_80 : decode cX5_proveUnbounded 80 = .ok (.getfield 16, 3) := by decide +kernel
theorem dX5_proveUnbounded_83 : decode cX5_proveUnbounded 83 = .ok (.ldc 176, 2) := by decide +kernel
theorem dX5_proveUnbounded_85 : decode cX5_proveUnbounded 85 = .ok (.invokevirtual 95, 3) := by decide +kernel
theorem dX5_proveUnbounded_88 : decode cX5_proveUnbounded 88 = .ok (.aload_n 0, 1) := by decide +kernel
theorem dX5_proveUnbounded_89 : decode cX5_proveUnbounded 89 = .ok (.getfield 16, 3) := by decide +kernel
theorem dX5_proveUnbounded_92 : decode cX5_proveUnbounded 92 = .ok (.ldc 205, 2) := by decide +kernel
theorem dX5_proveUnbounded_94 : decode cX5_proveUnbounded 94 = .ok (.invokevirtual 95, 3) := by decide +kernel
theorem dX5_proveUnbounded_97 : decode cX5_proveUnbounded 97 = .ok (.return_, 1) := by decide +kernel
theorem dX5_reduce_0 : decode cX5_reduce 0 = .ok (.aload_n 0, 1) := by decide +kernel
theorem dX5_reduce_1 : decode cX5_reduce 1 = .ok (.getfield 30, 3) := by decide +kernel
theorem dX5_reduce_4 : decode cX5_reduce 4 = .ok (.aload_n 1, 1) := by decide +kernel
theorem dX5_reduce_5 : decode cX5_reduce 5 = .ok (.invokevirtual 141, 3) := by decide +kernel
theorem dX5_reduce_8 : decode cX5_reduce 8 = .ok (.iload_n 3, 1) := by decide +kernel
theorem dX5_reduce_9 : decode cX5_reduce 9 = .ok (.ifCond .eq 10, 3) := by decide +kernel
theorem dX5_reduce_12 : decode cX5_reduce 12 = .ok (.aload_n 0, 1) := by decide +kernel
theorem dX5_reduce_13 : decode cX5_reduce 13 = .ok (.getfield 30, 3) := by decide +kernel
theorem dX5_reduce_16 : decode cX5_reduce 16 = .ok (.invokevirtual 144, 3) := by decide +kernel
theorem dX5_reduce_19 : decode cX5_reduce 19 = .ok (.aload_n 0, 1) := by decide +kernel
theorem dX5_reduce_20 : decode cX5_reduce 20 = .ok (.getfield 34, 3) := by decide +kernel
theorem dX5_reduce_23 : decode cX5_reduce 23 = .ok (.aload_n 2, 1) := by decide +kernel
theorem dX5_reduce_24 : decode cX5_reduce 24 = .ok (.invokevirtual 141, 3) := by decide +kernel
theorem dX5_reduce_27 : decode cX5_reduce 27 = .ok (.aload_n 0, 1) := by decide +kernel
theorem dX5_reduce_28 : decode cX5_reduce 28 = .ok (.getfield 40, 3) := by decide +kernel
theorem dX5_reduce_31 : decode cX5_reduce 31 = .ok (.aload_n 1, 1) := by decide +kernel
theorem dX5_reduce_32 : decode cX5_reduce 32 = .ok (.invokevirtual 141, 3) := by decide +kernel
theorem dX5_reduce_35 : decode cX5_reduce 35 = .ok (.aload_n 0, 1) := by decide +kernel
theorem dX5_reduce_36 : decode cX5_reduce 36 = .ok (.getfield 40, 3) := by decide +kernel
theorem dX5_reduce_39 : decode cX5_reduce 39 = .ok (.aload_n 0, 1) := by decide +kernel
theorem dX5_reduce_40 : decode cX5_reduce 40 = .ok (.getfield 40, 3) := by decide +kernel
theorem dX5_reduce_43 : decode cX5_reduce 43 = .ok (.getfield 126, 3) := by decide +kernel
theorem dX5_reduce_46 : decode cX5_reduce 46 = .ok (.invokestatic 147, 3) := by decide +kernel
theorem dX5_reduce_49 : decode cX5_reduce 49 = .ok (.putfield 126, 3) := by decide +kernel
theorem dX5_reduce_52 : decode cX5_reduce 52 = .ok (.aload_n 0, 1) := by decide +kernel
theorem dX5_reduce_53 : decode cX5_reduce 53 = .ok (.getfield 43, 3) := by decide +kernel
theorem dX5_reduce_56 : decode cX5_reduce 56 = .ok (.aload_n 2, 1) := by decide +kernel
theorem dX5_reduce_57 : decode cX5_reduce 57 = .ok (.invokevirtual 141, 3) := by decide +kernel
theorem dX5_reduce_60 : decode cX5_reduce 60 = .ok (.aload_n 0, 1) := by decide +kernel
theorem dX5_reduce_61 : decode cX5_reduce 61 = .ok (.getfield 37, 3) := by decide +kernel
theorem dX5_reduce_64 : decode cX5_reduce 64 = .ok (.aload_n 0, 1) := by decide +kernel
theorem dX5_reduce_65 : decode cX5_reduce 65 = .ok (.aload_n 0, 1) := by decide +kernel
theorem dX5_reduce_66 : decode cX5_reduce 66 = .ok (.getfield 40, 3) := by decide +kernel
theorem dX5_reduce_69 : decode cX5_reduce 69 = .ok (.aload_n 0, 1) := by decide +kernel
theorem dX5_reduce_70 : decode cX5_reduce 70 = .ok (.getfield 43, 3) := by decide +kernel
theorem dX5_reduce_73 : decode cX5_reduce 73 = .ok (.invokevirtual 152, 3) := by decide +kernel
theorem dX5_reduce_76 : decode cX5_reduce 76 = .ok (.invokevirtual 141, 3) := by decide +kernel
theorem dX5_reduce_79 : decode cX5_reduce 79 = .ok (.aload_n 0, 1) := by decide +kernel
theorem dX5_reduce_80 : decode cX5_reduce 80 = .ok (.getfield 30, 3) := by decide +kernel
theorem dX5_reduce_83 : decode cX5_reduce 83 = .ok (.aload_n 0, 1) := by decide +kernel
theorem dX5_reduce_84 : decode cX5_reduce 84 = .ok (.getfield 37, 3) := by decide +kernel
theorem dX5_reduce_87 : decode cX5_reduce 87 = .ok (.aload_n 0, 1) := by decide +kernel
theorem dX5_reduce_88 : decode cX5_reduce 88 = .ok (.getfield 46, 3) := by decide +kernel
theorem dX5_reduce_91 : decode cX5_reduce 91 = .ok (.aload_n 0, 1) := by decide +kernel
theorem dX5_reduce_92 : decode cX5_reduce 92 = .ok (.getfield 49, 3) := by decide +kernel
theorem dX5_reduce_95 : decode cX5_reduce 95 = .ok (.invokevirtual 137, 3) := by decide +kernel
theorem dX5_reduce_98 : decode cX5_reduce 98 = .ok (.aload_n 0, 1) := by decide +kernel
theorem dX5_reduce_99 : decode cX5_reduce 99 = .ok (.getfield 30, 3) := by decide +kernel
theorem dX5_reduce_102 : decode cX5_reduce 102 = .ok (.aload_n 0, 1) := by decide +kernel
theorem dX5_reduce_103 : decode cX5_reduce 103 = .ok (.getfield 46, 3) := by decide +kernel
theorem dX5_reduce_106 : decode cX5_reduce 106 = .ok (.invokevirtual 141, 3) := by decide +kernel
theorem dX5_reduce_109 : decode cX5_reduce 109 = .ok (.aload_n 0, 1) := by decide +kernel
theorem dX5_reduce_110 : decode cX5_reduce 110 = .ok (.getfield 34, 3) := by decide +kernel
theorem dX5_reduce_113 : decode cX5_reduce 113 = .ok (.aload_n 0, 1) := by decide +kernel
theorem dX5_reduce_114 : decode cX5_reduce 114 = .ok (.getfield 37, 3) := by decide +kernel
theorem dX5_reduce_117 : decode cX5_reduce 117 = .ok (.aload_n 0, 1) := by decide +kernel
theorem dX5_reduce_118 : decode cX5_reduce 118 = .ok (.getfield 46, 3) := by decide +kernel
theorem dX5_reduce_121 : decode cX5_reduce 121 = .ok (.aload_n 0, 1) := by decide +kernel
theorem dX5_reduce_122 : decode cX5_reduce 122 = .ok (.getfield 49, 3) := by decide +kernel
theorem dX5_reduce_125 : decode cX5_reduce 125 = .ok (.invokevirtual 137, 3) := by decide +kernel
theorem dX5_reduce_128 : decode cX5_reduce 128 = .ok (.aload_n 0, 1) := by decide +kernel
theorem dX5_reduce_129 : decode cX5_reduce 129 = .ok (.getfield 34, 3) := by decide +kernel
theorem dX5_reduce_132 : decode cX5_reduce 132 = .ok (.aload_n 0, 1) := by decide +kernel
theorem dX5_reduce_133 : decode cX5_reduce 133 = .ok (.getfield 46, 3) := by decide +kernel
theorem dX5_reduce_136 : decode cX5_reduce 136 = .ok (.invokevirtual 141, 3) := by decide +kernel
theorem dX5_reduce_139 : decode cX5_reduce 139 = .ok (.return_, 1) := by decide +kernel
theorem dX5_takePoint_0 : decode cX5_takePoint 0 = .ok (.aload_n 1, 1) := by decide +kernel
theorem dX5_takePoint_1 : decode cX5_takePoint 1 = .ok (.iconst 0, 1) := by decide +kernel
theorem dX5_takePoint_2 : decode cX5_takePoint 2 = .ok (.iconst 0, 1) := by decide +kernel
theorem dX5_takePoint_3 : decode cX5_takePoint 3 = .ok (.aload_n 0, 1) := by decide +kernel
theorem dX5_takePoint_4 : decode cX5_takePoint 4 = .ok (.getfield 40, 3) := by decide +kernel
theorem dX5_takePoint_7 : decode cX5_takePoint 7 = .ok (.invokevirtual 72, 3) := by decide +kernel
theorem dX5_takePoint_10 : decode cX5_takePoint 10 = .ok (.aload_n 0, 1) := by decide +kernel
theorem dX5_takePoint_11 : decode cX5_takePoint 11 = .ok (.getfield 40, 3) := by decide +kernel
theorem dX5_takePoint_14 : decode cX5_takePoint 14 = .ok (.aload_n 0, 1) := by decide +kernel
theorem dX5_takePoint_15 : decode cX5_takePoint 15 = .ok (.getfield 25, 3) := by decide +kernel
theorem dX5_takePoint_18 : decode cX5_takePoint 18 = .ok (.iconst 0, 1) := by decide +kernel
theorem dX5_takePoint_19 : decode cX5_takePoint 19 = .ok (.invokevirtual 76, 3) := by decide +kernel
theorem dX5_takePoint_22 : decode cX5_takePoint 22 = .ok (.iconst 1, 1) := by decide +kernel
theorem dX5_takePoint_23 : decode cX5_takePoint 23 = .ok (.istore_n 3, 1) := by decide +kernel
theorem dX5_takePoint_24 : decode cX5_takePoint 24 = .ok (.iload_n 3, 1) := by decide +kernel
theorem dX5_takePoint_25 : decode cX5_takePoint 25 = .ok (.iload_n 2, 1) := by decide +kernel
theorem dX5_takePoint_26 : decode cX5_takePoint 26 = .ok (.if_icmp .gt 33, 3) := by decide +kernel
theorem dX5_takePoint_29 : decode cX5_takePoint 29 = .ok (.aload_n 1, 1) := by decide +kernel
theorem dX5_takePoint_30 : decode cX5_takePoint 30 = .ok (.iload_n 3, 1) := by decide +kernel
theorem dX5_takePoint_31 : decode cX5_takePoint 31 = .ok (.aload_n 0, 1) := by decide +kernel
theorem dX5_takePoint_32 : decode cX5_takePoint 32 = .ok (.getfield 40, 3) := by decide +kernel
theorem dX5_takePoint_35 : decode cX5_takePoint 35 = .ok (.invokevirtual 80, 3) := by decide +kernel
theorem dX5_takePoint_38 : decode cX5_takePoint 38 = .ok (.aload_n 0, 1) := by decide +kernel
theorem dX5_takePoint_39 : decode cX5_takePoint 39 = .ok (.getfield 40, 3) := by decide +kernel
theorem dX5_takePoint_42 : decode cX5_takePoint 42 = .ok (.aload_n 0, 1) := by decide +kernel
theorem dX5_takePoint_43 : decode cX5_takePoint 43 = .ok (.getfield 25, 3) := by decide +kernel
theorem dX5_takePoint_46 : decode cX5_takePoint 46 = .ok (.iload_n 3, 1) := by decide +kernel
theorem dX5_takePoint_47 : decode cX5_takePoint 47 = .ok (.bipush 8, 2) := by decide +kernel
theorem dX5_takePoint_49 : decode cX5_takePoint 49 = .ok (.imul, 1) := by decide +kernel
theorem dX5_takePoint_50 : decode cX5_takePoint 50 = .ok (.invokevirtual 76, 3) := by decide +kernel
theorem dX5_takePoint_53 : decode cX5_takePoint 53 = .ok (.iinc 3 1, 3) := by decide +kernel
theorem dX5_takePoint_56 : decode cX5_takePoint 56 = .ok (.goto (-32), 3) := by decide +kernel
theorem dX5_takePoint_59 : decode cX5_takePoint 59 = .ok (.aload_n 1, 1) := by decide +kernel
theorem dX5_takePoint_60 : decode cX5_takePoint 60 = .ok (.aload_n 0, 1) := by decide +kernel
theorem dX5_takePoint_61 : decode cX5_takePoint 61 = .ok (.getfield 40, 3) := by decide +kernel
theorem dX5_takePoint_64 : decode cX5_takePoint 64 = .ok (.invokevirtual 84, 3) := by decide +kernel
theorem dX5_takePoint_67 : decode cX5_takePoint 67 = .ok (.aload_n 0, 1) := by decide +kernel
theorem dX5_takePoint_68 : decode cX5_takePoint 68 = .ok (.getfield 40, 3) := by decide +kernel
theorem dX5_takePoint_71 : decode cX5_takePoint 71 = .ok (.aload_n 0, 1) := by decide +kernel
theorem dX5_takePoint_72 : decode cX5_takePoint 72 = .ok (.getfield 25, 3) := by decide +kernel
theorem dX5_takePoint_75 : decode cX5_takePoint 75 = .ok (.bipush 104, 2) := by decide +kernel
theorem dX5_takePoint_77 : decode cX5_takePoint 77 = .ok (.invokevirtual 76, 3) := by decide +kernel
theorem dX5_takePoint_80 : decode cX5_takePoint 80 = .ok (.return_, 1) := by decide +kernel
theorem dX5_writeBranch_0 : decode cX5_writeBranch 0 = .ok (.aload_n 0, 1) := by decide +kernel
theorem dX5_writeBranch_1 : decode cX5_writeBranch 1 = .ok (.getfield 20, 3) := by decide +kernel
theorem dX5_writeBranch_4 : decode cX5_writeBranch 4 = .ok (.ldc 135, 2) := by decide +kernel
theorem dX5_writeBranch_6 : decode cX5_writeBranch 6 = .ok (.invokevirtual 95, 3) := by decide +kernel
theorem dX5_writeBranch_9 : decode cX5_writeBranch 9 = .ok (.aload_n 0, 1) := by decide +kernel
theorem dX5_writeBranch_10 : decode cX5_writeBranch 10 = .ok (.getfield 20, 3) := by decide +kernel
theorem dX5_writeBranch_13 : decode cX5_writeBranch 13 = .ok (.iload_n 1, 1) := by decide +kernel
theorem dX5_writeBranch_14 : decode cX5_writeBranch 14 = .ok (.invokevirtual 130, 3) := by decide +kernel
theorem dX5_writeBranch_17 : decode cX5_writeBranch 17 = .ok (.aload_n 0, 1) := by decide +kernel
theorem dX5_writeBranch_18 : decode cX5_writeBranch 18 = .ok (.getfield 20, 3) := by decide +kernel
theorem dX5_writeBranch_21 : decode cX5_writeBranch 21 = .ok (.aload_n 2, 1) := by decide +kernel
theorem dX5_writeBranch_22 : decode cX5_writeBranch 22 = .ok (.iconst 1, 1) := by decide +kernel
theorem dX5_writeBranch_23 : decode cX5_writeBranch 23 = .ok (.invokevirtual 99, 3) := by decide +kernel
theorem dX5_writeBranch_26 : decode cX5_writeBranch 26 = .ok (.return_, 1) := by decide +kernel
theorem dX5_writeCut_0 : decode cX5_writeCut 0 = .ok (.aload_n 0, 1) := by decide +kernel
theorem dX5_writeCut_1 : decode cX5_writeCut 1 = .ok (.getfield 20, 3) := by decide +kernel
theorem dX5_writeCut_4 : decode cX5_writeCut 4 = .ok (.ldc 113, 2) := by decide +kernel
theorem dX5_writeCut_6 : decode cX5_writeCut 6 = .ok (.invokevirtual 95, 3) := by decide +kernel
theorem dX5_writeCut_9 : decode cX5_writeCut 9 = .ok (.aload_n 1, 1) := by decide +kernel
theorem dX5_writeCut_10 : decode cX5_writeCut 10 = .ok (.aload_n 0, 1) := by decide +kernel
theorem dX5_writeCut_11 : decode cX5_writeCut 11 = .ok (.getfield 40, 3) := by decide +kernel
theorem dX5_writeCut_14 : decode cX5_writeCut 14 = .ok (.invokevirtual 84, 3) := by decide +kernel
theorem dX5_writeCut_17 : decode cX5_writeCut 17 = .ok (.aload_n 0, 1) := by decide +kernel
theorem dX5_writeCut_18 : decode cX5_writeCut 18 = .ok (.getfield 20, 3) := by decide +kernel
theorem dX5_writeCut_21 : decode cX5_writeCut 21 = .ok (.aload_n 0, 1) := by decide +kernel
theorem dX5_writeCut_22 : decode cX5_writeCut 22 = .ok (.getfield 40, 3) := by decide +kernel
theorem dX5_writeCut_25 : decode cX5_writeCut 25 = .ok (.iconst 1, 1) := by decide +kernel
theorem dX5_writeCut_26 : decode cX5_writeCut 26 = .ok (.invokevirtual 99, 3) := by decide +kernel
theorem dX5_writeCut_29 : decode cX5_writeCut 29 = .ok (.aload 4, 2) := by decide +kernel
theorem dX5_writeCut_31 : decode cX5_writeCut 31 = .ok (.invokevirtual 115, 3) := by decide +kernel
theorem dX5_writeCut_34 : decode cX5_writeCut 34 = .ok (.iconst 1, 1) := by decide +kernel
theorem dX5_writeCut_35 : decode cX5_writeCut 35 = .ok (.istore 5, 2) := by decide +kernel
theorem dX5_writeCut_37 : decode cX5_writeCut 37 = .ok (.iload 5, 2) := by decide +kernel
theorem dX5_writeCut_39 : decode cX5_writeCut 39 = .ok (.aload_n 1, 1) := by decide +kernel
theorem dX5_writeCut_40 : decode cX5_writeCut 40 = .ok (.invokevirtual 102, 3) := by decide +kernel
theorem dX5_writeCut_43 : decode cX5_writeCut 43 = .ok (.if_icmp .gt 51, 3) := by decide +kernel
theorem dX5_writeCut_46 : decode cX5_writeCut 46 = .ok (.aload_n 1, 1) := by decide +kernel
theorem dX5_writeCut_47 : decode cX5_writeCut 47 = .ok (.iload_n 3, 1) := by decide +kernel
theorem dX5_writeCut_48 : decode cX5_writeCut 48 = .ok (.iload_n 2, 1) := by decide +kernel
theorem dX5_writeCut_49 : decode cX5_writeCut 49 = .ok (.iload 5, 2) := by decide +kernel
theorem dX5_writeCut_51 : decode cX5_writeCut 51 = .ok (.iadd, 1) := by decide +kernel
theorem dX5_writeCut_52 : decode cX5_writeCut 52 = .ok (.aload_n 0, 1) := by decide +kernel
theorem dX5_writeCut_53 : decode cX5_writeCut 53 = .ok (.getfield 40, 3) := by decide +kernel
theorem dX5_writeCut_56 : decode cX5_writeCut 56 = .ok (.invokevirtual 105, 3) := by decide +kernel
theorem dX5_writeCut_59 : decode cX5_writeCut 59 = .ok (.aload_n 1, 1) := by decide +kernel
theorem dX5_writeCut_60 : decode cX5_writeCut 60 = .ok (.aload_n 0, 1) := by decide +kernel
theorem dX5_writeCut_61 : decode cX5_writeCut 61 = .ok (.getfield 40, 3) := by decide +kernel
theorem dX5_writeCut_64 : decode cX5_writeCut 64 = .ok (.invokevirtual 120, 3) := by decide +kernel
theorem dX5_writeCut_67 : decode cX5_writeCut 67 = .ok (.aload 4, 2) := by decide +kernel
theorem dX5_writeCut_69 : decode cX5_writeCut 69 = .ok (.iload 5, 2) := by decide +kernel
theorem dX5_writeCut_71 : decode cX5_writeCut 71 = .ok (.aload_n 0, 1) := by decide +kernel
theorem dX5_writeCut_72 : decode cX5_writeCut 72 = .ok (.getfield 40, 3) := by decide +kernel
theorem dX5_writeCut_75 : decode cX5_writeCut 75 = .ok (.invokevirtual 123, 3) := by decide +kernel
theorem dX5_writeCut_78 : decode cX5_writeCut 78 = .ok (.aload_n 0, 1) := by decide +kernel
theorem dX5_writeCut_79 : decode cX5_writeCut 79 = .ok (.iload 5, 2) := by decide +kernel
theorem dX5_writeCut_81 : decode cX5_writeCut 81 = .ok (.aload_n 0, 1) := by decide +kernel
theorem dX5_writeCut_82 : decode cX5_writeCut 82 = .ok (.getfield 40, 3) := by decide +kernel
theorem dX5_writeCut_85 : decode cX5_writeCut 85 = .ok (.invokevirtual 108, 3) := by decide +kernel
theorem dX5_writeCut_88 : decode cX5_writeCut 88 = .ok (.iinc 5 1, 3) := by decide +kernel
theorem dX5_writeCut_91 : decode cX5_writeCut 91 = .ok (.goto (-54), 3) := by decide +kernel
theorem dX5_writeCut_94 : decode cX5_writeCut 94 = .ok (.aload_n 0, 1) := by decide +kernel
theorem dX5_writeCut_95 : decode cX5_writeCut 95 = .ok (.getfield 20, 3) := by decide +kernel
theorem dX5_writeCut_98 : decode cX5_writeCut 98 = .ok (.ldc 111, 2) := by decide +kernel
theorem dX5_writeCut_100 : decode cX5_writeCut 100 = .ok (.invokevirtual 95, 3) := by decide +kernel
theorem dX5_writeCut_103 : decode cX5_writeCut 103 = .ok (.return_, 1) := by decide +kernel
theorem dX5_writeFraction_0 : decode cX5_writeFraction 0 = .ok (.aload_n 0, 1) := by decide +kernel
theorem dX5_writeFraction_1 : decode cX5_writeFraction 1 = .ok (.aload_n 1, 1) := by decide +kernel
theorem dX5_writeFraction_2 : decode cX5_writeFraction 2 = .ok (.aload_n 2, 1) := by decide +kernel
theorem dX5_writeFraction_3 : decode cX5_writeFraction 3 = .ok (.iload_n 3, 1) := by decide +kernel
theorem dX5_writeFraction_4 : decode cX5_writeFraction 4 = .ok (.invokevirtual 156, 3) := by decide +kernel
theorem dX5_writeFraction_7 : decode cX5_writeFraction 7 = .ok (.aload 4, 2) := by decide +kernel
theorem dX5_writeFraction_9 : decode cX5_writeFraction 9 = .ok (.invokevirtual 52, 3) := by decide +kernel
theorem dX5_writeFraction_12 : decode cX5_writeFraction 12 = .ok (.aload 4, 2) := by decide +kernel
theorem dX5_writeFraction_14 : decode cX5_writeFraction 14 = .ok (.aload_n 0, 1) := by decide +kernel
theorem dX5_writeFraction_15 : decode cX5_writeFraction 15 = .ok (.getfield 30, 3) := by decide +kernel
theorem dX5_writeFraction_18 : decode cX5_writeFraction 18 = .ok (.iconst 1, 1) := by decide +kernel
theorem dX5_writeFraction_19 : decode cX5_writeFraction 19 = .ok (.invokevirtual 99, 3) := by decide +kernel
theorem dX5_writeFraction_22 : decode cX5_writeFraction 22 = .ok (.aload_n 0, 1) := by decide +kernel
theorem dX5_writeFraction_23 : decode cX5_writeFraction 23 = .ok (.getfield 40, 3) := by decide +kernel
theorem dX5_writeFraction_26 : decode cX5_writeFraction 26 = .ok (.lconst 1, 1) := by decide +kernel
theorem dX5_writeFraction_27 : decode cX5_writeFraction 27 = .ok (.invokevirtual 160, 3) := by decide +kernel
theorem dX5_writeFraction_30 : decode cX5_writeFraction 30 = .ok (.aload_n 0, 1) := by decide +kernel
theorem dX5_writeFraction_31 : decode cX5_writeFraction 31 = .ok (.getfield 34, 3) := by decide +kernel
theorem dX5_writeFraction_34 : decode cX5_writeFraction 34 = .ok (.aload_n 0, 1) := by decide +kernel
theorem dX5_writeFraction_35 : decode cX5_writeFraction 35 = .ok (.getfield 40, 3) := by decide +kernel
theorem dX5_writeFraction_38 : decode cX5_writeFraction 38 = .ok (.invokevirtual 164, 3) := by decide +kernel
theorem dX5_writeFraction_41 : decode cX5_writeFraction 41 = .ok (.ifCond .eq 20, 3) := by decide +kernel
theorem dX5_writeFraction_44 : decode cX5_writeFraction 44 = .ok (.aload 4, 2) := by decide +kernel
theorem dX5_writeFraction_46 : decode cX5_writeFraction 46 = .ok (.bipush 47, 2) := by decide +kernel
theorem dX5_writeFraction_48 : decode cX5_writeFraction 48 = .ok (.invokevirtual 168, 3) := by decide +kernel
theorem dX5_writeFraction_51 : decode cX5_writeFraction 51 = .ok (.aload 4, 2) := by decide +kernel
theorem dX5_writeFraction_53 : decode cX5_writeFraction 53 = .ok (.aload_n 0, 1) := by decide +kernel
theorem dX5_writeFraction_54 : decode cX5_writeFraction 54 = .ok (.getfield 34, 3) := by decide +kernel
theorem dX5_writeFraction_57 : decode cX5_writeFraction 57 = .ok (.iconst 0, 1) := by decide +kernel
theorem dX5_writeFraction_58 : decode cX5_writeFraction 58 = .ok (.invokevirtual 99, 3) := by decide +kernel
theorem dX5_writeFraction_61 : decode cX5_writeFraction 61 = .ok (.return_, 1) := by decide +kernel
theorem dX5_writeLeaf_0 : decode cX5_writeLeaf 0 = .ok (.aload_n 0, 1) := by decide +kernel
theorem dX5_writeLeaf_1 : decode cX5_writeLeaf 1 = .ok (.getfield 20, 3) := by decide +kernel
theorem dX5_writeLeaf_4 : decode cX5_writeLeaf 4 = .ok (.iload_n 3, 1) := by decide +kernel
theorem dX5_writeLeaf_5 : decode cX5_writeLeaf 5 = .ok (.ifCond .ne 8, 3) := by decide +kernel
theorem dX5_writeLeaf_8 : decode cX5_writeLeaf 8 = .ok (.ldc 91, 2) := by decide +kernel
theorem dX5_writeLeaf_10 : decode cX5_writeLeaf 10 = .ok (.goto 5, 3) := by decide +kernel
theorem dX5_writeLeaf_13 : decode cX5_writeLeaf 13 = .ok (.ldc 93, 2) := by decide +kernel
theorem dX5_writeLeaf_15 : decode cX5_writeLeaf 15 = .ok (.invokevirtual 95, 3) := by decide +kernel
theorem dX5_writeLeaf_18 : decode cX5_writeLeaf 18 = .ok (.aload_n 1, 1) := by decide +kernel
theorem dX5_writeLeaf_19 : decode cX5_writeLeaf 19 = .ok (.aload_n 0, 1) := by decide +kernel
theorem dX5_writeLeaf_20 : decode cX5_writeLeaf 20 = .ok (.getfield 40, 3) := by decide +kernel
theorem dX5_writeLeaf_23 : decode cX5_writeLeaf 23 = .ok (.invokevirtual 84, 3) := by decide +kernel
theorem dX5_writeLeaf_26 : decode cX5_writeLeaf 26 = .ok (.aload_n 0, 1) := by decide +kernel
theorem dX5_writeLeaf_27 : decode cX5_writeLeaf 27 = .ok (.getfield 20, 3) := by decide +kernel
theorem dX5_writeLeaf_30 : decode cX5_writeLeaf 30 = .ok (.aload_n 0, 1) := by decide +kernel
theorem dX5_writeLeaf_31 : decode cX5_writeLeaf 31 = .ok (.getfield 40, 3) := by decide +kernel
theorem dX5_writeLeaf_34 : decode cX5_writeLeaf 34 = .ok (.iconst 1, 1) := by decide +kernel
theorem dX5_writeLeaf_35 : decode cX5_writeLeaf 35 = .ok (.invokevirtual 99, 3) := by decide +kernel
theorem dX5_writeLeaf_38 : decode cX5_writeLeaf 38 = .ok (.iconst 1, 1) := by decide +kernel
theorem dX5_writeLeaf_39 : decode cX5_writeLeaf 39 = .ok (.istore 4, 2) := by decide +kernel
theorem dX5_writeLeaf_41 : decode cX5_writeLeaf 41 = .ok (.iload 4, 2) := by decide +kernel
theorem dX5_writeLeaf_43 : decode cX5_writeLeaf 43 = .ok (.aload_n 1, 1) := by decide +kernel
theorem dX5_writeLeaf_44 : decode cX5_writeLeaf 44 = .ok (.invokevirtual 102, 3) := by decide +kernel
theorem dX5_writeLeaf_47 : decode cX5_writeLeaf 47 = .ok (.if_icmp .gt 32, 3) := by decide +kernel
theorem dX5_writeLeaf_50 : decode cX5_writeLeaf 50 = .ok (.aload_n 1, 1) := by decide +kernel
theorem dX5_writeLeaf_51 : decode cX5_writeLeaf 51 = .ok (.iload_n 3, 1) := by decide +kernel
theorem dX5_writeLeaf_52 : decode cX5_writeLeaf 52 = .ok (.iload_n 2, 1) := by decide +kernel
theorem dX5_writeLeaf_53 : decode cX5_writeLeaf 53 = .ok (.iload 4, 2) := by decide +kernel
theorem dX5_writeLeaf_55 : decode cX5_writeLeaf 55 = .ok (.iadd, 1) := by decide +kernel
theorem dX5_writeLeaf_56 : decode cX5_writeLeaf 56 = .ok (.aload_n 0, 1) := by decide +kernel
theorem dX5_writeLeaf_57 : decode cX5_writeLeaf 57 = .ok (.getfield 40, 3) := by decide +kernel
theorem dX5_writeLeaf_60 : decode cX5_writeLeaf 60 = .ok (.invokevirtual 105, 3) := by decide +kernel
theorem dX5_writeLeaf_63 : decode cX5_writeLeaf 63 = .ok (.aload_n 0, 1) := by decide +kernel
theorem dX5_writeLeaf_64 : decode cX5_writeLeaf 64 = .ok (.iload 4, 2) := by decide +kernel
theorem dX5_writeLeaf_66 : decode cX5_writeLeaf 66 = .ok (.aload_n 0, 1) := by decide +kernel
theorem dX5_writeLeaf_67 : decode cX5_writeLeaf 67 = .ok (.getfield 40, 3) := by decide +kernel
theorem dX5_writeLeaf_70 : decode cX5_writeLeaf 70 = .ok (.invokevirtual 108, 3) := by decide +kernel
theorem dX5_writeLeaf_73 : decode cX5_writeLeaf 73 = .ok (.iinc 4 1, 3) := by decide +kernel
theorem dX5_writeLeaf_76 : decode cX5_writeLeaf 76 = .ok (.goto (-35), 3) := by decide +kernel
theorem dX5_writeLeaf_79 : decode cX5_writeLeaf 79 = .ok (.aload_n 0, 1) := by decide +kernel
theorem dX5_writeLeaf_80 : decode cX5_writeLeaf 80 = .ok (.getfield 20, 3) := by decide +kernel
theorem dX5_writeLeaf_83 : decode cX5_writeLeaf 83 = .ok (.ldc 111, 2) := by decide +kernel
theorem dX5_writeLeaf_85 : decode cX5_writeLeaf 85 = .ok (.invokevirtual 95, 3) := by decide +kernel
theorem dX5_writeLeaf_88 : decode cX5_writeLeaf 88 = .ok (.return_, 1) := by decide +kernel
theorem dX5_writePair_0 : decode cX5_writePair 0 = .ok (.aload_n 2, 1) := by decide +kernel
theorem dX5_writePair_1 : decode cX5_writePair 1 = .ok (.getfield 126, 3) := by decide +kernel
theorem dX5_writePair_4 : decode cX5_writePair 4 = .ok (.ifCond .eq 29, 3) := by decide +kernel
theorem dX5_writePair_7 : decode cX5_writePair 7 = .ok (.aload_n 0, 1) := by decide +kernel
theorem dX5_writePair_8 : decode cX5_writePair 8 = .ok (.getfield 20, 3) := by decide +kernel
theorem dX5_writePair_11 : decode cX5_writePair 11 = .ok (.iload_n 1, 1) := by decide +kernel
theorem dX5_writePair_12 : decode cX5_writePair 12 = .ok (.invokevirtual 130, 3) := by decide +kernel
theorem dX5_writePair_15 : decode cX5_writePair 15 = .ok (.aload_n 0, 1) := by decide +kernel
theorem dX5_writePair_16 : decode cX5_writePair 16 = .ok (.getfield 20, 3) := by decide +kernel
theorem dX5_writePair_19 : decode cX5_writePair 19 = .ok (.ldc 133, 2) := by decide +kernel
theorem dX5_writePair_21 : decode cX5_writePair 21 = .ok (.invokevirtual 95, 3) := by decide +kernel
theorem dX5_writePair_24 : decode cX5_writePair 24 = .ok (.aload_n 0, 1) := by decide +kernel
theorem dX5_writePair_25 : decode cX5_writePair 25 = .ok (.getfield 20, 3) := by decide +kernel
theorem dX5_writePair_28 : decode cX5_writePair 28 = .ok (.aload_n 2, 1) := by decide +kernel
theorem dX5_writePair_29 : decode cX5_writePair 29 = .ok (.iconst 1, 1) := by decide +kernel
theorem dX5_writePair_30 : decode cX5_writePair 30 = .ok (.invokevirtual 99, 3) := by decide +kernel
theorem dX5_writePair_33 : decode cX5_writePair 33 = .ok (.return_, 1) := by decide +kernel
theorem dX5_writePoint_0 : decode cX5_writePoint 0 = .ok (.aload_n 0, 1) := by decide +kernel
theorem dX5_writePoint_1 : decode cX5_writePoint 1 = .ok (.aload_n 0, 1) := by decide +kernel
theorem dX5_writePoint_2 : decode cX5_writePoint 2 = .ok (.getfield 37, 3) := by decide +kernel
theorem dX5_writePoint_5 : decode cX5_writePoint 5 = .ok (.invokevirtual 170, 3) := by decide +kernel
theorem dX5_writePoint_8 : decode cX5_writePoint 8 = .ok (.iconst 1, 1) := by decide +kernel
theorem dX5_writePoint_9 : decode cX5_writePoint 9 = .ok (.istore_n 2, 1) := by decide +kernel
theorem dX5_writePoint_10 : decode cX5_writePoint 10 = .ok (.iload_n 2, 1) := by decide +kernel
theorem dX5_writePoint_11 : decode cX5_writePoint 11 = .ok (.iload_n 1, 1) := by decide +kernel
theorem dX5_writePoint_12 : decode cX5_writePoint 12 = .ok (.if_icmp .gt 48, 3) := by decide +kernel
theorem dX5_writePoint_15 : decode cX5_writePoint 15 = .ok (.aload_n 0, 1) := by decide +kernel
theorem dX5_writePoint_16 : decode cX5_writePoint 16 = .ok (.getfield 40, 3) := by decide +kernel
theorem dX5_writePoint_19 : decode cX5_writePoint 19 = .ok (.aload_n 0, 1) := by decide +kernel
theorem dX5_writePoint_20 : decode cX5_writePoint 20 = .ok (.getfield 37, 3) := by decide +kernel
theorem dX5_writePoint_23 : decode cX5_writePoint 23 = .ok (.invokevirtual 141, 3) := by decide +kernel
theorem dX5_writePoint_26 : decode cX5_writePoint 26 = .ok (.aload_n 0, 1) := by decide +kernel
theorem dX5_writePoint_27 : decode cX5_writePoint 27 = .ok (.iload_n 2, 1) := by decide +kernel
theorem dX5_writePoint_28 : decode cX5_writePoint 28 = .ok (.aload_n 0, 1) := by decide +kernel
theorem dX5_writePoint_29 : decode cX5_writePoint 29 = .ok (.getfield 43, 3) := by decide +kernel
theorem dX5_writePoint_32 : decode cX5_writePoint 32 = .ok (.invokevirtual 173, 3) := by decide +kernel
theorem dX5_writePoint_35 : decode cX5_writePoint 35 = .ok (.aload_n 0, 1) := by decide +kernel
theorem dX5_writePoint_36 : decode cX5_writePoint 36 = .ok (.getfield 37, 3) := by decide +kernel
theorem dX5_writePoint_39 : decode cX5_writePoint 39 = .ok (.aload_n 0, 1) := by decide +kernel
theorem dX5_writePoint_40 : decode cX5_writePoint 40 = .ok (.aload_n 0, 1) := by decide +kernel
theorem dX5_writePoint_41 : decode cX5_writePoint 41 = .ok (.getfield 40, 3) := by decide +kernel
theorem dX5_writePoint_44 : decode cX5_writePoint 44 = .ok (.aload_n 0, 1) := by decide +kernel
theorem dX5_writePoint_45 : decode cX5_writePoint 45 = .ok (.getfield 43, 3) := by decide +kernel
theorem dX5_writePoint_48 : decode cX5_writePoint 48 = .ok (.invokevirtual 152, 3) := by decide +kernel
theorem dX5_writePoint_51 : decode cX5_writePoint 51 = .ok (.invokevirtual 141, 3) := by decide +kernel
theorem dX5_writePoint_54 : decode cX5_writePoint 54 = .ok (.iinc 2 1, 3) := by decide +kernel
theorem dX5_writePoint_57 : decode cX5_writePoint 57 = .ok (.goto (-47), 3) := by decide +kernel
theorem dX5_writePoint_60 : decode cX5_writePoint 60 = .ok (.aload_n 0, 1) := by decide +kernel
theorem dX5_writePoint_61 : decode cX5_writePoint 61 = .ok (.getfield 16, 3) := by decide +kernel
theorem dX5_writePoint_64 : decode cX5_writePoint 64 = .ok (.ldc 174, 2) := by decide +kernel
theorem dX5_writePoint_66 : decode cX5_writePoint 66 = .ok (.invokevirtual 95, 3) := by decide +kernel
theorem dX5_writePoint_69 : decode cX5_writePoint 69 = .ok (.iconst 1, 1) := by decide +kernel
theorem dX5_writePoint_70 : decode cX5_writePoint 70 = .ok (.istore_n 2, 1) := by decide +kernel
theorem dX5_writePoint_71 : decode cX5_writePoint 71 = .ok (.iload_n 2, 1) := by decide +kernel
theorem dX5_writePoint_72 : decode cX5_writePoint 72 = .ok (.iload_n 1, 1) := by decide +kernel
theorem dX5_writePoint_73 : decode cX5_writePoint 73 = .ok (.if_icmp .gt 49, 3) := by decide +kernel
theorem dX5_writePoint_76 : decode cX5_writePoint 76 = .ok (.aload_n 0, 1) := by decide +kernel
theorem dX5_writePoint_77 : decode cX5_writePoint 77 = .ok (.iload_n 2, 1) := by decide +kernel
theorem dX5_writePoint_78 : decode cX5_writePoint 78 = .ok (.aload_n 0, 1) := by decide +kernel
theorem dX5_writePoint_79 : decode cX5_writePoint 79 = .ok (.getfield 40, 3) := by decide +kernel
theorem dX5_writePoint_82 : decode cX5_writePoint 82 = .ok (.invokevirtual 173, 3) := by decide +kernel
theorem dX5_writePoint_85 : decode cX5_writePoint 85 = .ok (.aload_n 0, 1) := by decide +kernel
theorem dX5_writePoint_86 : decode cX5_writePoint 86 = .ok (.getfield 40, 3) := by decide +kernel
theorem dX5_writePoint_89 : decode cX5_writePoint 89 = .ok (.aload_n 0, 1) := by decide +kernel
theorem dX5_writePoint_90 : decode cX5_writePoint 90 = .ok (.getfield 37, 3) := by decide +kernel
theorem dX5_writePoint_93 : decode cX5_writePoint 93 = .ok (.aload_n 0, 1) := by decide +kernel
theorem dX5_writePoint_94 : decode cX5_writePoint 94 = .ok (.getfield 46, 3) := by decide +kernel
theorem dX5_writePoint_97 : decode cX5_writePoint 97 = .ok (.aload_n 0, 1) := by decide +kernel
theorem dX5_writePoint_98 : decode cX5_writePoint 98 = .ok (.getfield 49, 3) := by decide +kernel
theorem dX5_writePoint_101 : decode cX5_writePoint 101 = .ok (.invokevirtual 137, 3) := by decide +kernel
theorem dX5_writePoint_104 : decode cX5_writePoint 104 = .ok (.aload_n 0, 1) := by decide +kernel
theorem dX5_writePoint_105 : decode cX5_writePoint 105 = .ok (.getfield 16, 3) := by decide +kernel
theorem dX5_writePoint_108 : decode cX5_writePoint 108 = .ok (.aload_n 0, 1) := by decide +kernel
theorem dX5_writePoint_109 : decode cX5_writePoint 109 = .ok (.getfield 46, 3) := by decide +kernel
theorem dX5_writePoint_112 : decode cX5_writePoint 112 = .ok (.iconst 1, 1) := by decide +kernel
theorem dX5_writePoint_113 : decode cX5_writePoint 113 = .ok (.invokevirtual 99, 3) := by decide +kernel
theorem dX5_writePoint_116 : decode cX5_writePoint 116 = .ok (.iinc 2 1, 3) := by decide +kernel
theorem dX5_writePoint_119 : decode cX5_writePoint 119 = .ok (.goto (-48), 3) := by decide +kernel
theorem dX5_writePoint_122 : decode cX5_writePoint 122 = .ok (.aload_n 0, 1) := by decide +kernel
theorem dX5_writePoint_123 : decode cX5_writePoint 123 = .ok (.getfield 16, 3) := by decide +kernel
theorem dX5_writePoint_126 : decode cX5_writePoint 126 = .ok (.ldc 176, 2) := by decide +kernel
theorem dX5_writePoint_128 : decode cX5_writePoint 128 = .ok (.invokevirtual 95, 3) := by decide +kernel
theorem dX5_writePoint_131 : decode cX5_writePoint 131 = .ok (.aload_n 0, 1) := by decide +kernel
theorem dX5_writePoint_132 : decode cX5_writePoint 132 = .ok (.aload_n 0, 1) := by decide +kernel
theorem dX5_writePoint_133 : decode cX5_writePoint 133 = .ok (.getfield 40, 3) := by decide +kernel
theorem dX5_writePoint_136 : decode cX5_writePoint 136 = .ok (.invokevirtual 170, 3) := by decide +kernel
theorem dX5_writePoint_139 : decode cX5_writePoint 139 = .ok (.aload_n 0, 1) := by decide +kernel
theorem dX5_writePoint_140 : decode cX5_writePoint 140 = .ok (.getfield 40, 3) := by decide +kernel
theorem dX5_writePoint_143 : decode cX5_writePoint 143 = .ok (.aload_n 0, 1) := by decide +kernel
theorem dX5_writePoint_144 : decode cX5_writePoint 144 = .ok (.getfield 37, 3) := by decide +kernel
theorem dX5_writePoint_147 : decode cX5_writePoint 147 = .ok (.aload_n 0, 1) := by decide +kernel
theorem dX5_writePoint_148 : decode cX5_writePoint 148 = .ok (.getfield 46, 3) := by decide +kernel
theorem dX5_writePoint_151 : decode cX5_writePoint 151 = .ok (.aload_n 0, 1) := by decide +kernel
theorem dX5_writePoint_152 : decode cX5_writePoint 152 = .ok (.getfield 49, 3) := by decide +kernel
theorem dX5_writePoint_155 : decode cX5_writePoint 155 = .ok (.invokevirtual 137, 3) := by decide +kernel
theorem dX5_writePoint_158 : decode cX5_writePoint 158 = .ok (.aload_n 0, 1) := by decide +kernel
theorem dX5_writePoint_159 : decode cX5_writePoint 159 = .ok (.getfield 16, 3) := by decide +kernel
theorem dX5_writePoint_162 : decode cX5_writePoint 162 = .ok (.aload_n 0, 1) := by decide +kernel
theorem dX5_writePoint_163 : decode cX5_writePoint 163 = .ok (.getfield 46, 3) := by decide +kernel
theorem dX5_writePoint_166 : decode cX5_writePoint 166 = .ok (.iconst 1, 1) := by decide +kernel
theorem dX5_writePoint_167 : decode cX5_writePoint 167 = .ok (.invokevirtual 99, 3) := by decide +kernel
theorem dX5_writePoint_170 : decode cX5_writePoint 170 = .ok (.return_, 1) := by decide +kernel
theorem w_61 : Cond.selects RX5 yX5_writePair yX5_writePair ∈ tb := sel_4 (q := (yX5_writePair, 10)) 13 (by decide +kernel)
theorem w_72 : Cond.selects RX5 yX5_reduce yX5_reduce ∈ tb := sel_5 (q := (yX5_reduce, 10)) 8 (by decide +kernel)
theorem w_73 : Cond.selects RX5 yX5_common yX5_common ∈ tb := sel_5 (q := (yX5_common, 10)) 9 (by decide +kernel)
theorem w_74 : Cond.selects RX5 yX5_writePoint yX5_writePoint ∈ tb := sel_5 (q := (yX5_writePoint, 10)) 10 (by decide +kernel)
theorem w_214 : Cond.initialized RX5 ∈ tb := tbc_1 11 (by decide +kernel) rfl
theorem w_270 : Cond.fieldLinkNest RX5 186 (TX3 2).1 (TX3 2).2.1 (TX3 2).2.2.1 "OptimumHouse" ∈ nst := nsc_1 67 (by decide +kernel) rfl
theorem w_282 : Cond.fieldLinkNest RX5 180 (TX3 4).1 (TX3 4).2.1 (TX3 4).2.2.1 "OptimumHouse" ∈ nst := nsc_1 79 (by decide +kernel) rfl
theorem w_407 : Cond.fieldLinkNest RX5 126 (TX0 2).1 (TX0 2).2.1 (TX0 2).2.2.1 "OptimumHouse" ∈ nst := nsc_1 204 (by decide +kernel) rfl
theorem w_527 : Cond.fieldLink RX5 16 (TX5 0).1 (TX5 0).2.1 (TX5 0).2.2.1 ∈ tb := tbc_2 84 (by decide +kernel) rfl
theorem w_528 : Cond.fieldLink RX5 20 (TX5 1).1 (TX5 1).2.1 (TX5 1).2.2.1 ∈ tb := tbc_2 85 (by decide +kernel) rfl
theorem w_529 : Cond.fieldLink RX5 25 (TX5 2).1 (TX5 2).2.1 (TX5 2).2.2.1 ∈ tb := tbc_2 86 (by decide +kernel) rfl
theorem w_530 : Cond.fieldLink RX5 30 (TX5 3).1 (TX5 3).2.1 (TX5 3).2.2.1 ∈ tb := tbc_2 87 (by decide +kernel) rfl
theorem w_531 : Cond.fieldLink RX5 34 (TX5 4).1 (TX5 4).2.1 (TX5 4).2.2.1 ∈ tb := tbc_2 88 (by decide +kernel) rfl
theorem w_532 : Cond.fieldLink RX5 37 (TX5 5).1 (TX5 5).2.1 (TX5 5).2.2.1 ∈ tb := tbc_2 89 (by decide +kernel) rfl
theorem w_533 : Cond.fieldLink RX5 40 (TX5 6).1 (TX5 6).2.1 (TX5 6).2.2.1 ∈ tb := tbc_2 90 (by decide +kernel) rfl
theorem w_534 : Cond.fieldLink RX5 43 (TX5 7).1 (TX5 7).2.1 (TX5 7).2.2.1 ∈ tb := tbc_2 91 (by decide +kernel) rfl
theorem w_535 : Cond.fieldLink RX5 46 (TX5 8).1 (TX5 8).2.1 (TX5 8).2.2.1 ∈ tb := tbc_2 92 (by decide +kernel) rfl
theorem w_536 : Cond.fieldLink RX5 49 (TX5 9).1 (TX5 9).2.1 (TX5 9).2.2.1 ∈ tb := tbc_2 93 (by decide +kernel) rfl
theorem w_537 : u_lay RX5 TX5 0 ∈ tb := tbc_2 94 (by decide +kernel) rfl
theorem w_539 : u_lay RX5 TX5 1 ∈ tb := tbc_2 96 (by decide +kernel) rfl
theorem w_541 : u_lay RX5 TX5 2 ∈ tb := tbc_2 98 (by decide +kernel) rfl
theorem w_543 : u_lay RX5 TX5 3 ∈ tb := tbc_2 100 (by decide +kernel) rfl
theorem w_545 : u_lay RX5 TX5 4 ∈ tb := tbc_2 102 (by decide +kernel) rfl
theorem w_547 : u_lay RX5 TX5 5 ∈ tb := tbc_2 104 (by decide +kernel) rfl
theorem w_549 : u_lay RX5 TX5 6 ∈ tb := tbc_2 106 (by decide +kernel) rfl
theorem w_551 : u_lay RX5 TX5 7 ∈ tb := tbc_2 108 (by decide +kernel) rfl
theorem w_553 : u_lay RX5 TX5 8 ∈ tb := tbc_2 110 (by decide +kernel) rfl
theorem w_555 : u_lay RX5 TX5 9 ∈ tb := tbc_2 112 (by decide +kernel) rfl
theorem w_1216 : Cond.methodLink RX5 52 yX10_clear ∈ tb := tbc_5 53 (by decide +kernel) rfl
theorem w_1343 : Cond.instanceMethod yX2_number ∈ tb := tbc_5 180 (by decide +kernel) rfl
theorem w_1344 : Cond.selects RX2 yX2_number yX2_number ∈ tb := tbc_5 181 (by decide +kernel) rfl
theorem w_1345 : Cond.code yX2_number cX2_number 4 none ∈ tb := tbc_5 182 (by decide +kernel) rfl
theorem w_1358 : Cond.instanceMethod yX5_pointDenominator ∈ tb := tbc_5 195 (by decide +kernel) rfl
theorem w_1359 : Cond.selects RX5 yX5_pointDenominator yX5_pointDenominator ∈ tb := tbc_5 196 (by decide +kernel) rfl
theorem w_1360 : Cond.code yX5_pointDenominator cX5_pointDenominator 2 none ∈ tb := tbc_5 197 (by decide +kernel) rfl
theorem w_1361 : Cond.methodLink RX5 88 yX0_load ∈ tb := tbc_5 198 (by decide +kernel) rfl
theorem w_1364 : Cond.instanceMethod yX5_pointNumber ∈ tb := tbc_5 201 (by decide +kernel) rfl
theorem w_1365 : Cond.selects RX5 yX5_pointNumber yX5_pointNumber ∈ tb := tbc_5 202 (by decide +kernel) rfl
theorem w_1366 : Cond.code yX5_pointNumber cX5_pointNumber 3 none ∈ tb := tbc_5 203 (by decide +kernel) rfl
theorem w_1384 : Cond.instanceMethod yX5_takePoint ∈ tb := tbc_5 221 (by decide +kernel) rfl
theorem w_1385 : Cond.selects RX5 yX5_takePoint yX5_takePoint ∈ tb := tbc_5 222 (by decide +kernel) rfl
theorem w_1386 : Cond.code yX5_takePoint cX5_takePoint 4 none ∈ tb := tbc_5 223 (by decide +kernel) rfl
theorem w_1387 : Cond.methodLink RX5 72 yX2_number ∈ tb := tbc_5 224 (by decide +kernel) rfl
theorem w_1388 : Cond.methodLink RX5 76 yX0_save ∈ tb := tbc_5 225 (by decide +kernel) rfl
theorem w_1389 : Cond.methodLink RX5 80 yX2_pointNumber ∈ tb := tbc_5 226 (by decide +kernel) rfl
theorem w_1390 : Cond.instanceMethod yX2_pointNumber ∈ tb := tbc_5 227 (by decide +kernel) rfl
theorem w_1391 : Cond.selects RX2 yX2_pointNumber yX2_pointNumber ∈ tb := tbc_5 228 (by decide +kernel) rfl
theorem w_1392 : Cond.code yX2_pointNumber cX2_pointNumber 4 none ∈ tb := tbc_5 229 (by decide +kernel) rfl
theorem w_1394 : Cond.methodLink RX5 84 yX2_denominator ∈ tb := tbc_5 231 (by decide +kernel) rfl
theorem w_1410 : Cond.methodLink RX5 95 yX10_word ∈ tb := tbc_6 7 (by decide +kernel) rfl
theorem w_1411 : Cond.instanceMethod yX10_word ∈ tb := tbc_6 8 (by decide +kernel) rfl
theorem w_1412 : Cond.selects RX10 yX10_word yX10_word ∈ tb := tbc_6 9 (by decide +kernel) rfl
theorem w_1413 : Cond.code yX10_word cX10_word 3 none ∈ tb := tbc_6 10 (by decide +kernel) rfl
theorem w_1435 : Cond.methodLink RX5 99 yX10_number ∈ tb := tbc_6 32 (by decide +kernel) rfl
theorem w_1440 : Cond.methodLink RX5 102 yX2_rowCount ∈ tb := tbc_6 37 (by decide +kernel) rfl
theorem w_1441 : Cond.instanceMethod yX2_rowCount ∈ tb := tbc_6 38 (by decide +kernel) rfl
theorem w_1442 : Cond.selects RX2 yX2_rowCount yX2_rowCount ∈ tb := tbc_6 39 (by decide +kernel) rfl
theorem w_1443 : Cond.code yX2_rowCount cX2_rowCount 1 (some .int) ∈ tb := tbc_6 40 (by decide +kernel) rfl
theorem w_1444 : Cond.methodLink RX5 105 yX2_multiplier ∈ tb := tbc_6 41 (by decide +kernel) rfl
theorem w_1445 : Cond.instanceMethod yX2_multiplier ∈ tb := tbc_6 42 (by decide +kernel) rfl
theorem w_1446 : Cond.selects RX2 yX2_multiplier yX2_multiplier ∈ tb := tbc_6 43 (by decide +kernel) rfl
theorem w_1447 : Cond.code yX2_multiplier cX2_multiplier 5 none ∈ tb := tbc_6 44 (by decide +kernel) rfl
theorem w_1452 : Cond.methodLink RX5 108 yX5_writePair ∈ tb := tbc_6 49 (by decide +kernel) rfl
theorem w_1454 : Cond.instanceMethod yX5_writePair ∈ tb := tbc_6 51 (by decide +kernel) rfl
theorem w_1455 : Cond.code yX5_writePair cX5_writePair 3 none ∈ tb := tbc_6 52 (by decide +kernel) rfl
theorem w_1456 : Cond.methodLink RX5 130 yX10_count ∈ tb := tbc_6 53 (by decide +kernel) rfl
theorem w_1457 : Cond.instanceMethod yX10_count ∈ tb := tbc_6 54 (by decide +kernel) rfl
theorem w_1458 : Cond.selects RX10 yX10_count yX10_count ∈ tb := tbc_6 55 (by decide +kernel) rfl
theorem w_1459 : Cond.code yX10_count cX10_count 5 none ∈ tb := tbc_6 56 (by decide +kernel) rfl
theorem w_1467 : Cond.methodLink RX5 55 yX10_isOver ∈ tb := tbc_6 64 (by decide +kernel) rfl
theorem w_1468 : Cond.instanceMethod yX10_isOver ∈ tb := tbc_6 65 (by decide +kernel) rfl
theorem w_1469 : Cond.selects RX10 yX10_isOver yX10_isOver ∈ tb := tbc_6 66 (by decide +kernel) rfl
theorem w_1470 : Cond.code yX10_isOver cX10_isOver 1 (some .boolean) ∈ tb := tbc_6 67 (by decide +kernel) rfl
theorem w_1484 : Cond.methodLink RX5 115 yX6_clearFactors ∈ tb := tbc_6 81 (by decide +kernel) rfl
theorem w_1485 : Cond.methodLink RX5 120 yX2_remainder ∈ tb := tbc_6 82 (by decide +kernel) rfl
theorem w_1489 : Cond.methodLink RX5 123 yX6_setFactor ∈ tb := tbc_6 86 (by decide +kernel) rfl
theorem w_1490 : Cond.instanceMethod yX6_setFactor ∈ tb := tbc_6 87 (by decide +kernel) rfl
theorem w_1491 : Cond.selects RX6 yX6_setFactor yX6_setFactor ∈ tb := tbc_6 88 (by decide +kernel) rfl
theorem w_1492 : Cond.code yX6_setFactor cX6_setFactor 3 none ∈ tb := tbc_6 89 (by decide +kernel) rfl
theorem w_1638 : Cond.methodLink RX5 59 yX10_length ∈ tb := tbc_6 235 (by decide +kernel) rfl
theorem w_1644 : Cond.methodLink RX5 173 yX5_pointNumber ∈ tb := tbc_7 1 (by decide +kernel) rfl
theorem w_1645 : Cond.methodLink RX5 170 yX5_pointDenominator ∈ tb := tbc_7 2 (by decide +kernel) rfl
theorem w_1646 : Cond.methodLink RX5 156 yX5_reduce ∈ tb := tbc_7 3 (by decide +kernel) rfl
theorem w_1648 : Cond.instanceMethod yX5_reduce ∈ tb := tbc_7 5 (by decide +kernel) rfl
theorem w_1649 : Cond.code yX5_reduce cX5_reduce 4 none ∈ tb := tbc_7 6 (by decide +kernel) rfl
theorem w_1650 : Cond.methodLink RX5 141 yX0_copy ∈ tb := tbc_7 7 (by decide +kernel) rfl
theorem w_1651 : Cond.methodLink RX5 144 yX0_turn ∈ tb := tbc_7 8 (by decide +kernel) rfl
theorem w_1652 : Cond.methodLink RX5 147 Lib.Math.abs.name ∈ tb := tbc_7 9 (by decide +kernel) rfl
theorem w_1653 : Cond.methodLink RX5 152 yX5_common ∈ tb := tbc_7 10 (by decide +kernel) rfl
theorem w_1655 : Cond.instanceMethod yX5_common ∈ tb := tbc_7 12 (by decide +kernel) rfl
theorem w_1656 : Cond.code yX5_common cX5_common 7 (some (.object "OptimumHouse$Big")) ∈ tb := tbc_7 13 (by decide +kernel) rfl
theorem w_1657 : Cond.methodLink RX5 137 yX0_divide ∈ tb := tbc_7 14 (by decide +kernel) rfl
theorem w_1659 : Cond.methodLink RX5 189 yX5_writePoint ∈ tb := tbc_7 16 (by decide +kernel) rfl
theorem w_1661 : Cond.instanceMethod yX5_writePoint ∈ tb := tbc_7 18 (by decide +kernel) rfl
theorem w_1662 : Cond.code yX5_writePoint cX5_writePoint 3 none ∈ tb := tbc_7 19 (by decide +kernel) rfl
theorem w_1673 : Cond.methodLink RX5 194 yX5_takePoint ∈ tb := tbc_7 30 (by decide +kernel) rfl
theorem w_1676 : Cond.methodLink RX5 202 yX2_rayNumber ∈ tb := tbc_7 33 (by decide +kernel) rfl
theorem w_1677 : Cond.instanceMethod yX2_rayNumber ∈ tb := tbc_7 34 (by decide +kernel) rfl
theorem w_1678 : Cond.selects RX2 yX2_rayNumber yX2_rayNumber ∈ tb := tbc_7 35 (by decide +kernel) rfl
theorem w_1679 : Cond.code yX2_rayNumber cX2_rayNumber 4 none ∈ tb := tbc_7 36 (by decide +kernel) rfl
theorem w_1685 : Cond.methodLink RX5 63 yX5_proofLength ∈ tb := tbc_7 42 (by decide +kernel) rfl
theorem w_1686 : Cond.instanceMethod yX5_proofLength ∈ tb := tbc_7 43 (by decide +kernel) rfl
theorem w_1687 : Cond.selects RX5 yX5_proofLength yX5_proofLength ∈ tb := tbc_7 44 (by decide +kernel) rfl
theorem w_1688 : Cond.code yX5_proofLength cX5_proofLength 1 (some .int) ∈ tb := tbc_7 45 (by decide +kernel) rfl
theorem w_1731 : Cond.methodLink RX5 160 yX0_put ∈ tb := tbc_7 88 (by decide +kernel) rfl
theorem w_1732 : Cond.methodLink RX5 164 yX0_compareWith ∈ tb := tbc_7 89 (by decide +kernel) rfl
theorem w_1733 : Cond.methodLink RX5 168 yX10_put ∈ tb := tbc_7 90 (by decide +kernel) rfl
theorem w_1743 : Cond.methodLink RX5 66 yX10_byteAt ∈ tb := tbc_7 100 (by decide +kernel) rfl
theorem inX5 : ∀ w ∈ u_ws RX5 TX5 10, w ∈ tb := by
  show ∀ w ∈ [u_lay RX5 TX5 0, u_lay RX5 TX5 1, u_lay RX5 TX5 2, u_lay RX5 TX5 3, u_lay RX5 TX5 4, u_lay RX5 TX5 5, u_lay RX5 TX5 6, u_lay RX5 TX5 7, u_lay RX5 TX5 8, u_lay RX5 TX5 9], w ∈ tb
  exact List.forall_mem_cons.mpr ⟨w_537, List.forall_mem_cons.mpr ⟨w_539, List.forall_mem_cons.mpr ⟨w_541, List.forall_mem_cons.mpr ⟨w_543, List.forall_mem_cons.mpr ⟨w_545, List.forall_mem_cons.mpr ⟨w_547, List.forall_mem_cons.mpr ⟨w_549, List.forall_mem_cons.mpr ⟨w_551, List.forall_mem_cons.mpr ⟨w_553, List.forall_mem_cons.mpr ⟨w_555, fun _ h => absurd h List.not_mem_nil⟩⟩⟩⟩⟩⟩⟩⟩⟩⟩
section RW42
variable {p : Program} {l : Launch} {e : Env} {R : Room} {s : State} {m : MethodId} {args : Array Value} {below : List Frame} {meth : Method} {c : Code} {H : Heap} {locs : List Loc} {cells slots : Nat} {Q : State → Prop}
variable {cc : ByteArray} {pc nL : Nat} {ls : Array Slot} {rest st0 : List Value} {G : sG} {n : Nat} {S : sS}
theorem g_X5_16 (Cx : sC G p m c cc nL s args RX5) (hW : sW G n S H) {k : Nat} (hk : k < n) (ht : tau k = .inl 5) {v : Value} (hv : S.2.2.2 k 0 = v) (hdg : decode cc pc = .ok (.getfield 16, 3)) (kk : W p l e R s m args below meth c H locs cells slots Q (F0 m (pc + 3) ls (v :: rest))) : W p l e R s m args below meth c H locs cells slots Q (F0 m pc ls (.ref (G.2.2.1 + k) :: rest)) :=
  sGet Cx inX5 rfl 0 (by decide) w_527 hW hk ht hv hdg kk
theorem c_X5_52 (Cx : sC G p m c cc nL s args RX5) {rm : Room} {mc ms : Nat} (h1 : rm.cells = mc) (h2 : rm.slots = ms) (h3 : rm.frames + 1 ≤ R.frames ∧ 8 + (1 + 11) + rm.locals ≤ R.locals) : CallW R s args RX5 RX10 52 yX10_clear cX10_clear 1 none (.code yX10_clear cX10_clear 1 none :: tb) rm mc ms 0 :=
  sCw Cx 0 w_1216 w_1118 w_1119 w_205 w_1120 (by decide +kernel) h1 h2 h3
theorem g_X5_20 (Cx : sC G p m c cc nL s args RX5) (hW : sW G n S H) {k : Nat} (hk : k < n) (ht : tau k = .inl 5) {v : Value} (hv : S.2.2.2 k 1 = v) (hdg : decode cc pc = .ok (.getfield 20, 3)) (kk : W p l e R s m args below meth c H locs cells slots Q (F0 m (pc + 3) ls (v :: rest))) : W p l e R s m args below meth c H locs cells slots Q (F0 m pc ls (.ref (G.2.2.1 + k) :: rest)) :=
  sGet Cx inX5 rfl 1 (by decide) w_528 hW hk ht hv hdg kk
theorem c_X5_55 (Cx : sC G p m c cc nL s args RX5) {rm : Room} {mc ms : Nat} (h1 : rm.cells = mc) (h2 : rm.slots = ms) (h3 : rm.frames + 1 ≤ R.frames ∧ 8 + (1 + 11) + rm.locals ≤ R.locals) : CallW R s args RX5 RX10 55 yX10_isOver cX10_isOver 1 (some .boolean) (.code yX10_isOver cX10_isOver 1 (some .boolean) :: tb) rm mc ms 0 :=
  sCw Cx 0 w_1467 w_1468 w_1469 w_205 w_1470 (by decide +kernel) h1 h2 h3
theorem c_X5_59 (Cx : sC G p m c cc nL s args RX5) {rm : Room} {mc ms : Nat} (h1 : rm.cells = mc) (h2 : rm.slots = ms) (h3 : rm.frames + 1 ≤ R.frames ∧ 8 + (1 + 11) + rm.locals ≤ R.locals) : CallW R s args RX5 RX10 59 yX10_length cX10_length 1 (some .int) (.code yX10_length cX10_length 1 (some .int) :: tb) rm mc ms 0 :=
  sCw Cx 0 w_1638 w_743 w_744 w_205 w_745 (by decide +kernel) h1 h2 h3
theorem c_X5_63 (Cx : sC G p m c cc nL s args RX5) {rm : Room} {mc ms : Nat} (h1 : rm.cells = mc) (h2 : rm.slots = ms) (h3 : rm.frames + 1 ≤ R.frames ∧ 8 + (1 + 11) + rm.locals ≤ R.locals) : CallW R s args RX5 RX5 63 yX5_proofLength cX5_proofLength 1 (some .int) (.code yX5_proofLength cX5_proofLength 1 (some .int) :: tb) rm mc ms 0 :=
  sCw Cx 0 w_1685 w_1686 w_1687 w_214 w_1688 (by decide +kernel) h1 h2 h3
theorem c_X5_66 (Cx : sC G p m c cc nL s args RX5) {rm : Room} {mc ms : Nat} (h1 : rm.cells = mc) (h2 : rm.slots = ms) (h3 : rm.frames + 1 ≤ R.frames ∧ 8 + (2 + 11) + rm.locals ≤ R.locals) : CallW R s args RX5 RX10 66 yX10_byteAt cX10_byteAt 2 (some .int) (.code yX10_byteAt cX10_byteAt 2 (some .int) :: tb) rm mc ms 1 :=
  sCw Cx 1 w_1743 w_784 w_785 w_205 w_786 (by decide +kernel) h1 h2 h3
theorem g_X5_40 (Cx : sC G p m c cc nL s args RX5) (hW : sW G n S H) {k : Nat} (hk : k < n) (ht : tau k = .inl 5) {v : Value} (hv : S.2.2.2 k 6 = v) (hdg : decode cc pc = .ok (.getfield 40, 3)) (kk : W p l e R s m args below meth c H locs cells slots Q (F0 m (pc + 3) ls (v :: rest))) : W p l e R s m args below meth c H locs cells slots Q (F0 m pc ls (.ref (G.2.2.1 + k) :: rest)) :=
  sGet Cx inX5 rfl 6 (by decide) w_533 hW hk ht hv hdg kk
theorem c_X5_72 (Cx : sC G p m c cc nL s args RX5) {rm : Room} {mc ms : Nat} (h1 : rm.cells = mc) (h2 : rm.slots = ms) (h3 : rm.frames + 1 ≤ R.frames ∧ 8 + (4 + 11) + rm.locals ≤ R.locals) : CallW R s args RX5 RX2 72 yX2_number cX2_number 4 none (.code yX2_number cX2_number 4 none :: tb) rm mc ms 3 :=
  sCw Cx 3 w_1387 w_1343 w_1344 w_213 w_1345 (by decide +kernel) h1 h2 h3
theorem g_X5_25 (Cx : sC G p m c cc nL s args RX5) (hW : sW G n S H) {k : Nat} (hk : k < n) (ht : tau k = .inl 5) {v : Value} (hv : S.2.2.2 k 2 = v) (hdg : decode cc pc = .ok (.getfield 25, 3)) (kk : W p l e R s m args below meth c H locs cells slots Q (F0 m (pc + 3) ls (v :: rest))) : W p l e R s m args below meth c H locs cells slots Q (F0 m pc ls (.ref (G.2.2.1 + k) :: rest)) :=
  sGet Cx inX5 rfl 2 (by decide) w_529 hW hk ht hv hdg kk
theorem c_X5_76 (Cx : sC G p m c cc nL s args RX5) {rm : Room} {mc ms : Nat} (h1 : rm.cells = mc) (h2 : rm.slots = ms) (h3 : rm.frames + 1 ≤ R.frames ∧ 8 + (5 + 11) + rm.locals ≤ R.locals) : CallW R s args RX5 RX0 76 yX0_save cX0_save 5 none (.code yX0_save cX0_save 5 none :: tb) rm mc ms 2 :=
  sCw Cx 2 w_1388 w_1331 w_1332 w_212 w_1333 (by decide +kernel) h1 h2 h3
theorem c_X5_84 (Cx : sC G p m c cc nL s args RX5) {rm : Room} {mc ms : Nat} (h1 : rm.cells = mc) (h2 : rm.slots = ms) (h3 : rm.frames + 1 ≤ R.frames ∧ 8 + (2 + 11) + rm.locals ≤ R.locals) : CallW R s args RX5 RX2 84 yX2_denominator cX2_denominator 2 none (.code yX2_denominator cX2_denominator 2 none :: tb) rm mc ms 1 :=
  sCw Cx 1 w_1394 w_1236 w_1237 w_213 w_1238 (by decide +kernel) h1 h2 h3
theorem c_X5_80 (Cx : sC G p m c cc nL s args RX5) {rm : Room} {mc ms : Nat} (h1 : rm.cells = mc) (h2 : rm.slots = ms) (h3 : rm.frames + 1 ≤ R.frames ∧ 8 + (4 + 11) + rm.locals ≤ R.locals) : CallW R s args RX5 RX2 80 yX2_pointNumber cX2_pointNumber 4 none (.code yX2_pointNumber cX2_pointNumber 4 none :: tb) rm mc ms 2 :=
  sCw Cx 2 w_1389 w_1390 w_1391 w_213 w_1392 (by decide +kernel) h1 h2 h3
theorem c_X5_88 (Cx : sC G p m c cc nL s args RX5) {rm : Room} {mc ms : Nat} (h1 : rm.cells = mc) (h2 : rm.slots = ms) (h3 : rm.frames + 1 ≤ R.frames ∧ 8 + (5 + 11) + rm.locals ≤ R.locals) : CallW R s args RX5 RX0 88 yX0_load cX0_load 5 none (.code yX0_load cX0_load 5 none :: tb) rm mc ms 2 :=
  sCw Cx 2 w_1361 w_1149 w_1150 w_212 w_1151 (by decide +kernel) h1 h2 h3
theorem g_X5_126 (Cx : sC G p m c cc nL s args RX5) (hW : sW G n S H) {k : Nat} (hk : k < n) (ht : tau k = .inl 0) {v : Int} (hv : S.1 k 2 = v) (hdg : decode cc pc = .ok (.getfield 126, 3)) (kk : W p l e R s m args below meth c H locs cells slots Q (F0 m (pc + 3) ls (.int (iv v) :: rest))) : W p l e R s m args below meth c H locs cells slots Q (F0 m pc ls (.ref (G.2.2.1 + k) :: rest)) :=
  sGetN Cx inX0 rfl 2 (by decide) w_407 hW hk ht (congrArg (fun z => Value.int (iv z)) hv) hdg kk
theorem c_X5_130 (Cx : sC G p m c cc nL s args RX5) {rm : Room} {mc ms : Nat} (h1 : rm.cells = mc) (h2 : rm.slots = ms) (h3 : rm.frames + 1 ≤ R.frames ∧ 8 + (5 + 11) + rm.locals ≤ R.locals) : CallW R s args RX5 RX10 130 yX10_count cX10_count 5 none (.code yX10_count cX10_count 5 none :: tb) rm mc ms 1 :=
  sCw Cx 1 w_1456 w_1457 w_1458 w_205 w_1459 (by decide +kernel) h1 h2 h3
theorem c_X5_95 (Cx : sC G p m c cc nL s args RX5) {rm : Room} {mc ms : Nat} (h1 : rm.cells = mc) (h2 : rm.slots = ms) (h3 : rm.frames + 1 ≤ R.frames ∧ 8 + (3 + 11) + rm.locals ≤ R.locals) : CallW R s args RX5 RX10 95 yX10_word cX10_word 3 none (.code yX10_word cX10_word 3 none :: tb) rm mc ms 1 :=
  sCw Cx 1 w_1410 w_1411 w_1412 w_205 w_1413 (by decide +kernel) h1 h2 h3
theorem c_X5_99 (Cx : sC G p m c cc nL s args RX5) {rm : Room} {mc ms : Nat} (h1 : rm.cells = mc) (h2 : rm.slots = ms) (h3 : rm.frames + 1 ≤ R.frames ∧ 8 + (7 + 11) + rm.locals ≤ R.locals) : CallW R s args RX5 RX10 99 yX10_number cX10_number 7 none (.code yX10_number cX10_number 7 none :: tb) rm mc ms 2 :=
  sCw Cx 2 w_1435 w_1436 w_1437 w_205 w_1438 (by decide +kernel) h1 h2 h3
theorem c_X5_102 (Cx : sC G p m c cc nL s args RX5) {rm : Room} {mc ms : Nat} (h1 : rm.cells = mc) (h2 : rm.slots = ms) (h3 : rm.frames + 1 ≤ R.frames ∧ 8 + (1 + 11) + rm.locals ≤ R.locals) : CallW R s args RX5 RX2 102 yX2_rowCount cX2_rowCount 1 (some .int) (.code yX2_rowCount cX2_rowCount 1 (some .int) :: tb) rm mc ms 0 :=
  sCw Cx 0 w_1440 w_1441 w_1442 w_213 w_1443 (by decide +kernel) h1 h2 h3
theorem c_X5_105 (Cx : sC G p m c cc nL s args RX5) {rm : Room} {mc ms : Nat} (h1 : rm.cells = mc) (h2 : rm.slots = ms) (h3 : rm.frames + 1 ≤ R.frames ∧ 8 + (5 + 11) + rm.locals ≤ R.locals) : CallW R s args RX5 RX2 105 yX2_multiplier cX2_multiplier 5 none (.code yX2_multiplier cX2_multiplier 5 none :: tb) rm mc ms 3 :=
  sCw Cx 3 w_1444 w_1445 w_1446 w_213 w_1447 (by decide +kernel) h1 h2 h3
theorem c_X5_108 (Cx : sC G p m c cc nL s args RX5) {rm : Room} {mc ms : Nat} (h1 : rm.cells = mc) (h2 : rm.slots = ms) (h3 : rm.frames + 1 ≤ R.frames ∧ 8 + (3 + 11) + rm.locals ≤ R.locals) : CallW R s args RX5 RX5 108 yX5_writePair cX5_writePair 3 none (.code yX5_writePair cX5_writePair 3 none :: tb) rm mc ms 2 :=
  sCw Cx 2 w_1452 w_1454 w_61 w_214 w_1455 (by decide +kernel) h1 h2 h3
theorem c_X5_115 (Cx : sC G p m c cc nL s args RX5) {rm : Room} {mc ms : Nat} (h1 : rm.cells = mc) (h2 : rm.slots = ms) (h3 : rm.frames + 1 ≤ R.frames ∧ 8 + (2 + 11) + rm.locals ≤ R.locals) : CallW R s args RX5 RX6 115 yX6_clearFactors cX6_clearFactors 2 none (.code yX6_clearFactors cX6_clearFactors 2 none :: tb) rm mc ms 0 :=
  sCw Cx 0 w_1484 w_1186 w_1187 w_211 w_1188 (by decide +kernel) h1 h2 h3
theorem c_X5_120 (Cx : sC G p m c cc nL s args RX5) {rm : Room} {mc ms : Nat} (h1 : rm.cells = mc) (h2 : rm.slots = ms) (h3 : rm.frames + 1 ≤ R.frames ∧ 8 + (2 + 11) + rm.locals ≤ R.locals) : CallW R s args RX5 RX2 120 yX2_remainder cX2_remainder 2 none (.code yX2_remainder cX2_remainder 2 none :: tb) rm mc ms 1 :=
  sCw Cx 1 w_1485 w_1486 w_1487 w_213 w_1488 (by decide +kernel) h1 h2 h3
theorem c_X5_123 (Cx : sC G p m c cc nL s args RX5) {rm : Room} {mc ms : Nat} (h1 : rm.cells = mc) (h2 : rm.slots = ms) (h3 : rm.frames + 1 ≤ R.frames ∧ 8 + (3 + 11) + rm.locals ≤ R.locals) : CallW R s args RX5 RX6 123 yX6_setFactor cX6_setFactor 3 none (.code yX6_setFactor cX6_setFactor 3 none :: tb) rm mc ms 2 :=
  sCw Cx 2 w_1489 w_1490 w_1491 w_211 w_1492 (by decide +kernel) h1 h2 h3
theorem g_X5_46 (Cx : sC G p m c cc nL s args RX5) (hW : sW G n S H) {k : Nat} (hk : k < n) (ht : tau k = .inl 5) {v : Value} (hv : S.2.2.2 k 8 = v) (hdg : decode cc pc = .ok (.getfield 46, 3)) (kk : W p l e R s m args below meth c H locs cells slots Q (F0 m (pc + 3) ls (v :: rest))) : W p l e R s m args below meth c H locs cells slots Q (F0 m pc ls (.ref (G.2.2.1 + k) :: rest)) :=
  sGet Cx inX5 rfl 8 (by decide) w_535 hW hk ht hv hdg kk
theorem g_X5_49 (Cx : sC G p m c cc nL s args RX5) (hW : sW G n S H) {k : Nat} (hk : k < n) (ht : tau k = .inl 5) {v : Value} (hv : S.2.2.2 k 9 = v) (hdg : decode cc pc = .ok (.getfield 49, 3)) (kk : W p l e R s m args below meth c H locs cells slots Q (F0 m (pc + 3) ls (v :: rest))) : W p l e R s m args below meth c H locs cells slots Q (F0 m pc ls (.ref (G.2.2.1 + k) :: rest)) :=
  sGet Cx inX5 rfl 9 (by decide) w_536 hW hk ht hv hdg kk
theorem c_X5_137 (Cx : sC G p m c cc nL s args RX5) {rm : Room} {mc ms : Nat} (h1 : rm.cells = mc) (h2 : rm.slots = ms) (h3 : rm.frames + 1 ≤ R.frames ∧ 8 + (5 + 11) + rm.locals ≤ R.locals) : CallW R s args RX5 RX0 137 yX0_divide cX0_divide 5 none (.code yX0_divide cX0_divide 5 none :: tb) rm mc ms 3 :=
  sCw Cx 3 w_1657 w_1306 w_1307 w_212 w_1308 (by decide +kernel) h1 h2 h3
theorem g_X5_30 (Cx : sC G p m c cc nL s args RX5) (hW : sW G n S H) {k : Nat} (hk : k < n) (ht : tau k = .inl 5) {v : Value} (hv : S.2.2.2 k 3 = v) (hdg : decode cc pc = .ok (.getfield 30, 3)) (kk : W p l e R s m args below meth c H locs cells slots Q (F0 m (pc + 3) ls (v :: rest))) : W p l e R s m args below meth c H locs cells slots Q (F0 m pc ls (.ref (G.2.2.1 + k) :: rest)) :=
  sGet Cx inX5 rfl 3 (by decide) w_530 hW hk ht hv hdg kk
theorem c_X5_141 (Cx : sC G p m c cc nL s args RX5) {rm : Room} {mc ms : Nat} (h1 : rm.cells = mc) (h2 : rm.slots = ms) (h3 : rm.frames + 1 ≤ R.frames ∧ 8 + (2 + 11) + rm.locals ≤ R.locals) : CallW R s args RX5 RX0 141 yX0_copy cX0_copy 2 none (.code yX0_copy cX0_copy 2 none :: tb) rm mc ms 1 :=
  sCw Cx 1 w_1650 w_1284 w_1285 w_212 w_1286 (by decide +kernel) h1 h2 h3
theorem g_X5_34 (Cx : sC G p m c cc nL s args RX5) (hW : sW G n S H) {k : Nat} (hk : k < n) (ht : tau k = .inl 5) {v : Value} (hv : S.2.2.2 k 4 = v) (hdg : decode cc pc = .ok (.getfield 34, 3)) (kk : W p l e R s m args below meth c H locs cells slots Q (F0 m (pc + 3) ls (v :: rest))) : W p l e R s m args below meth c H locs cells slots Q (F0 m pc ls (.ref (G.2.2.1 + k) :: rest)) :=
  sGet Cx inX5 rfl 4 (by decide) w_531 hW hk ht hv hdg kk
theorem p_X5_126 (Cx : sC G p m c cc nL s args RX5) (hW : sW G n S H) (hL : sL G locs) {k : Nat} (hk : k < n) (ht : tau k = .inl 0) {v : Int} (hdg : decode cc pc = .ok (.putfield 126, 3)) (kk : ∀ (H1 : Heap) (locs1 : List Loc), sW G n (uF S k 2 v) H1 → sL G locs1 → W p l e R s m args below meth c H1 locs1 cells slots Q (F0 m (pc + 3) ls rest)) : W p l e R s m args below meth c H locs cells slots Q (F0 m pc ls (.int (iv v) :: .ref (G.2.2.1 + k) :: rest)) :=
  sPutN Cx inX0 tyX0 tyX0_ok nmX0 rfl 2 (by decide) w_407 rfl hW hL hk ht rfl rfl (fun _ h => uF_same h) (fun _ h => uF_off h) (congrArg (fun z => Value.int (iv z)) uF_on) hdg kk
theorem g_X5_43 (Cx : sC G p m c cc nL s args RX5) (hW : sW G n S H) {k : Nat} (hk : k < n) (ht : tau k = .inl 5) {v : Value} (hv : S.2.2.2 k 7 = v) (hdg : decode cc pc = .ok (.getfield 43, 3)) (kk : W p l e R s m args below meth c H locs cells slots Q (F0 m (pc + 3) ls (v :: rest))) : W p l e R s m args below meth c H locs cells slots Q (F0 m pc ls (.ref (G.2.2.1 + k) :: rest)) :=
  sGet Cx inX5 rfl 7 (by decide) w_534 hW hk ht hv hdg kk
theorem g_X5_37 (Cx : sC G p m c cc nL s args RX5) (hW : sW G n S H) {k : Nat} (hk : k < n) (ht : tau k = .inl 5) {v : Value} (hv : S.2.2.2 k 5 = v) (hdg : decode cc pc = .ok (.getfield 37, 3)) (kk : W p l e R s m args below meth c H locs cells slots Q (F0 m (pc + 3) ls (v :: rest))) : W p l e R s m args below meth c H locs cells slots Q (F0 m pc ls (.ref (G.2.2.1 + k) :: rest)) :=
  sGet Cx inX5 rfl 5 (by decide) w_532 hW hk ht hv hdg kk
theorem c_X5_152 (Cx : sC G p m c cc nL s args RX5) {rm : Room} {mc ms : Nat} (h1 : rm.cells = mc) (h2 : rm.slots = ms) (h3 : rm.frames + 1 ≤ R.frames ∧ 8 + (7 + 11) + rm.locals ≤ R.locals) : CallW R s args RX5 RX5 152 yX5_common cX5_common 7 (some (.object "OptimumHouse$Big")) (.code yX5_common cX5_common 7 (some (.object "OptimumHouse$Big")) :: tb) rm mc ms 2 :=
  sCw Cx 2 w_1653 w_1655 w_73 w_214 w_1656 (by decide +kernel) h1 h2 h3
theorem c_X5_144 (Cx : sC G p m c cc nL s args RX5) {rm : Room} {mc ms : Nat} (h1 : rm.cells = mc) (h2 : rm.slots = ms) (h3 : rm.frames + 1 ≤ R.frames ∧ 8 + (1 + 11) + rm.locals ≤ R.locals) : CallW R s args RX5 RX0 144 yX0_turn cX0_turn 1 none (.code yX0_turn cX0_turn 1 none :: tb) rm mc ms 0 :=
  sCw Cx 0 w_1651 w_1326 w_1327 w_212 w_1328 (by decide +kernel) h1 h2 h3
theorem c_X5_156 (Cx : sC G p m c cc nL s args RX5) {rm : Room} {mc ms : Nat} (h1 : rm.cells = mc) (h2 : rm.slots = ms) (h3 : rm.frames + 1 ≤ R.frames ∧ 8 + (4 + 11) + rm.locals ≤ R.locals) : CallW R s args RX5 RX5 156 yX5_reduce cX5_reduce 4 none (.code yX5_reduce cX5_reduce 4 none :: tb) rm mc ms 3 :=
  sCw Cx 3 w_1646 w_1648 w_72 w_214 w_1649 (by decide +kernel) h1 h2 h3
theorem c_X5_160 (Cx : sC G p m c cc nL s args RX5) {rm : Room} {mc ms : Nat} (h1 : rm.cells = mc) (h2 : rm.slots = ms) (h3 : rm.frames + 1 ≤ R.frames ∧ 8 + (6 + 11) + rm.locals ≤ R.locals) : CallW R s args RX5 RX0 160 yX0_put cX0_put 6 none (.code yX0_put cX0_put 6 none :: tb) rm mc ms 1 :=
  sCw Cx 1 w_1731 w_1263 w_1264 w_212 w_1265 (by decide +kernel) h1 h2 h3
theorem c_X5_164 (Cx : sC G p m c cc nL s args RX5) {rm : Room} {mc ms : Nat} (h1 : rm.cells = mc) (h2 : rm.slots = ms) (h3 : rm.frames + 1 ≤ R.frames ∧ 8 + (2 + 11) + rm.locals ≤ R.locals) : CallW R s args RX5 RX0 164 yX0_compareWith cX0_compareWith 2 (some .int) (.code yX0_compareWith cX0_compareWith 2 (some .int) :: tb) rm mc ms 1 :=
  sCw Cx 1 w_1732 w_1368 w_1369 w_212 w_1370 (by decide +kernel) h1 h2 h3
theorem c_X5_168 (Cx : sC G p m c cc nL s args RX5) {rm : Room} {mc ms : Nat} (h1 : rm.cells = mc) (h2 : rm.slots = ms) (h3 : rm.frames + 1 ≤ R.frames ∧ 8 + (2 + 11) + rm.locals ≤ R.locals) : CallW R s args RX5 RX10 168 yX10_put cX10_put 2 none (.code yX10_put cX10_put 2 none :: tb) rm mc ms 1 :=
  sCw Cx 1 w_1733 w_751 w_752 w_205 w_753 (by decide +kernel) h1 h2 h3
theorem c_X5_170 (Cx : sC G p m c cc nL s args RX5) {rm : Room} {mc ms : Nat} (h1 : rm.cells = mc) (h2 : rm.slots = ms) (h3 : rm.frames + 1 ≤ R.frames ∧ 8 + (2 + 11) + rm.locals ≤ R.locals) : CallW R s args RX5 RX5 170 yX5_pointDenominator cX5_pointDenominator 2 none (.code yX5_pointDenominator cX5_pointDenominator 2 none :: tb) rm mc ms 1 :=
  sCw Cx 1 w_1645 w_1358 w_1359 w_214 w_1360 (by decide +kernel) h1 h2 h3
theorem c_X5_173 (Cx : sC G p m c cc nL s args RX5) {rm : Room} {mc ms : Nat} (h1 : rm.cells = mc) (h2 : rm.slots = ms) (h3 : rm.frames + 1 ≤ R.frames ∧ 8 + (3 + 11) + rm.locals ≤ R.locals) : CallW R s args RX5 RX5 173 yX5_pointNumber cX5_pointNumber 3 none (.code yX5_pointNumber cX5_pointNumber 3 none :: tb) rm mc ms 2 :=
  sCw Cx 2 w_1644 w_1364 w_1365 w_214 w_1366 (by decide +kernel) h1 h2 h3
theorem g_X5_186 (Cx : sC G p m c cc nL s args RX5) (hW : sW G n S H) {k : Nat} (hk : k < n) (ht : tau k = .inl 3) {v : Int} (hv : S.1 k 2 = v) (hdg : decode cc pc = .ok (.getfield 186, 3)) (kk : W p l e R s m args below meth c H locs cells slots Q (F0 m (pc + 3) ls (.int (iv v) :: rest))) : W p l e R s m args below meth c H locs cells slots Q (F0 m pc ls (.ref (G.2.2.1 + k) :: rest)) :=
  sGetN Cx inX3 rfl 2 (by decide) w_270 hW hk ht (congrArg (fun z => Value.int (iv z)) hv) hdg kk
theorem c_X5_189 (Cx : sC G p m c cc nL s args RX5) {rm : Room} {mc ms : Nat} (h1 : rm.cells = mc) (h2 : rm.slots = ms) (h3 : rm.frames + 1 ≤ R.frames ∧ 8 + (3 + 11) + rm.locals ≤ R.locals) : CallW R s args RX5 RX5 189 yX5_writePoint cX5_writePoint 3 none (.code yX5_writePoint cX5_writePoint 3 none :: tb) rm mc ms 1 :=
  sCw Cx 1 w_1659 w_1661 w_74 w_214 w_1662 (by decide +kernel) h1 h2 h3
theorem g_X5_180 (Cx : sC G p m c cc nL s args RX5) (hW : sW G n S H) {k : Nat} (hk : k < n) (ht : tau k = .inl 3) {v : Int} (hv : S.1 k 4 = v) (hdg : decode cc pc = .ok (.getfield 180, 3)) (kk : W p l e R s m args below meth c H locs cells slots Q (F0 m (pc + 3) ls (.int (iv v) :: rest))) : W p l e R s m args below meth c H locs cells slots Q (F0 m pc ls (.ref (G.2.2.1 + k) :: rest)) :=
  sGetN Cx inX3 rfl 4 (by decide) w_282 hW hk ht (congrArg (fun z => Value.int (iv z)) hv) hdg kk
theorem c_X5_194 (Cx : sC G p m c cc nL s args RX5) {rm : Room} {mc ms : Nat} (h1 : rm.cells = mc) (h2 : rm.slots = ms) (h3 : rm.frames + 1 ≤ R.frames ∧ 8 + (4 + 11) + rm.locals ≤ R.locals) : CallW R s args RX5 RX5 194 yX5_takePoint cX5_takePoint 4 none (.code yX5_takePoint cX5_takePoint 4 none :: tb) rm mc ms 2 :=
  sCw Cx 2 w_1673 w_1384 w_1385 w_214 w_1386 (by decide +kernel) h1 h2 h3
theorem c_X5_202 (Cx : sC G p m c cc nL s args RX5) {rm : Room} {mc ms : Nat} (h1 : rm.cells = mc) (h2 : rm.slots = ms) (h3 : rm.frames + 1 ≤ R.frames ∧ 8 + (4 + 11) + rm.locals ≤ R.locals) : CallW R s args RX5 RX2 202 yX2_rayNumber cX2_rayNumber 4 none (.code yX2_rayNumber cX2_rayNumber 4 none :: tb) rm mc ms 2 :=
  sCw Cx 2 w_1676 w_1677 w_1678 w_213 w_1679 (by decide +kernel) h1 h2 h3
end RW42
