theorem dX11_begin_0 : decode cX11_begin 0 = .ok (.aload_n 0, 1) := by decide +kernel
theorem dX11_begin_1 : decode cX11_begin 1 = .ok (.getfield 79, 3) := by decide +kernel
theorem dX11_begin_4 : decode cX11_begin 4 = .ok (.ifCond .eq 13, 3) := by decide +kernel
theorem dX11_begin_7 : decode cX11_begin 7 = .ok (.iload_n 1, 1) := by decide +kernel
theorem dX11_begin_8 : decode cX11_begin 8 = .ok (.ifCond .lt 9, 3) := by decide +kernel
theorem dX11_begin_11 : decode cX11_begin 11 = .ok (.iload_n 1, 1) := by decide +kernel
theorem dX11_begin_12 : decode cX11_begin 12 = .ok (.bipush 20, 2) := by decide +kernel
theorem dX11_begin_14 : decode cX11_begin 14 = .ok (.if_icmp .le 5, 3) := by decide +kernel
theorem dX11_begin_17 : decode cX11_begin 17 = .ok (.iconst 0, 1) := by decide +kernel
theorem dX11_begin_18 : decode cX11_begin 18 = .ok (.ireturn, 1) := by decide +kernel
theorem dX11_begin_19 : decode cX11_begin 19 = .ok (.aload_n 0, 1) := by decide +kernel
theorem dX11_begin_20 : decode cX11_begin 20 = .ok (.getfield 41, 3) := by decide +kernel
theorem dX11_begin_23 : decode cX11_begin 23 = .ok (.aload_n 0, 1) := by decide +kernel
theorem dX11_begin_24 : decode cX11_begin 24 = .ok (.getfield 24, 3) := by decide +kernel
theorem dX11_begin_27 : decode cX11_begin 27 = .ok (.iload_n 1, 1) := by decide +kernel
theorem dX11_begin_28 : decode cX11_begin 28 = .ok (.invokevirtual 106, 3) := by decide +kernel
theorem dX11_begin_31 : decode cX11_begin 31 = .ok (.aload_n 0, 1) := by decide +kernel
theorem dX11_begin_32 : decode cX11_begin 32 = .ok (.iconst 1, 1) := by decide +kernel
theorem dX11_begin_33 : decode cX11_begin 33 = .ok (.putfield 83, 3) := by decide +kernel
theorem dX11_begin_36 : decode cX11_begin 36 = .ok (.iconst 1, 1) := by decide +kernel
theorem dX11_begin_37 : decode cX11_begin 37 = .ok (.ireturn, 1) := by decide +kernel
theorem dX11_check_0 : decode cX11_check 0 = .ok (.aload_n 0, 1) := by decide +kernel
theorem dX11_check_1 : decode cX11_check 1 = .ok (.iconst 0, 1) := by decide +kernel
theorem dX11_check_2 : decode cX11_check 2 = .ok (.putfield 71, 3) := by decide +kernel
theorem dX11_check_5 : decode cX11_check 5 = .ok (.aload_n 0, 1) := by decide +kernel
theorem dX11_check_6 : decode cX11_check 6 = .ok (.iconst (-1), 1) := by decide +kernel
theorem dX11_check_7 : decode cX11_check 7 = .ok (.putfield 52, 3) := by decide +kernel
theorem dX11_check_10 : decode cX11_check 10 = .ok (.aload_n 0, 1) := by decide +kernel
theorem dX11_check_11 : decode cX11_check 11 = .ok (.getfield 79, 3) := by decide +kernel
theorem dX11_check_14 : decode cX11_check 14 = .ok (.ifCond .ne 12, 3) := by decide +kernel
theorem dX11_check_17 : decode cX11_check 17 = .ok (.aload_n 0, 1) := by decide +kernel
theorem dX11_check_18 : decode cX11_check 18 = .ok (.getfield 14, 3) := by decide +kernel
theorem dX11_check_21 : decode cX11_check 21 = .ok (.invokevirtual 76, 3) := by decide +kernel
theorem dX11_check_24 : decode cX11_check 24 = .ok (.iconst (-1), 1) := by decide +kernel
theorem dX11_check_25 : decode cX11_check 25 = .ok (.ireturn, 1) := by decide +kernel
theorem dX11_check_26 : decode cX11_check 26 = .ok (.aload_n 0, 1) := by decide +kernel
theorem dX11_check_27 : decode cX11_check 27 = .ok (.aload_n 0, 1) := by decide +kernel
theorem dX11_check_28 : decode cX11_check 28 = .ok (.getfield 48, 3) := by decide +kernel
theorem dX11_check_31 : decode cX11_check 31 = .ok (.aload_n 0, 1) := by decide +kernel
theorem dX11_check_32 : decode cX11_check 32 = .ok (.getfield 14, 3) := by decide +kernel
theorem dX11_check_35 : decode cX11_check 35 = .ok (.aload_n 0, 1) := by decide +kernel
theorem dX11_check_36 : decode cX11_check 36 = .ok (.getfield 24, 3) := by decide +kernel
theorem dX11_check_39 : decode cX11_check 39 = .ok (.invokevirtual 153, 3) := by decide +kernel
theorem dX11_check_42 : decode cX11_check 42 = .ok (.putfield 71, 3) := by decide +kernel
theorem dX11_check_45 : decode cX11_check 45 = .ok (.aload_n 0, 1) := by decide +kernel
theorem dX11_check_46 : decode cX11_check 46 = .ok (.aload_n 0, 1) := by decide +kernel
theorem dX11_check_47 : decode cX11_check 47 = .ok (.getfield 48, 3) := by decide +kernel
theorem dX11_check_50 : decode cX11_check 50 = .ok (.invokevirtual 156, 3) := by decide +kernel
theorem dX11_check_53 : decode cX11_check 53 = .ok (.putfield 52, 3) := by decide +kernel
theorem dX11_check_56 : decode cX11_check 56 = .ok (.aload_n 0, 1) := by decide +kernel
theorem dX11_check_57 : decode cX11_check 57 = .ok (.getfield 14, 3) := by decide +kernel
theorem dX11_check_60 : decode cX11_check 60 = .ok (.invokevirtual 76, 3) := by decide +kernel
theorem dX11_check_63 : decode cX11_check 63 = .ok (.aload_n 0, 1) := by decide +kernel
theorem dX11_check_64 : decode cX11_check 64 = .ok (.getfield 71, 3) := by decide +kernel
theorem dX11_check_67 : decode cX11_check 67 = .ok (.ireturn, 1) := by decide +kernel
theorem dX11_coefficient_0 : decode cX11_coefficient 0 = .ok (.aload_n 0, 1) := by decide +kernel
theorem dX11_coefficient_1 : decode cX11_coefficient 1 = .ok (.getfield 79, 3) := by decide +kernel
theorem dX11_coefficient_4 : decode cX11_coefficient 4 = .ok (.ifCond .eq 22, 3) := by decide +kernel
theorem dX11_coefficient_7 : decode cX11_coefficient 7 = .ok (.iload_n 2, 1) := by decide +kernel
theorem dX11_coefficient_8 : decode cX11_coefficient 8 = .ok (.ifCond .lt 18, 3) := by decide +kernel
theorem dX11_coefficient_11 : decode cX11_coefficient 11 = .ok (.iload_n 2, 1) := by decide +kernel
theorem dX11_coefficient_12 : decode cX11_coefficient 12 = .ok (.aload_n 0, 1) := by decide +kernel
theorem dX11_coefficient_13 : decode cX11_coefficient 13 = .ok (.getfield 24, 3) := by decide +kernel
theorem dX11_coefficient_16 : decode cX11_coefficient 16 = .ok (.getfield 86, 3) := by decide +kernel
theorem dX11_coefficient_19 : decode cX11_coefficient 19 = .ok (.if_icmp .gt 7, 3) := by decide +kernel
theorem dX11_coefficient_22 : decode cX11_coefficient 22 = .ok (.iload_n 1, 1) := by decide +kernel
theorem dX11_coefficient_23 : decode cX11_coefficient 23 = .ok (.ifCond .ge 5, 3) := by decide +kernel
theorem dX11_coefficient_26 : decode cX11_coefficient 26 = .ok (.lconst 0, 1) := by decide +kernel
theorem dX11_coefficient_27 : decode cX11_coefficient 27 = .ok (.lreturn, 1) := by decide +kernel
theorem dX11_coefficient_28 : decode cX11_coefficient 28 = .ok (.aload_n 0, 1) := by decide +kernel
theorem dX11_coefficient_29 : decode cX11_coefficient 29 = .ok (.getfield 83, 3) := by decide +kernel
theorem dX11_coefficient_32 : decode cX11_coefficient 32 = .ok (.ifCond .eq 13, 3) := by decide +kernel
theorem dX11_coefficient_35 : decode cX11_coefficient 35 = .ok (.aload_n 0, 1) := by decide +kernel
theorem dX11_coefficient_36 : decode cX11_coefficient 36 = .ok (.getfield 41, 3) := by decide +kernel
theorem dX11_coefficient_39 : decode cX11_coefficient 39 = .ok (.iload_n 1, 1) := by decide +kernel
theorem dX11_coefficient_40 : decode cX11_coefficient 40 = .ok (.iload_n 2, 1) := by decide +kernel
theorem dX11_coefficient_41 : decode cX11_coefficient 41 = .ok (.invokevirtual 98, 3) := by decide +kernel
theorem dX11_coefficient_44 : decode cX11_coefficient 44 = .ok (.lreturn, 1) := by decide +kernel
theorem dX11_coefficient_45 : decode cX11_coefficient 45 = .ok (.iload_n 1, 1) := by decide +kernel
theorem dX11_coefficient_46 : decode cX11_coefficient 46 = .ok (.aload_n 0, 1) := by decide +kernel
theorem dX11_coefficient_47 : decode cX11_coefficient 47 = .ok (.getfield 24, 3) := by decide +kernel
theorem dX11_coefficient_50 : decode cX11_coefficient 50 = .ok (.getfield 89, 3) := by decide +kernel
theorem dX11_coefficient_53 : decode cX11_coefficient 53 = .ok (.if_icmp .gt 16, 3) := by decide +kernel
theorem dX11_coefficient_56 : decode cX11_coefficient 56 = .ok (.aload_n 0, 1) := by decide +kernel
theorem dX11_coefficient_57 : decode cX11_coefficient 57 = .ok (.getfield 24, 3) := by decide +kernel
theorem dX11_coefficient_60 : decode cX11_coefficient 60 = .ok (.iload_n 1, 1) := by decide +kernel
theorem dX11_coefficient_61 : decode cX11_coefficient 61 = .ok (.iload_n 2, 1) := by decide +kernel
theorem dX11_coefficient_62 : decode cX11_coefficient 62 = .ok (.invokevirtual 102, 3) := by decide +kernel
theorem dX11_coefficient_65 : decode cX11_coefficient 65 = .ok (.i2l, 1) := by decide +kernel
theorem dX11_coefficient_66 : decode cX11_coefficient 66 = .ok (.goto 4, 3) := by decide +kernel
theorem dX11_coefficient_69 : decode cX11_coefficient 69 = .ok (.lconst 0, 1) := by decide +kernel
theorem dX11_coefficient_70 : decode cX11_coefficient 70 = .ok (.lreturn, 1) := by decide +kernel
theorem dX11_end_0 : decode cX11_end 0 = .ok (.aload_n 0, 1) := by decide +kernel
theorem dX11_end_1 : decode cX11_end 1 = .ok (.getfield 14, 3) := by decide +kernel
theorem dX11_end_4 : decode cX11_end 4 = .ok (.iload_n 1, 1) := by decide +kernel
theorem dX11_end_5 : decode cX11_end 5 = .ok (.invokevirtual 63, 3) := by decide +kernel
theorem dX11_end_8 : decode cX11_end 8 = .ok (.ireturn, 1) := by decide +kernel
theorem dX11_entry_0 : decode cX11_entry 0 = .ok (.aload_n 0, 1) := by decide +kernel
theorem dX11_entry_1 : decode cX11_entry 1 = .ok (.getfield 83, 3) := by decide +kernel
theorem dX11_entry_4 : decode cX11_entry 4 = .ok (.ifCond .eq 22, 3) := by decide +kernel
theorem dX11_entry_7 : decode cX11_entry 7 = .ok (.aload_n 0, 1) := by decide +kernel
theorem dX11_entry_8 : decode cX11_entry 8 = .ok (.getfield 41, 3) := by decide +kernel
theorem dX11_entry_11 : decode cX11_entry 11 = .ok (.getfield 120, 3) := by decide +kernel
theorem dX11_entry_14 : decode cX11_entry 14 = .ok (.iload_n 1, 1) := by decide +kernel
theorem dX11_entry_15 : decode cX11_entry 15 = .ok (.iload_n 2, 1) := by decide +kernel
theorem dX11_entry_16 : decode cX11_entry 16 = .ok (.aload_n 0, 1) := by decide +kernel
theorem dX11_entry_17 : decode cX11_entry 17 = .ok (.getfield 18, 3) := by decide +kernel
theorem dX11_entry_20 : decode cX11_entry 20 = .ok (.invokevirtual 129, 3) := by decide +kernel
theorem dX11_entry_23 : decode cX11_entry 23 = .ok (.ifCond .ne 5, 3) := by decide +kernel
theorem dX11_entry_26 : decode cX11_entry 26 = .ok (.iconst (-1), 1) := by decide +kernel
theorem dX11_entry_27 : decode cX11_entry 27 = .ok (.ireturn, 1) := by decide +kernel
theorem dX11_entry_28 : decode cX11_entry 28 = .ok (.aload_n 0, 1) := by decide +kernel
theorem dX11_entry_29 : decode cX11_entry 29 = .ok (.getfield 18, 3) := by decide +kernel
theorem dX11_entry_32 : decode cX11_entry 32 = .ok (.iload_n 3, 1) := by decide +kernel
theorem dX11_entry_33 : decode cX11_entry 33 = .ok (.invokevirtual 133, 3) := by decide +kernel
theorem dX11_entry_36 : decode cX11_entry 36 = .ok (.ireturn, 1) := by decide +kernel
theorem dX11_fault_0 : decode cX11_fault 0 = .ok (.iload_n 1, 1) := by decide +kernel
theorem dX11_fault_1 : decode cX11_fault 1 = .ok (.lookupswitch 37 #[(0, 27), (1, 32)], 27) := by decide +kernel
theorem dX11_fault_28 : decode cX11_fault 28 = .ok (.aload_n 0, 1) := by decide +kernel
theorem dX11_fault_29 : decode cX11_fault 29 = .ok (.getfield 71, 3) := by decide +kernel
theorem dX11_fault_32 : decode cX11_fault 32 = .ok (.ireturn, 1) := by decide +kernel
theorem dX11_fault_33 : decode cX11_fault 33 = .ok (.aload_n 0, 1) := by decide +kernel
theorem dX11_fault_34 : decode cX11_fault 34 = .ok (.getfield 52, 3) := by decide +kernel
theorem dX11_fault_37 : decode cX11_fault 37 = .ok (.ireturn, 1) := by decide +kernel
theorem dX11_fault_38 : decode cX11_fault 38 = .ok (.iconst (-1), 1) := by decide +kernel
theorem dX11_fault_39 : decode cX11_fault 39 = .ok (.ireturn, 1) := by decide +kernel
theorem dX11_feed_0 : decode cX11_feed 0 = .ok (.aload_n 0, 1) := by decide +kernel
theorem dX11_feed_1 : decode cX11_feed 1 = .ok (.getfield 14, 3) := by decide +kernel
theorem dX11_feed_4 : decode cX11_feed 4 = .ok (.invokevirtual 56, 3) := by decide +kernel
theorem dX11_feed_7 : decode cX11_feed 7 = .ok (.bipush 20, 2) := by decide +kernel
theorem dX11_feed_9 : decode cX11_feed 9 = .ok (.iadd, 1) := by decide +kernel
theorem dX11_feed_10 : decode cX11_feed 10 = .ok (.sipush 30000, 3) := by decide +kernel
theorem dX11_feed_13 : decode cX11_feed 13 = .ok (.if_icmp .le 5, 3) := by decide +kernel
theorem dX11_feed_16 : decode cX11_feed 16 = .ok (.iconst (-1), 1) := by decide +kernel
theorem dX11_feed_17 : decode cX11_feed 17 = .ok (.ireturn, 1) := by decide +kernel
theorem dX11_feed_18 : decode cX11_feed 18 = .ok (.aload_n 0, 1) := by decide +kernel
theorem dX11_feed_19 : decode cX11_feed 19 = .ok (.getfield 14, 3) := by decide +kernel
theorem dX11_feed_22 : decode cX11_feed 22 = .ok (.iload_n 1, 1) := by decide +kernel
theorem dX11_feed_23 : decode cX11_feed 23 = .ok (.invokevirtual 60, 3) := by decide +kernel
theorem dX11_feed_26 : decode cX11_feed 26 = .ok (.aload_n 0, 1) := by decide +kernel
theorem dX11_feed_27 : decode cX11_feed 27 = .ok (.getfield 14, 3) := by decide +kernel
theorem dX11_feed_30 : decode cX11_feed 30 = .ok (.iload_n 2, 1) := by decide +kernel
theorem dX11_feed_31 : decode cX11_feed 31 = .ok (.invokevirtual 60, 3) := by decide +kernel
theorem dX11_feed_34 : decode cX11_feed 34 = .ok (.aload_n 0, 1) := by decide +kernel
theorem dX11_feed_35 : decode cX11_feed 35 = .ok (.getfield 14, 3) := by decide +kernel
theorem dX11_feed_38 : decode cX11_feed 38 = .ok (.iload_n 3, 1) := by decide +kernel
theorem dX11_feed_39 : decode cX11_feed 39 = .ok (.invokevirtual 60, 3) := by decide +kernel
theorem dX11_feed_42 : decode cX11_feed 42 = .ok (.aload_n 0, 1) := by decide +kernel
theorem dX11_feed_43 : decode cX11_feed 43 = .ok (.getfield 14, 3) := by decide +kernel
theorem dX11_feed_46 : decode cX11_feed 46 = .ok (.iload 4, 2) := by decide +kernel
theorem dX11_feed_48 : decode cX11_feed 48 = .ok (.invokevirtual 60, 3) := by decide +kernel
theorem dX11_feed_51 : decode cX11_feed 51 = .ok (.aload_n 0, 1) := by decide +kernel
theorem dX11_feed_52 : decode cX11_feed 52 = .ok (.getfield 14, 3) := by decide +kernel
theorem dX11_feed_55 : decode cX11_feed 55 = .ok (.iload 5, 2) := by decide +kernel
theorem dX11_feed_57 : decode cX11_feed 57 = .ok (.invokevirtual 60, 3) := by decide +kernel
theorem dX11_feed_60 : decode cX11_feed 60 = .ok (.aload_n 0, 1) := by decide +kernel
theorem dX11_feed_61 : decode cX11_feed 61 = .ok (.getfield 14, 3) := by decide +kernel
theorem dX11_feed_64 : decode cX11_feed 64 = .ok (.invokevirtual 56, 3) := by decide +kernel
theorem dX11_feed_67 : decode cX11_feed 67 = .ok (.ireturn, 1) := by decide +kernel
theorem dX11_look_0 : decode cX11_look 0 = .ok (.iload_n 1, 1) := by decide +kernel
theorem dX11_look_1 : decode cX11_look 1 = .ok (.ifCond .lt 9, 3) := by decide +kernel
theorem dX11_look_4 : decode cX11_look 4 = .ok (.iload_n 1, 1) := by decide +kernel
theorem dX11_look_5 : decode cX11_look 5 = .ok (.bipush 9, 2) := by decide +kernel
theorem dX11_look_7 : decode cX11_look 7 = .ok (.if_icmp .le 5, 3) := by decide +kernel
theorem dX11_look_10 : decode cX11_look 10 = .ok (.iconst (-1), 1) := by decide +kernel
theorem dX11_look_11 : decode cX11_look 11 = .ok (.ireturn, 1) := by decide +kernel
theorem dX11_look_12 : decode cX11_look 12 = .ok (.iload_n 1, 1) := by decide +kernel
theorem dX11_look_13 : decode cX11_look 13 = .ok (.bipush 9, 2) := by decide +kernel
theorem dX11_look_15 : decode cX11_look 15 = .ok (.if_icmp .ne 11, 3) := by decide +kernel
theorem dX11_look_18 : decode cX11_look 18 = .ok (.aload_n 0, 1) := by decide +kernel
theorem dX11_look_19 : decode cX11_look 19 = .ok (.getfield 14, 3) := by decide +kernel
theorem dX11_look_22 : decode cX11_look 22 = .ok (.invokevirtual 56, 3) := by decide +kernel
theorem dX11_look_25 : decode cX11_look 25 = .ok (.ireturn, 1) := by decide +kernel
theorem dX11_look_26 : decode cX11_look 26 = .ok (.aload_n 0, 1) := by decide +kernel
theorem dX11_look_27 : decode cX11_look 27 = .ok (.getfield 83, 3) := by decide +kernel
theorem dX11_look_30 : decode cX11_look 30 = .ok (.ifCond .eq 14, 3) := by decide +kernel
theorem dX11_look_33 : decode cX11_look 33 = .ok (.aload_n 0, 1) := by decide +kernel
theorem dX11_look_34 : decode cX11_look 34 = .ok (.getfield 41, 3) := by decide +kernel
theorem dX11_look_37 : decode cX11_look 37 = .ok (.iload_n 1, 1) := by decide +kernel
theorem dX11_look_38 : decode cX11_look 38 = .ok (.invokevirtual 117, 3) := by decide +kernel
theorem dX11_look_41 : decode cX11_look 41 = .ok (.goto 4, 3) := by decide +kernel
theorem dX11_look_44 : decode cX11_look 44 = .ok (.iconst 0, 1) := by decide +kernel
theorem dX11_look_45 : decode cX11_look 45 = .ok (.ireturn, 1) := by decide +kernel
theorem dX11_place_0 : decode cX11_place 0 = .ok (.aload_n 0, 1) := by decide +kernel
theorem dX11_place_1 : decode cX11_place 1 = .ok (.getfield 83, 3) := by decide +kernel
theorem dX11_place_4 : decode cX11_place 4 = .ok (.ifCond .eq 17, 3) := by decide +kernel
theorem dX11_place_7 : decode cX11_place 7 = .ok (.aload_n 0, 1) := by decide +kernel
theorem dX11_place_8 : decode cX11_place 8 = .ok (.getfield 41, 3) := by decide +kernel
theorem dX11_place_11 : decode cX11_place 11 = .ok (.getfield 120, 3) := by decide +kernel
theorem dX11_place_14 : decode cX11_place 14 = .ok (.iload_n 1, 1) := by decide +kernel
theorem dX11_place_15 : decode cX11_place 15 = .ok (.invokevirtual 124, 3) := by decide +kernel
theorem dX11_place_18 : decode cX11_place 18 = .ok (.goto 4, 3) := by decide +kernel
theorem dX11_place_21 : decode cX11_place 21 = .ok (.iconst (-1), 1) := by decide +kernel
theorem dX11_place_22 : decode cX11_place 22 = .ok (.ireturn, 1) := by decide +kernel
theorem dX11_proof_0 : decode cX11_proof 0 = .ok (.aload_n 0, 1) := by decide +kernel
theorem dX11_proof_1 : decode cX11_proof 1 = .ok (.getfield 83, 3) := by decide +kernel
theorem dX11_proof_4 : decode cX11_proof 4 = .ok (.ifCond .eq 27, 3) := by decide +kernel
theorem dX11_proof_7 : decode cX11_proof 7 = .ok (.aload_n 0, 1) := by decide +kernel
theorem dX11_proof_8 : decode cX11_proof 8 = .ok (.getfield 41, 3) := by decide +kernel
theorem dX11_proof_11 : decode cX11_proof 11 = .ok (.invokevirtual 140, 3) := by decide +kernel
theorem dX11_proof_14 : decode cX11_proof 14 = .ok (.ifCond .eq 17, 3) := by decide +kernel
theorem dX11_proof_17 : decode cX11_proof 17 = .ok (.aload_n 0, 1) := by decide +kernel
theorem dX11_proof_18 : decode cX11_proof 18 = .ok (.getfield 41, 3) := by decide +kernel
theorem dX11_proof_21 : decode cX11_proof 21 = .ok (.getfield 144, 3) := by decide +kernel
theorem dX11_proof_24 : decode cX11_proof 24 = .ok (.iload_n 1, 1) := by decide +kernel
theorem dX11_proof_25 : decode cX11_proof 25 = .ok (.invokevirtual 148, 3) := by decide +kernel
theorem dX11_proof_28 : decode cX11_proof 28 = .ok (.goto 4, 3) := by decide +kernel
theorem dX11_proof_31 : decode cX11_proof 31 = .ok (.iconst (-1), 1) := by decide +kernel
theorem dX11_proof_32 : decode cX11_proof 32 = .ok (.ireturn, 1) := by decide +kernel
theorem dX11_size_0 : decode cX11_size 0 = .ok (.iload_n 1, 1) := by decide +kernel
theorem dX11_size_1 : decode cX11_size 1 = .ok (.ifCond .lt 8, 3) := by decide +kernel
theorem dX11_size_4 : decode cX11_size 4 = .ok (.iload_n 1, 1) := by decide +kernel
theorem dX11_size_5 : decode cX11_size 5 = .ok (.iconst 3, 1) := by decide +kernel
theorem dX11_size_6 : decode cX11_size 6 = .ok (.if_icmp .le 5, 3) := by decide +kernel
theorem dX11_size_9 : decode cX11_size 9 = .ok (.iconst (-1), 1) := by decide +kernel
theorem dX11_size_10 : decode cX11_size 10 = .ok (.ireturn, 1) := by decide +kernel
theorem dX11_size_11 : decode cX11_size 11 = .ok (.aload_n 0, 1) := by decide +kernel
theorem dX11_size_12 : decode cX11_size 12 = .ok (.getfield 79, 3) := by decide +kernel
theorem dX11_size_15 : decode cX11_size 15 = .ok (.ifCond .ne 5, 3) := by decide +kernel
theorem dX11_size_18 : decode cX11_size 18 = .ok (.iconst 0, 1) := by decide +kernel
theorem dX11_size_19 : decode cX11_size 19 = .ok (.ireturn, 1) := by decide +kernel
theorem dX11_size_20 : decode cX11_size 20 = .ok (.iload_n 1, 1) := by decide +kernel
theorem dX11_size_21 : decode cX11_size 21 = .ok (.tableswitch 51 0 2 #[27, 35, 43], 27) := by decide +kernel
theorem dX11_size_48 : decode cX11_size 48 = .ok (.aload_n 0, 1) := by decide +kernel
theorem dX11_size_49 : decode cX11_size 49 = .ok (.getfield 24, 3) := by decide +kernel
theorem dX11_size_52 : decode cX11_size 52 = .ok (.getfield 86, 3) := by decide +kernel
theorem dX11_size_55 : decode cX11_size 55 = .ok (.ireturn, 1) := by decide +kernel
theorem dX11_size_56 : decode cX11_size 56 = .ok (.aload_n 0, 1) := by decide +kernel
theorem dX11_size_57 : decode cX11_size 57 = .ok (.getfield 24, 3) := by decide +kernel
theorem dX11_size_60 : decode cX11_size 60 = .ok (.getfield 89, 3) := by decide +kernel
theorem dX11_size_63 : decode cX11_size 63 = .ok (.ireturn, 1) := by decide +kernel
theorem dX11_size_64 : decode cX11_size 64 = .ok (.aload_n 0, 1) := by decide +kernel
theorem dX11_size_65 : decode cX11_size 65 = .ok (.getfield 24, 3) := by decide +kernel
theorem dX11_size_68 : decode cX11_size 68 = .ok (.invokevirtual 92, 3) := by decide +kernel
theorem dX11_size_71 : decode cX11_size 71 = .ok (.ireturn, 1) := by decide +kernel
theorem dX11_size_72 : decode cX11_size 72 = .ok (.aload_n 0, 1) := by decide +kernel
theorem dX11_size_73 : decode cX11_size 73 = .ok (.getfield 24, 3) := by decide +kernel
theorem dX11_size_76 : decode cX11_size 76 = .ok (.getfield 95, 3) := by decide +kernel
theorem dX11_size_79 : decode cX11_size 79 = .ok (.ifCond .eq 7, 3) := by decide +kernel
theorem dX11_size_82 : decode cX11_size 82 = .ok (.iconst 1, 1) := by decide +kernel
theorem dX11_size_83 : decode cX11_size 83 = .ok (.goto 4, 3) := by decide +kernel
theorem dX11_size_86 : decode cX11_size 86 = .ok (.iconst 0, 1) := by decide +kernel
theorem dX11_size_87 : decode cX11_size 87 = .ok (.ireturn, 1) := by decide +kernel
theorem dX11_tell_0 : decode cX11_tell 0 = .ok (.aload_n 0, 1) := by decide +kernel
theorem dX11_tell_1 : decode cX11_tell 1 = .ok (.aload_n 0, 1) := by decide +kernel
theorem dX11_tell_2 : decode cX11_tell 2 = .ok (.getfield 34, 3) := by decide +kernel
theorem dX11_tell_5 : decode cX11_tell 5 = .ok (.aload_n 0, 1) := by decide +kernel
theorem dX11_tell_6 : decode cX11_tell 6 = .ok (.getfield 14, 3) := by decide +kernel
theorem dX11_tell_9 : decode cX11_tell 9 = .ok (.aload_n 0, 1) := by decide +kernel
theorem dX11_tell_10 : decode cX11_tell 10 = .ok (.getfield 28, 3) := by decide +kernel
theorem dX11_tell_13 : decode cX11_tell 13 = .ok (.invokevirtual 67, 3) := by decide +kernel
theorem dX11_tell_16 : decode cX11_tell 16 = .ok (.putfield 71, 3) := by decide +kernel
theorem dX11_tell_19 : decode cX11_tell 19 = .ok (.aload_n 0, 1) := by decide +kernel
theorem dX11_tell_20 : decode cX11_tell 20 = .ok (.aload_n 0, 1) := by decide +kernel
theorem dX11_tell_21 : decode cX11_tell 21 = .ok (.getfield 34, 3) := by decide +kernel
theorem dX11_tell_24 : decode cX11_tell 24 = .ok (.invokevirtual 74, 3) := by decide +kernel
theorem dX11_tell_27 : decode cX11_tell 27 = .ok (.putfield 52, 3) := by decide +kernel
theorem dX11_tell_30 : decode cX11_tell 30 = .ok (.aload_n 0, 1) := by decide +kernel
theorem dX11_tell_31 : decode cX11_tell 31 = .ok (.getfield 14, 3) := by decide +kernel
theorem dX11_tell_34 : decode cX11_tell 34 = .ok (.invokevirtual 76, 3) := by decide +kernel
theorem dX11_tell_37 : decode cX11_tell 37 = .ok (.aload_n 0, 1) := by decide +kernel
theorem dX11_tell_38 : decode cX11_tell 38 = .ok (.getfield 71, 3) := by decide +kernel
theorem dX11_tell_41 : decode cX11_tell 41 = .ok (.ifCond .ne 31, 3) := by decide +kernel
theorem dX11_tell_44 : decode cX11_tell 44 = .ok (.aload_n 0, 1) := by decide +kernel
theorem dX11_tell_45 : decode cX11_tell 45 = .ok (.getfield 24, 3) := by decide +kernel
theorem dX11_tell_48 : decode cX11_tell 48 = .ok (.astore_n 1, 1) := by decide +kernel
theorem dX11_tell_49 : decode cX11_tell 49 = .ok (.aload_n 0, 1) := by decide +kernel
theorem dX11_tell_50 : decode cX11_tell 50 = .ok (.aload_n 0, 1) := by decide +kernel
theorem dX11_tell_51 : decode cX11_tell 51 = .ok (.getfield 28, 3) := by decide +kernel
theorem dX11_tell_54 : decode cX11_tell 54 = .ok (.putfield 24, 3) := by decide +kernel
theorem dX11_tell_57 : decode cX11_tell 57 = .ok (.aload_n 0, 1) := by decide +kernel
theorem dX11_tell_58 : decode cX11_tell 58 = .ok (.aload_n 1, 1) := by decide +kernel
theorem dX11_tell_59 : decode cX11_tell 59 = .ok (.putfield 28, 3) := by decide +kernel
theorem dX11_tell_62 : decode cX11_tell 62 = .ok (.aload_n 0, 1) := by decide +kernel
theorem dX11_tell_63 : decode cX11_tell 63 = .ok (.iconst 1, 1) := by decide +kernel
theorem dX11_tell_64 : decode cX11_tell 64 = .ok (.putfield 79, 3) := by decide +kernel
theorem dX11_tell_67 : decode cX11_tell 67 = .ok (.aload_n 0, 1) := by decide +kernel
theorem dX11_tell_68 : decode cX11_tell 68 = .ok (.iconst 0, 1) := by decide +kernel
theorem dX11_tell_69 : decode cX11_tell 69 = .ok (.putfield 83, 3) := by decide +kernel
theorem dX11_tell_72 : decode cX11_tell 72 = .ok (.aload_n 0, 1) := by decide +kernel
theorem dX11_tell_73 : decode cX11_tell 73 = .ok (.getfield 71, 3) := by decide +kernel
theorem dX11_tell_76 : decode cX11_tell 76 = .ok (.ireturn, 1) := by decide +kernel
theorem dX11_told_0 : decode cX11_told 0 = .ok (.aload_n 0, 1) := by decide +kernel
theorem dX11_told_1 : decode cX11_told 1 = .ok (.getfield 83, 3) := by decide +kernel
theorem dX11_told_4 : decode cX11_told 4 = .ok (.ifCond .eq 18, 3) := by decide +kernel
theorem dX11_told_7 : decode cX11_told 7 = .ok (.aload_n 0, 1) := by decide +kernel
theorem dX11_told_8 : decode cX11_told 8 = .ok (.getfield 41, 3) := by decide +kernel
theorem dX11_told_11 : decode cX11_told 11 = .ok (.iload_n 1, 1) := by decide +kernel
theorem dX11_told_12 : decode cX11_told 12 = .ok (.aload_n 0, 1) := by decide +kernel
theorem dX11_told_13 : decode cX11_told 13 = .ok (.getfield 18, 3) := by decide +kernel
theorem dX11_told_16 : decode cX11_told 16 = .ok (.invokevirtual 136, 3) := by decide +kernel
theorem dX11_told_19 : decode cX11_told 19 = .ok (.ifCond .ne 5, 3) := by decide +kernel
theorem dX11_told_22 : decode cX11_told 22 = .ok (.iconst (-1), 1) := by decide +kernel
theorem dX11_told_23 : decode cX11_told 23 = .ok (.ireturn, 1) := by decide +kernel
theorem dX11_told_24 : decode cX11_told 24 = .ok (.aload_n 0, 1) := by decide +kernel
theorem dX11_told_25 : decode cX11_told 25 = .ok (.getfield 18, 3) := by decide +kernel
theorem dX11_told_28 : decode cX11_told 28 = .ok (.iload_n 2, 1) := by decide +kernel
theorem dX11_told_29 : decode cX11_told 29 = .ok (.invokevirtual 133, 3) := by decide +kernel
theorem dX11_told_32 : decode cX11_told 32 = .ok (.ireturn, 1) := by decide +kernel
theorem dX11_work_0 : decode cX11_work 0 = .ok (.iload_n 1, 1) := by decide +kernel
theorem dX11_work_1 : decode cX11_work 1 = .ok (.iconst 1, 1) := by decide +kernel
theorem dX11_work_2 : decode cX11_work 2 = .ok (.if_icmp .lt 10, 3) := by decide +kernel
theorem dX11_work_5 : decode cX11_work 5 = .ok (.iload_n 1, 1) := by decide +kernel
theorem dX11_work_6 : decode cX11_work 6 = .ok (.sipush 500, 3) := by decide +kernel
theorem dX11_work_9 : decode cX11_work 9 = .ok (.if_icmp .le 5, 3) := by decide +kernel
theorem dX11_work_12 : decode cX11_work 12 = .ok (.iconst (-1), 1) := by decide +kernel
theorem dX11_work_13 : decode cX11_work 13 = .ok (.ireturn, 1) := by decide +kernel
theorem dX11_work_14 : decode cX11_work 14 = .ok (.aload_n 0, 1) := by decide +kernel
theorem dX11_work_15 : decode cX11_work 15 = .ok (.getfield 83, 3) := by decide +kernel
theorem dX11_work_18 : decode cX11_work 18 = .ok (.ifCond .ne 5, 3) := by decide +kernel
theorem dX11_work_21 : decode cX11_work 21 = .ok (.iconst 0, 1) := by decide +kernel
theorem dX11_work_22 : decode cX11_work 22 = .ok (.ireturn, 1) := by decide +kernel
theorem dX11_work_23 : decode cX11_work 23 = .ok (.aload_n 0, 1) := by decide +kernel
theorem dX11_work_24 : decode cX11_work 24 = .ok (.getfield 41, 3) := by decide +kernel
theorem dX11_work_27 : decode cX11_work 27 = .ok (.iload_n 1, 1) := by decide +kernel
theorem dX11_work_28 : decode cX11_work 28 = .ok (.invokevirtual 110, 3) := by decide +kernel
theorem dX11_work_31 : decode cX11_work 31 = .ok (.istore_n 2, 1) := by decide +kernel
theorem dX11_work_32 : decode cX11_work 32 = .ok (.aload_n 0, 1) := by decide +kernel
theorem dX11_work_33 : decode cX11_work 33 = .ok (.getfield 41, 3) := by decide +kernel
theorem dX11_work_36 : decode cX11_work 36 = .ok (.invokevirtual 114, 3) := by decide +kernel
theorem dX11_work_39 : decode cX11_work 39 = .ok (.iload_n 2, 1) := by decide +kernel
theorem dX11_work_40 : decode cX11_work 40 = .ok (.ireturn, 1) := by decide +kernel
theorem w_268 : Cond.fieldLinkNest RX11 86 (TX3 2).1 (TX3 2).2.1 (TX3 2).2.2.1 "OptimumHouse" ∈ nst := nsc_1 65 (by decide +kernel) rfl
theorem w_275 : Cond.fieldLinkNest RX11 89 (TX3 3).1 (TX3 3).2.1 (TX3 3).2.2.1 "OptimumHouse" ∈ nst := nsc_1 72 (by decide +kernel) rfl
theorem w_280 : Cond.fieldLinkNest RX11 95 (TX3 4).1 (TX3 4).2.1 (TX3 4).2.2.1 "OptimumHouse" ∈ nst := nsc_1 77 (by decide +kernel) rfl
theorem w_564 : Cond.fieldLinkNest RX11 120 (TX7 1).1 (TX7 1).2.1 (TX7 1).2.2.1 "OptimumHouse" ∈ nst := nsc_2 121 (by decide +kernel) rfl
theorem w_566 : Cond.fieldLinkNest RX11 144 (TX7 2).1 (TX7 2).2.1 (TX7 2).2.2.1 "OptimumHouse" ∈ nst := nsc_2 123 (by decide +kernel) rfl
theorem w_704 : Cond.fieldLink RX11 14 (TX11 0).1 (TX11 0).2.1 (TX11 0).2.2.1 ∈ tb := tbc_3 21 (by decide +kernel) rfl
theorem w_705 : Cond.fieldLink RX11 18 (TX11 1).1 (TX11 1).2.1 (TX11 1).2.2.1 ∈ tb := tbc_3 22 (by decide +kernel) rfl
theorem w_706 : Cond.fieldLink RX11 34 (TX11 2).1 (TX11 2).2.1 (TX11 2).2.2.1 ∈ tb := tbc_3 23 (by decide +kernel) rfl
theorem w_707 : Cond.fieldLink RX11 41 (TX11 3).1 (TX11 3).2.1 (TX11 3).2.2.1 ∈ tb := tbc_3 24 (by decide +kernel) rfl
theorem w_708 : Cond.fieldLink RX11 48 (TX11 4).1 (TX11 4).2.1 (TX11 4).2.2.1 ∈ tb := tbc_3 25 (by decide +kernel) rfl
theorem w_709 : Cond.fieldLink RX11 24 (TX11 5).1 (TX11 5).2.1 (TX11 5).2.2.1 ∈ tb := tbc_3 26 (by decide +kernel) rfl
theorem w_710 : Cond.fieldLink RX11 28 (TX11 6).1 (TX11 6).2.1 (TX11 6).2.2.1 ∈ tb := tbc_3 27 (by decide +kernel) rfl
theorem w_711 : Cond.fieldLink RX11 79 (TX11 7).1 (TX11 7).2.1 (TX11 7).2.2.1 ∈ tb := tbc_3 28 (by decide +kernel) rfl
theorem w_712 : Cond.fieldLink RX11 83 (TX11 8).1 (TX11 8).2.1 (TX11 8).2.2.1 ∈ tb := tbc_3 29 (by decide +kernel) rfl
theorem w_713 : Cond.fieldLink RX11 71 (TX11 9).1 (TX11 9).2.1 (TX11 9).2.2.1 ∈ tb := tbc_3 30 (by decide +kernel) rfl
theorem w_714 : Cond.fieldLink RX11 52 (TX11 10).1 (TX11 10).2.1 (TX11 10).2.2.1 ∈ tb := tbc_3 31 (by decide +kernel) rfl
theorem w_715 : u_lay RX11 TX11 0 ∈ tb := tbc_3 32 (by decide +kernel) rfl
theorem w_717 : u_lay RX11 TX11 1 ∈ tb := tbc_3 34 (by decide +kernel) rfl
theorem w_719 : u_lay RX11 TX11 2 ∈ tb := tbc_3 36 (by decide +kernel) rfl
theorem w_721 : u_lay RX11 TX11 3 ∈ tb := tbc_3 38 (by decide +kernel) rfl
theorem w_723 : u_lay RX11 TX11 4 ∈ tb := tbc_3 40 (by decide +kernel) rfl
theorem w_725 : u_lay RX11 TX11 5 ∈ tb := tbc_3 42 (by decide +kernel) rfl
theorem w_727 : u_lay RX11 TX11 6 ∈ tb := tbc_3 44 (by decide +kernel) rfl
theorem w_729 : u_lay RX11 TX11 7 ∈ tb := tbc_3 46 (by decide +kernel) rfl
theorem w_731 : u_lay RX11 TX11 8 ∈ tb := tbc_3 48 (by decide +kernel) rfl
theorem w_733 : u_lay RX11 TX11 9 ∈ tb := tbc_3 50 (by decide +kernel) rfl
theorem w_735 : u_lay RX11 TX11 10 ∈ tb := tbc_3 52 (by decide +kernel) rfl
theorem w_742 : Cond.methodLink RX11 56 yX10_length ∈ tb := tbc_3 59 (by decide +kernel) rfl
theorem w_746 : Cond.methodLink RX11 60 yX10_putFour ∈ tb := tbc_3 63 (by decide +kernel) rfl
theorem w_747 : Cond.instanceMethod yX10_putFour ∈ tb := tbc_3 64 (by decide +kernel) rfl
theorem w_748 : Cond.selects RX10 yX10_putFour yX10_putFour ∈ tb := tbc_3 65 (by decide +kernel) rfl
theorem w_749 : Cond.code yX10_putFour cX10_putFour 2 none ∈ tb := tbc_3 66 (by decide +kernel) rfl
theorem w_758 : Cond.methodLink RX11 63 yX10_shorten ∈ tb := tbc_3 75 (by decide +kernel) rfl
theorem w_759 : Cond.instanceMethod yX10_shorten ∈ tb := tbc_3 76 (by decide +kernel) rfl
theorem w_760 : Cond.selects RX10 yX10_shorten yX10_shorten ∈ tb := tbc_3 77 (by decide +kernel) rfl
theorem w_761 : Cond.code yX10_shorten cX10_shorten 2 (some .boolean) ∈ tb := tbc_3 78 (by decide +kernel) rfl
theorem w_766 : Cond.methodLink RX11 67 yX9_read ∈ tb := tbc_3 83 (by decide +kernel) rfl
theorem w_767 : Cond.instanceMethod yX9_read ∈ tb := tbc_3 84 (by decide +kernel) rfl
theorem w_768 : Cond.selects RX9 yX9_read yX9_read ∈ tb := tbc_3 85 (by decide +kernel) rfl
theorem w_769 : Cond.code yX9_read cX9_read 5 (some .int) ∈ tb := tbc_3 86 (by decide +kernel) rfl
theorem w_1113 : Cond.methodLink RX11 74 yX9_faultPlace ∈ tb := tbc_4 190 (by decide +kernel) rfl
theorem w_1114 : Cond.instanceMethod yX9_faultPlace ∈ tb := tbc_4 191 (by decide +kernel) rfl
theorem w_1115 : Cond.selects RX9 yX9_faultPlace yX9_faultPlace ∈ tb := tbc_4 192 (by decide +kernel) rfl
theorem w_1116 : Cond.code yX9_faultPlace cX9_faultPlace 1 (some .int) ∈ tb := tbc_4 193 (by decide +kernel) rfl
theorem w_1117 : Cond.methodLink RX11 76 yX10_clear ∈ tb := tbc_4 194 (by decide +kernel) rfl
theorem w_1129 : Cond.methodLink RX11 92 yX3_wholes ∈ tb := tbc_4 206 (by decide +kernel) rfl
theorem w_1137 : Cond.methodLink RX11 98 yX7_rowNumber ∈ tb := tbc_4 214 (by decide +kernel) rfl
theorem w_1138 : Cond.instanceMethod yX7_rowNumber ∈ tb := tbc_4 215 (by decide +kernel) rfl
theorem w_1139 : Cond.selects RX7 yX7_rowNumber yX7_rowNumber ∈ tb := tbc_4 216 (by decide +kernel) rfl
theorem w_1140 : Cond.code yX7_rowNumber cX7_rowNumber 3 (some .long) ∈ tb := tbc_4 217 (by decide +kernel) rfl
theorem w_1164 : Cond.methodLink RX11 102 yX3_number ∈ tb := tbc_5 1 (by decide +kernel) rfl
theorem w_1172 : Cond.methodLink RX11 106 yX7_start ∈ tb := tbc_5 9 (by decide +kernel) rfl
theorem w_1173 : Cond.instanceMethod yX7_start ∈ tb := tbc_5 10 (by decide +kernel) rfl
theorem w_1174 : Cond.selects RX7 yX7_start yX7_start ∈ tb := tbc_5 11 (by decide +kernel) rfl
theorem w_1175 : Cond.code yX7_start cX7_start 3 none ∈ tb := tbc_5 12 (by decide +kernel) rfl
theorem w_1225 : Cond.methodLink RX11 110 yX7_run ∈ tb := tbc_5 62 (by decide +kernel) rfl
theorem w_1226 : Cond.instanceMethod yX7_run ∈ tb := tbc_5 63 (by decide +kernel) rfl
theorem w_1227 : Cond.selects RX7 yX7_run yX7_run ∈ tb := tbc_5 64 (by decide +kernel) rfl
theorem w_1228 : Cond.code yX7_run cX7_run 4 (some .int) ∈ tb := tbc_5 65 (by decide +kernel) rfl
theorem w_1626 : Cond.methodLink RX11 114 yX7_prove ∈ tb := tbc_6 223 (by decide +kernel) rfl
theorem w_1627 : Cond.instanceMethod yX7_prove ∈ tb := tbc_6 224 (by decide +kernel) rfl
theorem w_1628 : Cond.selects RX7 yX7_prove yX7_prove ∈ tb := tbc_6 225 (by decide +kernel) rfl
theorem w_1629 : Cond.code yX7_prove cX7_prove 1 none ∈ tb := tbc_6 226 (by decide +kernel) rfl
theorem w_1693 : Cond.methodLink RX11 117 yX7_state ∈ tb := tbc_7 50 (by decide +kernel) rfl
theorem w_1694 : Cond.instanceMethod yX7_state ∈ tb := tbc_7 51 (by decide +kernel) rfl
theorem w_1695 : Cond.selects RX7 yX7_state yX7_state ∈ tb := tbc_7 52 (by decide +kernel) rfl
theorem w_1696 : Cond.code yX7_state cX7_state 2 (some .int) ∈ tb := tbc_7 53 (by decide +kernel) rfl
theorem w_1706 : Cond.methodLink RX11 124 yX2_numberAt ∈ tb := tbc_7 63 (by decide +kernel) rfl
theorem w_1711 : Cond.methodLink RX11 129 yX2_write ∈ tb := tbc_7 68 (by decide +kernel) rfl
theorem w_1712 : Cond.instanceMethod yX2_write ∈ tb := tbc_7 69 (by decide +kernel) rfl
theorem w_1713 : Cond.selects RX2 yX2_write yX2_write ∈ tb := tbc_7 70 (by decide +kernel) rfl
theorem w_1714 : Cond.code yX2_write cX2_write 5 (some .boolean) ∈ tb := tbc_7 71 (by decide +kernel) rfl
theorem w_1717 : Cond.methodLink RX11 133 yX10_byteAt ∈ tb := tbc_7 74 (by decide +kernel) rfl
theorem w_1722 : Cond.methodLink RX11 136 yX7_writeFraction ∈ tb := tbc_7 79 (by decide +kernel) rfl
theorem w_1723 : Cond.instanceMethod yX7_writeFraction ∈ tb := tbc_7 80 (by decide +kernel) rfl
theorem w_1724 : Cond.selects RX7 yX7_writeFraction yX7_writeFraction ∈ tb := tbc_7 81 (by decide +kernel) rfl
theorem w_1725 : Cond.code yX7_writeFraction cX7_writeFraction 3 (some .boolean) ∈ tb := tbc_7 82 (by decide +kernel) rfl
theorem w_1738 : Cond.methodLink RX11 140 yX7_isProved ∈ tb := tbc_7 95 (by decide +kernel) rfl
theorem w_1739 : Cond.methodLink RX11 148 yX5_proofByte ∈ tb := tbc_7 96 (by decide +kernel) rfl
theorem w_1740 : Cond.instanceMethod yX5_proofByte ∈ tb := tbc_7 97 (by decide +kernel) rfl
theorem w_1741 : Cond.selects RX5 yX5_proofByte yX5_proofByte ∈ tb := tbc_7 98 (by decide +kernel) rfl
theorem w_1742 : Cond.code yX5_proofByte cX5_proofByte 3 (some .int) ∈ tb := tbc_7 99 (by decide +kernel) rfl
theorem w_1748 : Cond.methodLink RX11 153 yX1_hold ∈ tb := tbc_7 105 (by decide +kernel) rfl
theorem w_1749 : Cond.instanceMethod yX1_hold ∈ tb := tbc_7 106 (by decide +kernel) rfl
theorem w_1750 : Cond.selects RX1 yX1_hold yX1_hold ∈ tb := tbc_7 107 (by decide +kernel) rfl
theorem w_1751 : Cond.code yX1_hold cX1_hold 4 (some .int) ∈ tb := tbc_7 108 (by decide +kernel) rfl
theorem w_1948 : Cond.methodLink RX11 156 yX1_faultPlace ∈ tb := tbc_8 65 (by decide +kernel) rfl
theorem w_1949 : Cond.instanceMethod yX1_faultPlace ∈ tb := tbc_8 66 (by decide +kernel) rfl
theorem w_1950 : Cond.selects RX1 yX1_faultPlace yX1_faultPlace ∈ tb := tbc_8 67 (by decide +kernel) rfl
theorem w_1951 : Cond.code yX1_faultPlace cX1_faultPlace 1 (some .int) ∈ tb := tbc_8 68 (by decide +kernel) rfl
theorem inX11 : ∀ w ∈ u_ws RX11 TX11 11, w ∈ tb := by
  show ∀ w ∈ [u_lay RX11 TX11 0, u_lay RX11 TX11 1, u_lay RX11 TX11 2, u_lay RX11 TX11 3, u_lay RX11 TX11 4, u_lay RX11 TX11 5, u_lay RX11 TX11 6, u_lay RX11 TX11 7, u_lay RX11 TX11 8, u_lay RX11 TX11 9, u_lay RX11 TX11 10], w ∈ tb
  exact List.forall_mem_cons.mpr ⟨w_715, List.forall_mem_cons.mpr ⟨w_717, List.forall_mem_cons.mpr ⟨w_719, List.forall_mem_cons.mpr ⟨w_721, List.forall_mem_cons.mpr ⟨w_723, List.forall_mem_cons.mpr ⟨w_725, List.forall_mem_cons.mpr ⟨w_727, List.forall_mem_cons.mpr ⟨w_729, List.forall_mem_cons.mpr ⟨w_731, List.forall_mem_cons.mpr ⟨w_733, List.forall_mem_cons.mpr ⟨w_735, fun _ h => absurd h List.not_mem_nil⟩⟩⟩⟩⟩⟩⟩⟩⟩⟩⟩
section RW46
variable {p : Program} {l : Launch} {e : Env} {R : Room} {s : State} {m : MethodId} {args : Array Value} {below : List Frame} {meth : Method} {c : Code} {H : Heap} {locs : List Loc} {cells slots : Nat} {Q : State → Prop}
variable {cc : ByteArray} {pc nL : Nat} {ls : Array Slot} {rest st0 : List Value} {G : sG} {n : Nat} {S : sS}
theorem g_X11_14 (Cx : sC G p m c cc nL s args RX11) (hW : sW G n S H) {k : Nat} (hk : k < n) (ht : tau k = .inl 11) {v : Value} (hv : S.2.2.2 k 0 = v) (hdg : decode cc pc = .ok (.getfield 14, 3)) (kk : W p l e R s m args below meth c H locs cells slots Q (F0 m (pc + 3) ls (v :: rest))) : W p l e R s m args below meth c H locs cells slots Q (F0 m pc ls (.ref (G.2.2.1 + k) :: rest)) :=
  sGet Cx inX11 rfl 0 (by decide) w_704 hW hk ht hv hdg kk
theorem c_X11_56 (Cx : sC G p m c cc nL s args RX11) {rm : Room} {mc ms : Nat} (h1 : rm.cells = mc) (h2 : rm.slots = ms) (h3 : rm.frames + 1 ≤ R.frames ∧ 8 + (1 + 11) + rm.locals ≤ R.locals) : CallW R s args RX11 RX10 56 yX10_length cX10_length 1 (some .int) (.code yX10_length cX10_length 1 (some .int) :: tb) rm mc ms 0 :=
  sCw Cx 0 w_742 w_743 w_744 w_205 w_745 (by decide +kernel) h1 h2 h3
theorem c_X11_60 (Cx : sC G p m c cc nL s args RX11) {rm : Room} {mc ms : Nat} (h1 : rm.cells = mc) (h2 : rm.slots = ms) (h3 : rm.frames + 1 ≤ R.frames ∧ 8 + (2 + 11) + rm.locals ≤ R.locals) : CallW R s args RX11 RX10 60 yX10_putFour cX10_putFour 2 none (.code yX10_putFour cX10_putFour 2 none :: tb) rm mc ms 1 :=
  sCw Cx 1 w_746 w_747 w_748 w_205 w_749 (by decide +kernel) h1 h2 h3
theorem c_X11_63 (Cx : sC G p m c cc nL s args RX11) {rm : Room} {mc ms : Nat} (h1 : rm.cells = mc) (h2 : rm.slots = ms) (h3 : rm.frames + 1 ≤ R.frames ∧ 8 + (2 + 11) + rm.locals ≤ R.locals) : CallW R s args RX11 RX10 63 yX10_shorten cX10_shorten 2 (some .boolean) (.code yX10_shorten cX10_shorten 2 (some .boolean) :: tb) rm mc ms 1 :=
  sCw Cx 1 w_758 w_759 w_760 w_205 w_761 (by decide +kernel) h1 h2 h3
theorem g_X11_34 (Cx : sC G p m c cc nL s args RX11) (hW : sW G n S H) {k : Nat} (hk : k < n) (ht : tau k = .inl 11) {v : Value} (hv : S.2.2.2 k 2 = v) (hdg : decode cc pc = .ok (.getfield 34, 3)) (kk : W p l e R s m args below meth c H locs cells slots Q (F0 m (pc + 3) ls (v :: rest))) : W p l e R s m args below meth c H locs cells slots Q (F0 m pc ls (.ref (G.2.2.1 + k) :: rest)) :=
  sGet Cx inX11 rfl 2 (by decide) w_706 hW hk ht hv hdg kk
theorem g_X11_28 (Cx : sC G p m c cc nL s args RX11) (hW : sW G n S H) {k : Nat} (hk : k < n) (ht : tau k = .inl 11) {v : Value} (hv : S.2.2.2 k 6 = v) (hdg : decode cc pc = .ok (.getfield 28, 3)) (kk : W p l e R s m args below meth c H locs cells slots Q (F0 m (pc + 3) ls (v :: rest))) : W p l e R s m args below meth c H locs cells slots Q (F0 m pc ls (.ref (G.2.2.1 + k) :: rest)) :=
  sGet Cx inX11 rfl 6 (by decide) w_710 hW hk ht hv hdg kk
theorem c_X11_67 (Cx : sC G p m c cc nL s args RX11) {rm : Room} {mc ms : Nat} (h1 : rm.cells = mc) (h2 : rm.slots = ms) (h3 : rm.frames + 1 ≤ R.frames ∧ 8 + (5 + 11) + rm.locals ≤ R.locals) : CallW R s args RX11 RX9 67 yX9_read cX9_read 5 (some .int) (.code yX9_read cX9_read 5 (some .int) :: tb) rm mc ms 2 :=
  sCw Cx 2 w_766 w_767 w_768 w_208 w_769 (by decide +kernel) h1 h2 h3
theorem p_X11_71 (Cx : sC G p m c cc nL s args RX11) (hW : sW G n S H) (hL : sL G locs) {k : Nat} (hk : k < n) (ht : tau k = .inl 11) {v : Int} (hdg : decode cc pc = .ok (.putfield 71, 3)) (kk : ∀ (H1 : Heap) (locs1 : List Loc), sW G n (uF S k 9 v) H1 → sL G locs1 → W p l e R s m args below meth c H1 locs1 cells slots Q (F0 m (pc + 3) ls rest)) : W p l e R s m args below meth c H locs cells slots Q (F0 m pc ls (.int (iv v) :: .ref (G.2.2.1 + k) :: rest)) :=
  sPut Cx inX11 tyX11 tyX11_ok nmX11 rfl 9 (by decide) w_713 rfl hW hL hk ht rfl rfl (fun _ h => uF_same h) (fun _ h => uF_off h) (congrArg (fun z => Value.int (iv z)) uF_on) hdg kk
theorem c_X11_74 (Cx : sC G p m c cc nL s args RX11) {rm : Room} {mc ms : Nat} (h1 : rm.cells = mc) (h2 : rm.slots = ms) (h3 : rm.frames + 1 ≤ R.frames ∧ 8 + (1 + 11) + rm.locals ≤ R.locals) : CallW R s args RX11 RX9 74 yX9_faultPlace cX9_faultPlace 1 (some .int) (.code yX9_faultPlace cX9_faultPlace 1 (some .int) :: tb) rm mc ms 0 :=
  sCw Cx 0 w_1113 w_1114 w_1115 w_208 w_1116 (by decide +kernel) h1 h2 h3
theorem p_X11_52 (Cx : sC G p m c cc nL s args RX11) (hW : sW G n S H) (hL : sL G locs) {k : Nat} (hk : k < n) (ht : tau k = .inl 11) {v : Int} (hdg : decode cc pc = .ok (.putfield 52, 3)) (kk : ∀ (H1 : Heap) (locs1 : List Loc), sW G n (uF S k 10 v) H1 → sL G locs1 → W p l e R s m args below meth c H1 locs1 cells slots Q (F0 m (pc + 3) ls rest)) : W p l e R s m args below meth c H locs cells slots Q (F0 m pc ls (.int (iv v) :: .ref (G.2.2.1 + k) :: rest)) :=
  sPut Cx inX11 tyX11 tyX11_ok nmX11 rfl 10 (by decide) w_714 rfl hW hL hk ht rfl rfl (fun _ h => uF_same h) (fun _ h => uF_off h) (congrArg (fun z => Value.int (iv z)) uF_on) hdg kk
theorem c_X11_76 (Cx : sC G p m c cc nL s args RX11) {rm : Room} {mc ms : Nat} (h1 : rm.cells = mc) (h2 : rm.slots = ms) (h3 : rm.frames + 1 ≤ R.frames ∧ 8 + (1 + 11) + rm.locals ≤ R.locals) : CallW R s args RX11 RX10 76 yX10_clear cX10_clear 1 none (.code yX10_clear cX10_clear 1 none :: tb) rm mc ms 0 :=
  sCw Cx 0 w_1117 w_1118 w_1119 w_205 w_1120 (by decide +kernel) h1 h2 h3
theorem g_X11_71 (Cx : sC G p m c cc nL s args RX11) (hW : sW G n S H) {k : Nat} (hk : k < n) (ht : tau k = .inl 11) {v : Int} (hv : S.1 k 9 = v) (hdg : decode cc pc = .ok (.getfield 71, 3)) (kk : W p l e R s m args below meth c H locs cells slots Q (F0 m (pc + 3) ls (.int (iv v) :: rest))) : W p l e R s m args below meth c H locs cells slots Q (F0 m pc ls (.ref (G.2.2.1 + k) :: rest)) :=
  sGet Cx inX11 rfl 9 (by decide) w_713 hW hk ht (congrArg (fun z => Value.int (iv z)) hv) hdg kk
theorem g_X11_24 (Cx : sC G p m c cc nL s args RX11) (hW : sW G n S H) {k : Nat} (hk : k < n) (ht : tau k = .inl 11) {v : Value} (hv : S.2.2.2 k 5 = v) (hdg : decode cc pc = .ok (.getfield 24, 3)) (kk : W p l e R s m args below meth c H locs cells slots Q (F0 m (pc + 3) ls (v :: rest))) : W p l e R s m args below meth c H locs cells slots Q (F0 m pc ls (.ref (G.2.2.1 + k) :: rest)) :=
  sGet Cx inX11 rfl 5 (by decide) w_709 hW hk ht hv hdg kk
theorem p_X11_24 (Cx : sC G p m c cc nL s args RX11) (hW : sW G n S H) (hL : sL G locs) {k : Nat} (hk : k < n) (ht : tau k = .inl 11) {v : Nat} (hdg : decode cc pc = .ok (.putfield 24, 3)) (kk : ∀ (H1 : Heap) (locs1 : List Loc), sW G n (uR S k 5 (.ref v)) H1 → sL G locs1 → W p l e R s m args below meth c H1 locs1 cells slots Q (F0 m (pc + 3) ls rest)) : W p l e R s m args below meth c H locs cells slots Q (F0 m pc ls (.ref v :: .ref (G.2.2.1 + k) :: rest)) :=
  sPut Cx inX11 tyX11 tyX11_ok nmX11 rfl 5 (by decide) w_709 rfl hW hL hk ht rfl rfl (fun _ h => uR_same h) (fun _ h => uR_off h) uR_on hdg kk
theorem p_X11_28 (Cx : sC G p m c cc nL s args RX11) (hW : sW G n S H) (hL : sL G locs) {k : Nat} (hk : k < n) (ht : tau k = .inl 11) {v : Nat} (hdg : decode cc pc = .ok (.putfield 28, 3)) (kk : ∀ (H1 : Heap) (locs1 : List Loc), sW G n (uR S k 6 (.ref v)) H1 → sL G locs1 → W p l e R s m args below meth c H1 locs1 cells slots Q (F0 m (pc + 3) ls rest)) : W p l e R s m args below meth c H locs cells slots Q (F0 m pc ls (.ref v :: .ref (G.2.2.1 + k) :: rest)) :=
  sPut Cx inX11 tyX11 tyX11_ok nmX11 rfl 6 (by decide) w_710 rfl hW hL hk ht rfl rfl (fun _ h => uR_same h) (fun _ h => uR_off h) uR_on hdg kk
theorem p_X11_79 (Cx : sC G p m c cc nL s args RX11) (hW : sW G n S H) (hL : sL G locs) {k : Nat} (hk : k < n) (ht : tau k = .inl 11) {v : Int} (hv : v = 0 ∨ v = 1) (hdg : decode cc pc = .ok (.putfield 79, 3)) (kk : ∀ (H1 : Heap) (locs1 : List Loc), sW G n (uF S k 7 v) H1 → sL G locs1 → W p l e R s m args below meth c H1 locs1 cells slots Q (F0 m (pc + 3) ls rest)) : W p l e R s m args below meth c H locs cells slots Q (F0 m pc ls (.int (iv v) :: .ref (G.2.2.1 + k) :: rest)) :=
  sPut Cx inX11 tyX11 tyX11_ok nmX11 rfl 7 (by decide) w_711 rfl hW hL hk ht (by rcases hv with rfl | rfl <;> rfl) (by rcases hv with rfl | rfl <;> rfl) (fun _ h => uF_same h) (fun _ h => uF_off h) (congrArg (fun z => Value.int (iv z)) uF_on) hdg kk
theorem p_X11_83 (Cx : sC G p m c cc nL s args RX11) (hW : sW G n S H) (hL : sL G locs) {k : Nat} (hk : k < n) (ht : tau k = .inl 11) {v : Int} (hv : v = 0 ∨ v = 1) (hdg : decode cc pc = .ok (.putfield 83, 3)) (kk : ∀ (H1 : Heap) (locs1 : List Loc), sW G n (uF S k 8 v) H1 → sL G locs1 → W p l e R s m args below meth c H1 locs1 cells slots Q (F0 m (pc + 3) ls rest)) : W p l e R s m args below meth c H locs cells slots Q (F0 m pc ls (.int (iv v) :: .ref (G.2.2.1 + k) :: rest)) :=
  sPut Cx inX11 tyX11 tyX11_ok nmX11 rfl 8 (by decide) w_712 rfl hW hL hk ht (by rcases hv with rfl | rfl <;> rfl) (by rcases hv with rfl | rfl <;> rfl) (fun _ h => uF_same h) (fun _ h => uF_off h) (congrArg (fun z => Value.int (iv z)) uF_on) hdg kk
theorem g_X11_52 (Cx : sC G p m c cc nL s args RX11) (hW : sW G n S H) {k : Nat} (hk : k < n) (ht : tau k = .inl 11) {v : Int} (hv : S.1 k 10 = v) (hdg : decode cc pc = .ok (.getfield 52, 3)) (kk : W p l e R s m args below meth c H locs cells slots Q (F0 m (pc + 3) ls (.int (iv v) :: rest))) : W p l e R s m args below meth c H locs cells slots Q (F0 m pc ls (.ref (G.2.2.1 + k) :: rest)) :=
  sGet Cx inX11 rfl 10 (by decide) w_714 hW hk ht (congrArg (fun z => Value.int (iv z)) hv) hdg kk
theorem g_X11_79 (Cx : sC G p m c cc nL s args RX11) (hW : sW G n S H) {k : Nat} (hk : k < n) (ht : tau k = .inl 11) {v : Int} (hv : S.1 k 7 = v) (hdg : decode cc pc = .ok (.getfield 79, 3)) (kk : W p l e R s m args below meth c H locs cells slots Q (F0 m (pc + 3) ls (.int (iv v) :: rest))) : W p l e R s m args below meth c H locs cells slots Q (F0 m pc ls (.ref (G.2.2.1 + k) :: rest)) :=
  sGet Cx inX11 rfl 7 (by decide) w_711 hW hk ht (congrArg (fun z => Value.int (iv z)) hv) hdg kk
theorem g_X11_86 (Cx : sC G p m c cc nL s args RX11) (hW : sW G n S H) {k : Nat} (hk : k < n) (ht : tau k = .inl 3) {v : Int} (hv : S.1 k 2 = v) (hdg : decode cc pc = .ok (.getfield 86, 3)) (kk : W p l e R s m args below meth c H locs cells slots Q (F0 m (pc + 3) ls (.int (iv v) :: rest))) : W p l e R s m args below meth c H locs cells slots Q (F0 m pc ls (.ref (G.2.2.1 + k) :: rest)) :=
  sGetN Cx inX3 rfl 2 (by decide) w_268 hW hk ht (congrArg (fun z => Value.int (iv z)) hv) hdg kk
theorem g_X11_89 (Cx : sC G p m c cc nL s args RX11) (hW : sW G n S H) {k : Nat} (hk : k < n) (ht : tau k = .inl 3) {v : Int} (hv : S.1 k 3 = v) (hdg : decode cc pc = .ok (.getfield 89, 3)) (kk : W p l e R s m args below meth c H locs cells slots Q (F0 m (pc + 3) ls (.int (iv v) :: rest))) : W p l e R s m args below meth c H locs cells slots Q (F0 m pc ls (.ref (G.2.2.1 + k) :: rest)) :=
  sGetN Cx inX3 rfl 3 (by decide) w_275 hW hk ht (congrArg (fun z => Value.int (iv z)) hv) hdg kk
theorem c_X11_92 (Cx : sC G p m c cc nL s args RX11) {rm : Room} {mc ms : Nat} (h1 : rm.cells = mc) (h2 : rm.slots = ms) (h3 : rm.frames + 1 ≤ R.frames ∧ 8 + (3 + 11) + rm.locals ≤ R.locals) : CallW R s args RX11 RX3 92 yX3_wholes cX3_wholes 3 (some .int) (.code yX3_wholes cX3_wholes 3 (some .int) :: tb) rm mc ms 0 :=
  sCw Cx 0 w_1129 w_1130 w_1131 w_207 w_1132 (by decide +kernel) h1 h2 h3
theorem g_X11_95 (Cx : sC G p m c cc nL s args RX11) (hW : sW G n S H) {k : Nat} (hk : k < n) (ht : tau k = .inl 3) {v : Int} (hv : S.1 k 4 = v) (hdg : decode cc pc = .ok (.getfield 95, 3)) (kk : W p l e R s m args below meth c H locs cells slots Q (F0 m (pc + 3) ls (.int (iv v) :: rest))) : W p l e R s m args below meth c H locs cells slots Q (F0 m pc ls (.ref (G.2.2.1 + k) :: rest)) :=
  sGetN Cx inX3 rfl 4 (by decide) w_280 hW hk ht (congrArg (fun z => Value.int (iv z)) hv) hdg kk
theorem g_X11_83 (Cx : sC G p m c cc nL s args RX11) (hW : sW G n S H) {k : Nat} (hk : k < n) (ht : tau k = .inl 11) {v : Int} (hv : S.1 k 8 = v) (hdg : decode cc pc = .ok (.getfield 83, 3)) (kk : W p l e R s m args below meth c H locs cells slots Q (F0 m (pc + 3) ls (.int (iv v) :: rest))) : W p l e R s m args below meth c H locs cells slots Q (F0 m pc ls (.ref (G.2.2.1 + k) :: rest)) :=
  sGet Cx inX11 rfl 8 (by decide) w_712 hW hk ht (congrArg (fun z => Value.int (iv z)) hv) hdg kk
theorem c_X11_102 (Cx : sC G p m c cc nL s args RX11) {rm : Room} {mc ms : Nat} (h1 : rm.cells = mc) (h2 : rm.slots = ms) (h3 : rm.frames + 1 ≤ R.frames ∧ 8 + (3 + 11) + rm.locals ≤ R.locals) : CallW R s args RX11 RX3 102 yX3_number cX3_number 3 (some .int) (.code yX3_number cX3_number 3 (some .int) :: tb) rm mc ms 2 :=
  sCw Cx 2 w_1164 w_1165 w_1166 w_207 w_1167 (by decide +kernel) h1 h2 h3
theorem g_X11_41 (Cx : sC G p m c cc nL s args RX11) (hW : sW G n S H) {k : Nat} (hk : k < n) (ht : tau k = .inl 11) {v : Value} (hv : S.2.2.2 k 3 = v) (hdg : decode cc pc = .ok (.getfield 41, 3)) (kk : W p l e R s m args below meth c H locs cells slots Q (F0 m (pc + 3) ls (v :: rest))) : W p l e R s m args below meth c H locs cells slots Q (F0 m pc ls (.ref (G.2.2.1 + k) :: rest)) :=
  sGet Cx inX11 rfl 3 (by decide) w_707 hW hk ht hv hdg kk
theorem c_X11_98 (Cx : sC G p m c cc nL s args RX11) {rm : Room} {mc ms : Nat} (h1 : rm.cells = mc) (h2 : rm.slots = ms) (h3 : rm.frames + 1 ≤ R.frames ∧ 8 + (3 + 11) + rm.locals ≤ R.locals) : CallW R s args RX11 RX7 98 yX7_rowNumber cX7_rowNumber 3 (some .long) (.code yX7_rowNumber cX7_rowNumber 3 (some .long) :: tb) rm mc ms 2 :=
  sCw Cx 2 w_1137 w_1138 w_1139 w_210 w_1140 (by decide +kernel) h1 h2 h3
theorem c_X11_106 (Cx : sC G p m c cc nL s args RX11) {rm : Room} {mc ms : Nat} (h1 : rm.cells = mc) (h2 : rm.slots = ms) (h3 : rm.frames + 1 ≤ R.frames ∧ 8 + (3 + 11) + rm.locals ≤ R.locals) : CallW R s args RX11 RX7 106 yX7_start cX7_start 3 none (.code yX7_start cX7_start 3 none :: tb) rm mc ms 2 :=
  sCw Cx 2 w_1172 w_1173 w_1174 w_210 w_1175 (by decide +kernel) h1 h2 h3
theorem c_X11_110 (Cx : sC G p m c cc nL s args RX11) {rm : Room} {mc ms : Nat} (h1 : rm.cells = mc) (h2 : rm.slots = ms) (h3 : rm.frames + 1 ≤ R.frames ∧ 8 + (4 + 11) + rm.locals ≤ R.locals) : CallW R s args RX11 RX7 110 yX7_run cX7_run 4 (some .int) (.code yX7_run cX7_run 4 (some .int) :: tb) rm mc ms 1 :=
  sCw Cx 1 w_1225 w_1226 w_1227 w_210 w_1228 (by decide +kernel) h1 h2 h3
theorem c_X11_114 (Cx : sC G p m c cc nL s args RX11) {rm : Room} {mc ms : Nat} (h1 : rm.cells = mc) (h2 : rm.slots = ms) (h3 : rm.frames + 1 ≤ R.frames ∧ 8 + (1 + 11) + rm.locals ≤ R.locals) : CallW R s args RX11 RX7 114 yX7_prove cX7_prove 1 none (.code yX7_prove cX7_prove 1 none :: tb) rm mc ms 0 :=
  sCw Cx 0 w_1626 w_1627 w_1628 w_210 w_1629 (by decide +kernel) h1 h2 h3
theorem c_X11_117 (Cx : sC G p m c cc nL s args RX11) {rm : Room} {mc ms : Nat} (h1 : rm.cells = mc) (h2 : rm.slots = ms) (h3 : rm.frames + 1 ≤ R.frames ∧ 8 + (2 + 11) + rm.locals ≤ R.locals) : CallW R s args RX11 RX7 117 yX7_state cX7_state 2 (some .int) (.code yX7_state cX7_state 2 (some .int) :: tb) rm mc ms 1 :=
  sCw Cx 1 w_1693 w_1694 w_1695 w_210 w_1696 (by decide +kernel) h1 h2 h3
theorem g_X11_120 (Cx : sC G p m c cc nL s args RX11) (hW : sW G n S H) {k : Nat} (hk : k < n) (ht : tau k = .inl 7) {v : Value} (hv : S.2.2.2 k 1 = v) (hdg : decode cc pc = .ok (.getfield 120, 3)) (kk : W p l e R s m args below meth c H locs cells slots Q (F0 m (pc + 3) ls (v :: rest))) : W p l e R s m args below meth c H locs cells slots Q (F0 m pc ls (.ref (G.2.2.1 + k) :: rest)) :=
  sGetN Cx inX7 rfl 1 (by decide) w_564 hW hk ht hv hdg kk
theorem c_X11_124 (Cx : sC G p m c cc nL s args RX11) {rm : Room} {mc ms : Nat} (h1 : rm.cells = mc) (h2 : rm.slots = ms) (h3 : rm.frames + 1 ≤ R.frames ∧ 8 + (2 + 11) + rm.locals ≤ R.locals) : CallW R s args RX11 RX2 124 yX2_numberAt cX2_numberAt 2 (some .int) (.code yX2_numberAt cX2_numberAt 2 (some .int) :: tb) rm mc ms 1 :=
  sCw Cx 1 w_1706 w_1534 w_1535 w_213 w_1536 (by decide +kernel) h1 h2 h3
theorem g_X11_18 (Cx : sC G p m c cc nL s args RX11) (hW : sW G n S H) {k : Nat} (hk : k < n) (ht : tau k = .inl 11) {v : Value} (hv : S.2.2.2 k 1 = v) (hdg : decode cc pc = .ok (.getfield 18, 3)) (kk : W p l e R s m args below meth c H locs cells slots Q (F0 m (pc + 3) ls (v :: rest))) : W p l e R s m args below meth c H locs cells slots Q (F0 m pc ls (.ref (G.2.2.1 + k) :: rest)) :=
  sGet Cx inX11 rfl 1 (by decide) w_705 hW hk ht hv hdg kk
theorem c_X11_129 (Cx : sC G p m c cc nL s args RX11) {rm : Room} {mc ms : Nat} (h1 : rm.cells = mc) (h2 : rm.slots = ms) (h3 : rm.frames + 1 ≤ R.frames ∧ 8 + (5 + 11) + rm.locals ≤ R.locals) : CallW R s args RX11 RX2 129 yX2_write cX2_write 5 (some .boolean) (.code yX2_write cX2_write 5 (some .boolean) :: tb) rm mc ms 3 :=
  sCw Cx 3 w_1711 w_1712 w_1713 w_213 w_1714 (by decide +kernel) h1 h2 h3
theorem c_X11_133 (Cx : sC G p m c cc nL s args RX11) {rm : Room} {mc ms : Nat} (h1 : rm.cells = mc) (h2 : rm.slots = ms) (h3 : rm.frames + 1 ≤ R.frames ∧ 8 + (2 + 11) + rm.locals ≤ R.locals) : CallW R s args RX11 RX10 133 yX10_byteAt cX10_byteAt 2 (some .int) (.code yX10_byteAt cX10_byteAt 2 (some .int) :: tb) rm mc ms 1 :=
  sCw Cx 1 w_1717 w_784 w_785 w_205 w_786 (by decide +kernel) h1 h2 h3
theorem c_X11_136 (Cx : sC G p m c cc nL s args RX11) {rm : Room} {mc ms : Nat} (h1 : rm.cells = mc) (h2 : rm.slots = ms) (h3 : rm.frames + 1 ≤ R.frames ∧ 8 + (3 + 11) + rm.locals ≤ R.locals) : CallW R s args RX11 RX7 136 yX7_writeFraction cX7_writeFraction 3 (some .boolean) (.code yX7_writeFraction cX7_writeFraction 3 (some .boolean) :: tb) rm mc ms 2 :=
  sCw Cx 2 w_1722 w_1723 w_1724 w_210 w_1725 (by decide +kernel) h1 h2 h3
theorem c_X11_140 (Cx : sC G p m c cc nL s args RX11) {rm : Room} {mc ms : Nat} (h1 : rm.cells = mc) (h2 : rm.slots = ms) (h3 : rm.frames + 1 ≤ R.frames ∧ 8 + (1 + 11) + rm.locals ≤ R.locals) : CallW R s args RX11 RX7 140 yX7_isProved cX7_isProved 1 (some .boolean) (.code yX7_isProved cX7_isProved 1 (some .boolean) :: tb) rm mc ms 0 :=
  sCw Cx 0 w_1738 w_1631 w_1632 w_210 w_1633 (by decide +kernel) h1 h2 h3
theorem g_X11_144 (Cx : sC G p m c cc nL s args RX11) (hW : sW G n S H) {k : Nat} (hk : k < n) (ht : tau k = .inl 7) {v : Value} (hv : S.2.2.2 k 2 = v) (hdg : decode cc pc = .ok (.getfield 144, 3)) (kk : W p l e R s m args below meth c H locs cells slots Q (F0 m (pc + 3) ls (v :: rest))) : W p l e R s m args below meth c H locs cells slots Q (F0 m pc ls (.ref (G.2.2.1 + k) :: rest)) :=
  sGetN Cx inX7 rfl 2 (by decide) w_566 hW hk ht hv hdg kk
theorem c_X11_148 (Cx : sC G p m c cc nL s args RX11) {rm : Room} {mc ms : Nat} (h1 : rm.cells = mc) (h2 : rm.slots = ms) (h3 : rm.frames + 1 ≤ R.frames ∧ 8 + (3 + 11) + rm.locals ≤ R.locals) : CallW R s args RX11 RX5 148 yX5_proofByte cX5_proofByte 3 (some .int) (.code yX5_proofByte cX5_proofByte 3 (some .int) :: tb) rm mc ms 1 :=
  sCw Cx 1 w_1739 w_1740 w_1741 w_214 w_1742 (by decide +kernel) h1 h2 h3
theorem g_X11_48 (Cx : sC G p m c cc nL s args RX11) (hW : sW G n S H) {k : Nat} (hk : k < n) (ht : tau k = .inl 11) {v : Value} (hv : S.2.2.2 k 4 = v) (hdg : decode cc pc = .ok (.getfield 48, 3)) (kk : W p l e R s m args below meth c H locs cells slots Q (F0 m (pc + 3) ls (v :: rest))) : W p l e R s m args below meth c H locs cells slots Q (F0 m pc ls (.ref (G.2.2.1 + k) :: rest)) :=
  sGet Cx inX11 rfl 4 (by decide) w_708 hW hk ht hv hdg kk
theorem c_X11_153 (Cx : sC G p m c cc nL s args RX11) {rm : Room} {mc ms : Nat} (h1 : rm.cells = mc) (h2 : rm.slots = ms) (h3 : rm.frames + 1 ≤ R.frames ∧ 8 + (4 + 11) + rm.locals ≤ R.locals) : CallW R s args RX11 RX1 153 yX1_hold cX1_hold 4 (some .int) (.code yX1_hold cX1_hold 4 (some .int) :: tb) rm mc ms 2 :=
  sCw Cx 2 w_1748 w_1749 w_1750 w_215 w_1751 (by decide +kernel) h1 h2 h3
theorem c_X11_156 (Cx : sC G p m c cc nL s args RX11) {rm : Room} {mc ms : Nat} (h1 : rm.cells = mc) (h2 : rm.slots = ms) (h3 : rm.frames + 1 ≤ R.frames ∧ 8 + (1 + 11) + rm.locals ≤ R.locals) : CallW R s args RX11 RX1 156 yX1_faultPlace cX1_faultPlace 1 (some .int) (.code yX1_faultPlace cX1_faultPlace 1 (some .int) :: tb) rm mc ms 0 :=
  sCw Cx 0 w_1948 w_1949 w_1950 w_215 w_1951 (by decide +kernel) h1 h2 h3
end RW46
