theorem dX8_declaration_0 : decode cX8_declaration 0 = .ok (.aload_n 0, 1) := by decide +kernel
theorem dX8_declaration_1 : decode cX8_declaration 1 = .ok (.aload_n 0, 1) := by decide +kernel
theorem dX8_declaration_2 : decode cX8_declaration 2 = .ok (.getfield 26, 3) := by decide +kernel
theorem dX8_declaration_5 : decode cX8_declaration 5 = .ok (.invokevirtual 98, 3) := by decide +kernel
theorem dX8_declaration_8 : decode cX8_declaration 8 = .ok (.istore_n 1, 1) := by decide +kernel
theorem dX8_declaration_9 : decode cX8_declaration 9 = .ok (.aload_n 0, 1) := by decide +kernel
theorem dX8_declaration_10 : decode cX8_declaration 10 = .ok (.dup, 1) := by decide +kernel
theorem dX8_declaration_11 : decode cX8_declaration 11 = .ok (.getfield 26, 3) := by decide +kernel
theorem dX8_declaration_14 : decode cX8_declaration 14 = .ok (.iconst 1, 1) := by decide +kernel
theorem dX8_declaration_15 : decode cX8_declaration 15 = .ok (.iadd, 1) := by decide +kernel
theorem dX8_declaration_16 : decode cX8_declaration 16 = .ok (.putfield 26, 3) := by decide +kernel
theorem dX8_declaration_19 : decode cX8_declaration 19 = .ok (.aload_n 0, 1) := by decide +kernel
theorem dX8_declaration_20 : decode cX8_declaration 20 = .ok (.iconst 2, 1) := by decide +kernel
theorem dX8_declaration_21 : decode cX8_declaration 21 = .ok (.invokevirtual 92, 3) := by decide +kernel
theorem dX8_declaration_24 : decode cX8_declaration 24 = .ok (.ifCond .ne 5, 3) := by decide +kernel
theorem dX8_declaration_27 : decode cX8_declaration 27 = .ok (.iconst 0, 1) := by decide +kernel
theorem dX8_declaration_28 : decode cX8_declaration 28 = .ok (.ireturn, 1) := by decide +kernel
theorem dX8_declaration_29 : decode cX8_declaration 29 = .ok (.iload_n 1, 1) := by decide +kernel
theorem dX8_declaration_30 : decode cX8_declaration 30 = .ok (.bipush 6, 2) := by decide +kernel
theorem dX8_declaration_32 : decode cX8_declaration 32 = .ok (.if_icmp .ne 52, 3) := by decide +kernel
theorem dX8_declaration_35 : decode cX8_declaration 35 = .ok (.aload_n 0, 1) := by decide +kernel
theorem dX8_declaration_36 : decode cX8_declaration 36 = .ok (.bipush 13, 2) := by decide +kernel
theorem dX8_declaration_38 : decode cX8_declaration 38 = .ok (.invokevirtual 92, 3) := by decide +kernel
theorem dX8_declaration_41 : decode cX8_declaration 41 = .ok (.ifCond .eq 41, 3) := by decide +kernel
theorem dX8_declaration_44 : decode cX8_declaration 44 = .ok (.aload_n 0, 1) := by decide +kernel
theorem dX8_declaration_45 : decode cX8_declaration 45 = .ok (.iconst 3, 1) := by decide +kernel
theorem dX8_declaration_46 : decode cX8_declaration 46 = .ok (.invokevirtual 92, 3) := by decide +kernel
theorem dX8_declaration_49 : decode cX8_declaration 49 = .ok (.ifCond .eq 33, 3) := by decide +kernel
theorem dX8_declaration_52 : decode cX8_declaration 52 = .ok (.aload_n 0, 1) := by decide +kernel
theorem dX8_declaration_53 : decode cX8_declaration 53 = .ok (.bipush 14, 2) := by decide +kernel
theorem dX8_declaration_55 : decode cX8_declaration 55 = .ok (.invokevirtual 92, 3) := by decide +kernel
theorem dX8_declaration_58 : decode cX8_declaration 58 = .ok (.ifCond .eq 24, 3) := by decide +kernel
theorem dX8_declaration_61 : decode cX8_declaration 61 = .ok (.aload_n 0, 1) := by decide +kernel
theorem dX8_declaration_62 : decode cX8_declaration 62 = .ok (.iconst 3, 1) := by decide +kernel
theorem dX8_declaration_63 : decode cX8_declaration 63 = .ok (.invokevirtual 92, 3) := by decide +kernel
theorem dX8_declaration_66 : decode cX8_declaration 66 = .ok (.ifCond .eq 16, 3) := by decide +kernel
theorem dX8_declaration_69 : decode cX8_declaration 69 = .ok (.aload_n 0, 1) := by decide +kernel
theorem dX8_declaration_70 : decode cX8_declaration 70 = .ok (.bipush 15, 2) := by decide +kernel
theorem dX8_declaration_72 : decode cX8_declaration 72 = .ok (.invokevirtual 92, 3) := by decide +kernel
theorem dX8_declaration_75 : decode cX8_declaration 75 = .ok (.ifCond .eq 7, 3) := by decide +kernel
theorem dX8_declaration_78 : decode cX8_declaration 78 = .ok (.iconst 1, 1) := by decide +kernel
theorem dX8_declaration_79 : decode cX8_declaration 79 = .ok (.goto 4, 3) := by decide +kernel
theorem dX8_declaration_82 : decode cX8_declaration 82 = .ok (.iconst 0, 1) := by decide +kernel
theorem dX8_declaration_83 : decode cX8_declaration 83 = .ok (.ireturn, 1) := by decide +kernel
theorem dX8_declaration_84 : decode cX8_declaration 84 = .ok (.aload_n 0, 1) := by decide +kernel
theorem dX8_declaration_85 : decode cX8_declaration 85 = .ok (.invokevirtual 101, 3) := by decide +kernel
theorem dX8_declaration_88 : decode cX8_declaration 88 = .ok (.ifCond .ne 5, 3) := by decide +kernel
theorem dX8_declaration_91 : decode cX8_declaration 91 = .ok (.iconst 0, 1) := by decide +kernel
theorem dX8_declaration_92 : decode cX8_declaration 92 = .ok (.ireturn, 1) := by decide +kernel
theorem dX8_declaration_93 : decode cX8_declaration 93 = .ok (.iload_n 1, 1) := by decide +kernel
theorem dX8_declaration_94 : decode cX8_declaration 94 = .ok (.bipush 8, 2) := by decide +kernel
theorem dX8_declaration_96 : decode cX8_declaration 96 = .ok (.if_icmp .ne 17, 3) := by decide +kernel
theorem dX8_declaration_99 : decode cX8_declaration 99 = .ok (.aload_n 0, 1) := by decide +kernel
theorem dX8_declaration_100 : decode cX8_declaration 100 = .ok (.bipush 9, 2) := by decide +kernel
theorem dX8_declaration_102 : decode cX8_declaration 102 = .ok (.invokevirtual 92, 3) := by decide +kernel
theorem dX8_declaration_105 : decode cX8_declaration 105 = .ok (.pop, 1) := by decide +kernel
theorem dX8_declaration_106 : decode cX8_declaration 106 = .ok (.aload_n 0, 1) := by decide +kernel
theorem dX8_declaration_107 : decode cX8_declaration 107 = .ok (.bipush 15, 2) := by decide +kernel
theorem dX8_declaration_109 : decode cX8_declaration 109 = .ok (.invokevirtual 92, 3) := by decide +kernel
theorem dX8_declaration_112 : decode cX8_declaration 112 = .ok (.ireturn, 1) := by decide +kernel
theorem dX8_declaration_113 : decode cX8_declaration 113 = .ok (.aload_n 0, 1) := by decide +kernel
theorem dX8_declaration_114 : decode cX8_declaration 114 = .ok (.bipush 13, 2) := by decide +kernel
theorem dX8_declaration_116 : decode cX8_declaration 116 = .ok (.invokevirtual 92, 3) := by decide +kernel
theorem dX8_declaration_119 : decode cX8_declaration 119 = .ok (.ifCond .eq 23, 3) := by decide +kernel
theorem dX8_declaration_122 : decode cX8_declaration 122 = .ok (.aload_n 0, 1) := by decide +kernel
theorem dX8_declaration_123 : decode cX8_declaration 123 = .ok (.invokevirtual 104, 3) := by decide +kernel
theorem dX8_declaration_126 : decode cX8_declaration 126 = .ok (.ifCond .eq 16, 3) := by decide +kernel
theorem dX8_declaration_129 : decode cX8_declaration 129 = .ok (.aload_n 0, 1) := by decide +kernel
theorem dX8_declaration_130 : decode cX8_declaration 130 = .ok (.bipush 15, 2) := by decide +kernel
theorem dX8_declaration_132 : decode cX8_declaration 132 = .ok (.invokevirtual 92, 3) := by decide +kernel
theorem dX8_declaration_135 : decode cX8_declaration 135 = .ok (.ifCond .eq 7, 3) := by decide +kernel
theorem dX8_declaration_138 : decode cX8_declaration 138 = .ok (.iconst 1, 1) := by decide +kernel
theorem dX8_declaration_139 : decode cX8_declaration 139 = .ok (.goto 4, 3) := by decide +kernel
theorem dX8_declaration_142 : decode cX8_declaration 142 = .ok (.iconst 0, 1) := by decide +kernel
theorem dX8_declaration_143 : decode cX8_declaration 143 = .ok (.ireturn, 1) := by decide +kernel
theorem dX8_indexes_0 : decode cX8_indexes 0 = .ok (.aload_n 0, 1) := by decide +kernel
theorem dX8_indexes_1 : decode cX8_indexes 1 = .ok (.bipush 17, 2) := by decide +kernel
theorem dX8_indexes_3 : decode cX8_indexes 3 = .ok (.invokevirtual 92, 3) := by decide +kernel
theorem dX8_indexes_6 : decode cX8_indexes 6 = .ok (.ifCond .ne 5, 3) := by decide +kernel
theorem dX8_indexes_9 : decode cX8_indexes 9 = .ok (.iconst 1, 1) := by decide +kernel
theorem dX8_indexes_10 : decode cX8_indexes 10 = .ok (.ireturn, 1) := by decide +kernel
theorem dX8_indexes_11 : decode cX8_indexes 11 = .ok (.aload_n 0, 1) := by decide +kernel
theorem dX8_indexes_12 : decode cX8_indexes 12 = .ok (.iconst 2, 1) := by decide +kernel
theorem dX8_indexes_13 : decode cX8_indexes 13 = .ok (.invokevirtual 92, 3) := by decide +kernel
theorem dX8_indexes_16 : decode cX8_indexes 16 = .ok (.ifCond .ne 5, 3) := by decide +kernel
theorem dX8_indexes_19 : decode cX8_indexes 19 = .ok (.iconst 0, 1) := by decide +kernel
theorem dX8_indexes_20 : decode cX8_indexes 20 = .ok (.ireturn, 1) := by decide +kernel
theorem dX8_indexes_21 : decode cX8_indexes 21 = .ok (.aload_n 0, 1) := by decide +kernel
theorem dX8_indexes_22 : decode cX8_indexes 22 = .ok (.bipush 16, 2) := by decide +kernel
theorem dX8_indexes_24 : decode cX8_indexes 24 = .ok (.invokevirtual 92, 3) := by decide +kernel
theorem dX8_indexes_27 : decode cX8_indexes 27 = .ok (.ifCond .eq 13, 3) := by decide +kernel
theorem dX8_indexes_30 : decode cX8_indexes 30 = .ok (.aload_n 0, 1) := by decide +kernel
theorem dX8_indexes_31 : decode cX8_indexes 31 = .ok (.iconst 2, 1) := by decide +kernel
theorem dX8_indexes_32 : decode cX8_indexes 32 = .ok (.invokevirtual 92, 3) := by decide +kernel
theorem dX8_indexes_35 : decode cX8_indexes 35 = .ok (.ifCond .ne 5, 3) := by decide +kernel
theorem dX8_indexes_38 : decode cX8_indexes 38 = .ok (.iconst 0, 1) := by decide +kernel
theorem dX8_indexes_39 : decode cX8_indexes 39 = .ok (.ireturn, 1) := by decide +kernel
theorem dX8_indexes_40 : decode cX8_indexes 40 = .ok (.aload_n 0, 1) := by decide +kernel
theorem dX8_indexes_41 : decode cX8_indexes 41 = .ok (.bipush 18, 2) := by decide +kernel
theorem dX8_indexes_43 : decode cX8_indexes 43 = .ok (.invokevirtual 92, 3) := by decide +kernel
theorem dX8_indexes_46 : decode cX8_indexes 46 = .ok (.ireturn, 1) := by decide +kernel
theorem dX8_is_0 : decode cX8_is 0 = .ok (.aload_n 0, 1) := by decide +kernel
theorem dX8_is_1 : decode cX8_is 1 = .ok (.getfield 26, 3) := by decide +kernel
theorem dX8_is_4 : decode cX8_is 4 = .ok (.aload_n 0, 1) := by decide +kernel
theorem dX8_is_5 : decode cX8_is 5 = .ok (.getfield 22, 3) := by decide +kernel
theorem dX8_is_8 : decode cX8_is 8 = .ok (.if_icmp .ge 20, 3) := by decide +kernel
theorem dX8_is_11 : decode cX8_is 11 = .ok (.aload_n 0, 1) := by decide +kernel
theorem dX8_is_12 : decode cX8_is 12 = .ok (.getfield 11, 3) := by decide +kernel
theorem dX8_is_15 : decode cX8_is 15 = .ok (.aload_n 0, 1) := by decide +kernel
theorem dX8_is_16 : decode cX8_is 16 = .ok (.getfield 26, 3) := by decide +kernel
theorem dX8_is_19 : decode cX8_is 19 = .ok (.iaload, 1) := by decide +kernel
theorem dX8_is_20 : decode cX8_is 20 = .ok (.iload_n 1, 1) := by decide +kernel
theorem dX8_is_21 : decode cX8_is 21 = .ok (.if_icmp .ne 7, 3) := by decide +kernel
theorem dX8_is_24 : decode cX8_is 24 = .ok (.iconst 1, 1) := by decide +kernel
theorem dX8_is_25 : decode cX8_is 25 = .ok (.goto 4, 3) := by decide +kernel
theorem dX8_is_28 : decode cX8_is 28 = .ok (.iconst 0, 1) := by decide +kernel
theorem dX8_is_29 : decode cX8_is 29 = .ok (.ireturn, 1) := by decide +kernel
theorem dX8_item_0 : decode cX8_item 0 = .ok (.aload_n 0, 1) := by decide +kernel
theorem dX8_item_1 : decode cX8_item 1 = .ok (.iconst 3, 1) := by decide +kernel
theorem dX8_item_2 : decode cX8_item 2 = .ok (.invokevirtual 92, 3) := by decide +kernel
theorem dX8_item_5 : decode cX8_item 5 = .ok (.ifCond .eq 5, 3) := by decide +kernel
theorem dX8_item_8 : decode cX8_item 8 = .ok (.iconst 1, 1) := by decide +kernel
theorem dX8_item_9 : decode cX8_item 9 = .ok (.ireturn, 1) := by decide +kernel
theorem dX8_item_10 : decode cX8_item 10 = .ok (.aload_n 0, 1) := by decide +kernel
theorem dX8_item_11 : decode cX8_item 11 = .ok (.iconst 2, 1) := by decide +kernel
theorem dX8_item_12 : decode cX8_item 12 = .ok (.invokevirtual 92, 3) := by decide +kernel
theorem dX8_item_15 : decode cX8_item 15 = .ok (.ifCond .ne 5, 3) := by decide +kernel
theorem dX8_item_18 : decode cX8_item 18 = .ok (.iconst 0, 1) := by decide +kernel
theorem dX8_item_19 : decode cX8_item 19 = .ok (.ireturn, 1) := by decide +kernel
theorem dX8_item_20 : decode cX8_item 20 = .ok (.aload_n 0, 1) := by decide +kernel
theorem dX8_item_21 : decode cX8_item 21 = .ok (.bipush 21, 2) := by decide +kernel
theorem dX8_item_23 : decode cX8_item 23 = .ok (.invokevirtual 82, 3) := by decide +kernel
theorem dX8_item_26 : decode cX8_item 26 = .ok (.ifCond .ne 12, 3) := by decide +kernel
theorem dX8_item_29 : decode cX8_item 29 = .ok (.aload_n 0, 1) := by decide +kernel
theorem dX8_item_30 : decode cX8_item 30 = .ok (.bipush 22, 2) := by decide +kernel
theorem dX8_item_32 : decode cX8_item 32 = .ok (.invokevirtual 82, 3) := by decide +kernel
theorem dX8_item_35 : decode cX8_item 35 = .ok (.ifCond .eq 19, 3) := by decide +kernel
theorem dX8_item_38 : decode cX8_item 38 = .ok (.aload_n 0, 1) := by decide +kernel
theorem dX8_item_39 : decode cX8_item 39 = .ok (.dup, 1) := by decide +kernel
theorem dX8_item_40 : decode cX8_item 40 = .ok (.getfield 26, 3) := by decide +kernel
theorem dX8_item_43 : decode cX8_item 43 = .ok (.iconst 1, 1) := by decide +kernel
theorem dX8_item_44 : decode cX8_item 44 = .ok (.iadd, 1) := by decide +kernel
theorem dX8_item_45 : decode cX8_item 45 = .ok (.putfield 26, 3) := by decide +kernel
theorem dX8_item_48 : decode cX8_item 48 = .ok (.aload_n 0, 1) := by decide +kernel
theorem dX8_item_49 : decode cX8_item 49 = .ok (.iconst 3, 1) := by decide +kernel
theorem dX8_item_50 : decode cX8_item 50 = .ok (.invokevirtual 92, 3) := by decide +kernel
theorem dX8_item_53 : decode cX8_item 53 = .ok (.ireturn, 1) := by decide +kernel
theorem dX8_item_54 : decode cX8_item 54 = .ok (.iconst 1, 1) := by decide +kernel
theorem dX8_item_55 : decode cX8_item 55 = .ok (.ireturn, 1) := by decide +kernel
theorem dX8_items_0 : decode cX8_items 0 = .ok (.aload_n 0, 1) := by decide +kernel
theorem dX8_items_1 : decode cX8_items 1 = .ok (.invokevirtual 116, 3) := by decide +kernel
theorem dX8_items_4 : decode cX8_items 4 = .ok (.ifCond .ne 5, 3) := by decide +kernel
theorem dX8_items_7 : decode cX8_items 7 = .ok (.iconst 0, 1) := by decide +kernel
theorem dX8_items_8 : decode cX8_items 8 = .ok (.ireturn, 1) := by decide +kernel
theorem dX8_items_9 : decode cX8_items 9 = .ok (.aload_n 0, 1) := by decide +kernel
theorem dX8_items_10 : decode cX8_items 10 = .ok (.bipush 16, 2) := by decide +kernel
theorem dX8_items_12 : decode cX8_items 12 = .ok (.invokevirtual 92, 3) := by decide +kernel
theorem dX8_items_15 : decode cX8_items 15 = .ok (.ifCond .eq 12, 3) := by decide +kernel
theorem dX8_items_18 : decode cX8_items 18 = .ok (.aload_n 0, 1) := by decide +kernel
theorem dX8_items_19 : decode cX8_items 19 = .ok (.invokevirtual 116, 3) := by decide +kernel
theorem dX8_items_22 : decode cX8_items 22 = .ok (.ifCond .ne 5, 3) := by decide +kernel
theorem dX8_items_25 : decode cX8_items 25 = .ok (.iconst 0, 1) := by decide +kernel
theorem dX8_items_26 : decode cX8_items 26 = .ok (.ireturn, 1) := by decide +kernel
theorem dX8_items_27 : decode cX8_items 27 = .ok (.aload_n 0, 1) := by decide +kernel
theorem dX8_items_28 : decode cX8_items 28 = .ok (.bipush 18, 2) := by decide +kernel
theorem dX8_items_30 : decode cX8_items 30 = .ok (.invokevirtual 92, 3) := by decide +kernel
theorem dX8_items_33 : decode cX8_items 33 = .ok (.ireturn, 1) := by decide +kernel
theorem dX8_kind_0 : decode cX8_kind 0 = .ok (.iload_n 1, 1) := by decide +kernel
theorem dX8_kind_1 : decode cX8_kind 1 = .ok (.ifCond .lt 20, 3) := by decide +kernel
theorem dX8_kind_4 : decode cX8_kind 4 = .ok (.iload_n 1, 1) := by decide +kernel
theorem dX8_kind_5 : decode cX8_kind 5 = .ok (.aload_n 0, 1) := by decide +kernel
theorem dX8_kind_6 : decode cX8_kind 6 = .ok (.getfield 22, 3) := by decide +kernel
theorem dX8_kind_9 : decode cX8_kind 9 = .ok (.if_icmp .ge 12, 3) := by decide +kernel
theorem dX8_kind_12 : decode cX8_kind 12 = .ok (.aload_n 0, 1) := by decide +kernel
theorem dX8_kind_13 : decode cX8_kind 13 = .ok (.getfield 11, 3) := by decide +kernel
theorem dX8_kind_16 : decode cX8_kind 16 = .ok (.iload_n 1, 1) := by decide +kernel
theorem dX8_kind_17 : decode cX8_kind 17 = .ok (.iaload, 1) := by decide +kernel
theorem dX8_kind_18 : decode cX8_kind 18 = .ok (.goto 4, 3) := by decide +kernel
theorem dX8_kind_21 : decode cX8_kind 21 = .ok (.iconst 0, 1) := by decide +kernel
theorem dX8_kind_22 : decode cX8_kind 22 = .ok (.ireturn, 1) := by decide +kernel
theorem dX8_pass_0 : decode cX8_pass 0 = .ok (.aload_n 0, 1) := by decide +kernel
theorem dX8_pass_1 : decode cX8_pass 1 = .ok (.getfield 26, 3) := by decide +kernel
theorem dX8_pass_4 : decode cX8_pass 4 = .ok (.aload_n 0, 1) := by decide +kernel
theorem dX8_pass_5 : decode cX8_pass 5 = .ok (.getfield 22, 3) := by decide +kernel
theorem dX8_pass_8 : decode cX8_pass 8 = .ok (.if_icmp .ge 16, 3) := by decide +kernel
theorem dX8_pass_11 : decode cX8_pass 11 = .ok (.aload_n 0, 1) := by decide +kernel
theorem dX8_pass_12 : decode cX8_pass 12 = .ok (.getfield 11, 3) := by decide +kernel
theorem dX8_pass_15 : decode cX8_pass 15 = .ok (.aload_n 0, 1) := by decide +kernel
theorem dX8_pass_16 : decode cX8_pass 16 = .ok (.getfield 26, 3) := by decide +kernel
theorem dX8_pass_19 : decode cX8_pass 19 = .ok (.iaload, 1) := by decide +kernel
theorem dX8_pass_20 : decode cX8_pass 20 = .ok (.iload_n 1, 1) := by decide +kernel
theorem dX8_pass_21 : decode cX8_pass 21 = .ok (.if_icmp .eq 5, 3) := by decide +kernel
theorem dX8_pass_24 : decode cX8_pass 24 = .ok (.iconst 0, 1) := by decide +kernel
theorem dX8_pass_25 : decode cX8_pass 25 = .ok (.ireturn, 1) := by decide +kernel
theorem dX8_pass_26 : decode cX8_pass 26 = .ok (.aload_n 0, 1) := by decide +kernel
theorem dX8_pass_27 : decode cX8_pass 27 = .ok (.dup, 1) := by decide +kernel
theorem dX8_pass_28 : decode cX8_pass 28 = .ok (.getfield 26, 3) := by decide +kernel
theorem dX8_pass_31 : decode cX8_pass 31 = .ok (.iconst 1, 1) := by decide +kernel
theorem dX8_pass_32 : decode cX8_pass 32 = .ok (.iadd, 1) := by decide +kernel
theorem dX8_pass_33 : decode cX8_pass 33 = .ok (.putfield 26, 3) := by decide +kernel
theorem dX8_pass_36 : decode cX8_pass 36 = .ok (.iconst 1, 1) := by decide +kernel
theorem dX8_pass_37 : decode cX8_pass 37 = .ok (.ireturn, 1) := by decide +kernel
theorem dX8_start_0 : decode cX8_start 0 = .ok (.iload_n 1, 1) := by decide +kernel
theorem dX8_start_1 : decode cX8_start 1 = .ok (.ifCond .lt 20, 3) := by decide +kernel
theorem dX8_start_4 : decode cX8_start 4 = .ok (.iload_n 1, 1) := by decide +kernel
theorem dX8_start_5 : decode cX8_start 5 = .ok (.aload_n 0, 1) := by decide +kernel
theorem dX8_start_6 : decode cX8_start 6 = .ok (.getfield 22, 3) := by decide +kernel
theorem dX8_start_9 : decode cX8_start 9 = .ok (.if_icmp .ge 12, 3) := by decide +kernel
theorem dX8_start_12 : decode cX8_start 12 = .ok (.aload_n 0, 1) := by decide +kernel
theorem dX8_start_13 : decode cX8_start 13 = .ok (.getfield 15, 3) := by decide +kernel
theorem dX8_start_16 : decode cX8_start 16 = .ok (.iload_n 1, 1) := by decide +kernel
theorem dX8_start_17 : decode cX8_start 17 = .ok (.iaload, 1) := by decide +kernel
theorem dX8_start_18 : decode cX8_start 18 = .ok (.goto 4, 3) := by decide +kernel
theorem dX8_start_21 : decode cX8_start 21 = .ok (.iconst (-1), 1) := by decide +kernel
theorem dX8_start_22 : decode cX8_start 22 = .ok (.ireturn, 1) := by decide +kernel
theorem dX8_stopPlace_0 : decode cX8_stopPlace 0 = .ok (.aload_n 0, 1) := by decide +kernel
theorem dX8_stopPlace_1 : decode cX8_stopPlace 1 = .ok (.aload_n 0, 1) := by decide +kernel
theorem dX8_stopPlace_2 : decode cX8_stopPlace 2 = .ok (.getfield 26, 3) := by decide +kernel
theorem dX8_stopPlace_5 : decode cX8_stopPlace 5 = .ok (.invokevirtual 29, 3) := by decide +kernel
theorem dX8_stopPlace_8 : decode cX8_stopPlace 8 = .ok (.ireturn, 1) := by decide +kernel
theorem dX8_tokenCount_0 : decode cX8_tokenCount 0 = .ok (.aload_n 0, 1) := by decide +kernel
theorem dX8_tokenCount_1 : decode cX8_tokenCount 1 = .ok (.getfield 22, 3) := by decide +kernel
theorem dX8_tokenCount_4 : decode cX8_tokenCount 4 = .ok (.ireturn, 1) := by decide +kernel
theorem dX8_value_0 : decode cX8_value 0 = .ok (.iload_n 1, 1) := by decide +kernel
theorem dX8_value_1 : decode cX8_value 1 = .ok (.ifCond .lt 20, 3) := by decide +kernel
theorem dX8_value_4 : decode cX8_value 4 = .ok (.iload_n 1, 1) := by decide +kernel
theorem dX8_value_5 : decode cX8_value 5 = .ok (.aload_n 0, 1) := by decide +kernel
theorem dX8_value_6 : decode cX8_value 6 = .ok (.getfield 22, 3) := by decide +kernel
theorem dX8_value_9 : decode cX8_value 9 = .ok (.if_icmp .ge 12, 3) := by decide +kernel
theorem dX8_value_12 : decode cX8_value 12 = .ok (.aload_n 0, 1) := by decide +kernel
theorem dX8_value_13 : decode cX8_value 13 = .ok (.getfield 18, 3) := by decide +kernel
theorem dX8_value_16 : decode cX8_value 16 = .ok (.iload_n 1, 1) := by decide +kernel
theorem dX8_value_17 : decode cX8_value 17 = .ok (.laload, 1) := by decide +kernel
theorem dX8_value_18 : decode cX8_value 18 = .ok (.goto 4, 3) := by decide +kernel
theorem dX8_value_21 : decode cX8_value 21 = .ok (.lconst 0, 1) := by decide +kernel
theorem dX8_value_22 : decode cX8_value 22 = .ok (.lreturn, 1) := by decide +kernel
theorem dX8_valueList_0 : decode cX8_valueList 0 = .ok (.iconst 0, 1) := by decide +kernel
theorem dX8_valueList_1 : decode cX8_valueList 1 = .ok (.istore_n 1, 1) := by decide +kernel
theorem dX8_valueList_2 : decode cX8_valueList 2 = .ok (.iload_n 1, 1) := by decide +kernel
theorem dX8_valueList_3 : decode cX8_valueList 3 = .ok (.aload_n 0, 1) := by decide +kernel
theorem dX8_valueList_4 : decode cX8_valueList 4 = .ok (.getfield 22, 3) := by decide +kernel
theorem dX8_valueList_7 : decode cX8_valueList 7 = .ok (.if_icmp .ge 37, 3) := by decide +kernel
theorem dX8_valueList_10 : decode cX8_valueList 10 = .ok (.aload_n 0, 1) := by decide +kernel
theorem dX8_valueList_11 : decode cX8_valueList 11 = .ok (.bipush 22, 2) := by decide +kernel
theorem dX8_valueList_13 : decode cX8_valueList 13 = .ok (.invokevirtual 92, 3) := by decide +kernel
theorem dX8_valueList_16 : decode cX8_valueList 16 = .ok (.pop, 1) := by decide +kernel
theorem dX8_valueList_17 : decode cX8_valueList 17 = .ok (.aload_n 0, 1) := by decide +kernel
theorem dX8_valueList_18 : decode cX8_valueList 18 = .ok (.iconst 3, 1) := by decide +kernel
theorem dX8_valueList_19 : decode cX8_valueList 19 = .ok (.invokevirtual 92, 3) := by decide +kernel
theorem dX8_valueList_22 : decode cX8_valueList 22 = .ok (.ifCond .ne 5, 3) := by decide +kernel
theorem dX8_valueList_25 : decode cX8_valueList 25 = .ok (.iconst 0, 1) := by decide +kernel
theorem dX8_valueList_26 : decode cX8_valueList 26 = .ok (.ireturn, 1) := by decide +kernel
theorem dX8_valueList_27 : decode cX8_valueList 27 = .ok (.aload_n 0, 1) := by decide +kernel
theorem dX8_valueList_28 : decode cX8_valueList 28 = .ok (.bipush 16, 2) := by decide +kernel
theorem dX8_valueList_30 : decode cX8_valueList 30 = .ok (.invokevirtual 92, 3) := by decide +kernel
theorem dX8_valueList_33 : decode cX8_valueList 33 = .ok (.ifCond .ne 5, 3) := by decide +kernel
theorem dX8_valueList_36 : decode cX8_valueList 36 = .ok (.iconst 1, 1) := by decide +kernel
theorem dX8_valueList_37 : decode cX8_valueList 37 = .ok (.ireturn, 1) := by decide +kernel
theorem dX8_valueList_38 : decode cX8_valueList 38 = .ok (.iinc 1 1, 3) := by decide +kernel
theorem dX8_valueList_41 : decode cX8_valueList 41 = .ok (.goto (-39), 3) := by decide +kernel
theorem dX8_valueList_44 : decode cX8_valueList 44 = .ok (.iconst 0, 1) := by decide +kernel
theorem dX8_valueList_45 : decode cX8_valueList 45 = .ok (.ireturn, 1) := by decide +kernel
theorem w_4 : Cond.selects RX8 yX8_is yX8_is ∈ tb := sel_1 (q := (yX8_is, 5)) 4 (by decide +kernel)
theorem w_6 : Cond.selects RX8 yX8_pass yX8_pass ∈ tb := sel_1 (q := (yX8_pass, 5)) 6 (by decide +kernel)
theorem w_7 : Cond.selects RX8 yX8_indexes yX8_indexes ∈ tb := sel_1 (q := (yX8_indexes, 5)) 7 (by decide +kernel)
theorem w_8 : Cond.selects RX8 yX8_valueList yX8_valueList ∈ tb := sel_1 (q := (yX8_valueList, 5)) 8 (by decide +kernel)
theorem w_13 : Cond.selects RX8 yX8_item yX8_item ∈ tb := sel_1 (q := (yX8_item, 5)) 13 (by decide +kernel)
theorem w_209 : Cond.initialized RX8 ∈ tb := tbc_1 6 (by decide +kernel) rfl
theorem w_308 : Cond.fieldLink RX8 11 (TX8 0).1 (TX8 0).2.1 (TX8 0).2.2.1 ∈ tb := tbc_1 105 (by decide +kernel) rfl
theorem w_309 : Cond.fieldLink RX8 15 (TX8 1).1 (TX8 1).2.1 (TX8 1).2.2.1 ∈ tb := tbc_1 106 (by decide +kernel) rfl
theorem w_310 : Cond.fieldLink RX8 18 (TX8 2).1 (TX8 2).2.1 (TX8 2).2.2.1 ∈ tb := tbc_1 107 (by decide +kernel) rfl
theorem w_311 : Cond.fieldLink RX8 22 (TX8 3).1 (TX8 3).2.1 (TX8 3).2.2.1 ∈ tb := tbc_1 108 (by decide +kernel) rfl
theorem w_312 : Cond.fieldLink RX8 26 (TX8 4).1 (TX8 4).2.1 (TX8 4).2.2.1 ∈ tb := tbc_1 109 (by decide +kernel) rfl
theorem w_313 : u_lay RX8 TX8 0 ∈ tb := tbc_1 110 (by decide +kernel) rfl
theorem w_315 : u_lay RX8 TX8 1 ∈ tb := tbc_1 112 (by decide +kernel) rfl
theorem w_317 : u_lay RX8 TX8 2 ∈ tb := tbc_1 114 (by decide +kernel) rfl
theorem w_319 : u_lay RX8 TX8 3 ∈ tb := tbc_1 116 (by decide +kernel) rfl
theorem w_321 : u_lay RX8 TX8 4 ∈ tb := tbc_1 118 (by decide +kernel) rfl
theorem w_897 : Cond.methodLink RX8 82 yX8_is ∈ tb := tbc_3 214 (by decide +kernel) rfl
theorem w_899 : Cond.instanceMethod yX8_is ∈ tb := tbc_3 216 (by decide +kernel) rfl
theorem w_900 : Cond.code yX8_is cX8_is 2 (some .boolean) ∈ tb := tbc_3 217 (by decide +kernel) rfl
theorem w_905 : Cond.methodLink RX8 98 yX8_kind ∈ tb := tbc_3 222 (by decide +kernel) rfl
theorem w_906 : Cond.instanceMethod yX8_kind ∈ tb := tbc_3 223 (by decide +kernel) rfl
theorem w_907 : Cond.selects RX8 yX8_kind yX8_kind ∈ tb := tbc_3 224 (by decide +kernel) rfl
theorem w_908 : Cond.code yX8_kind cX8_kind 2 (some .int) ∈ tb := tbc_3 225 (by decide +kernel) rfl
theorem w_909 : Cond.methodLink RX8 92 yX8_pass ∈ tb := tbc_3 226 (by decide +kernel) rfl
theorem w_911 : Cond.instanceMethod yX8_pass ∈ tb := tbc_3 228 (by decide +kernel) rfl
theorem w_912 : Cond.code yX8_pass cX8_pass 2 (some .boolean) ∈ tb := tbc_3 229 (by decide +kernel) rfl
theorem w_913 : Cond.methodLink RX8 101 yX8_indexes ∈ tb := tbc_3 230 (by decide +kernel) rfl
theorem w_915 : Cond.instanceMethod yX8_indexes ∈ tb := tbc_3 232 (by decide +kernel) rfl
theorem w_916 : Cond.code yX8_indexes cX8_indexes 1 (some .boolean) ∈ tb := tbc_3 233 (by decide +kernel) rfl
theorem w_917 : Cond.methodLink RX8 104 yX8_valueList ∈ tb := tbc_3 234 (by decide +kernel) rfl
theorem w_919 : Cond.instanceMethod yX8_valueList ∈ tb := tbc_3 236 (by decide +kernel) rfl
theorem w_920 : Cond.code yX8_valueList cX8_valueList 2 (some .boolean) ∈ tb := tbc_3 237 (by decide +kernel) rfl
theorem w_937 : Cond.methodLink RX8 116 yX8_item ∈ tb := tbc_4 14 (by decide +kernel) rfl
theorem w_939 : Cond.instanceMethod yX8_item ∈ tb := tbc_4 16 (by decide +kernel) rfl
theorem w_940 : Cond.code yX8_item cX8_item 1 (some .boolean) ∈ tb := tbc_4 17 (by decide +kernel) rfl
theorem w_949 : Cond.methodLink RX8 29 yX8_start ∈ tb := tbc_4 26 (by decide +kernel) rfl
theorem w_950 : Cond.instanceMethod yX8_start ∈ tb := tbc_4 27 (by decide +kernel) rfl
theorem w_951 : Cond.selects RX8 yX8_start yX8_start ∈ tb := tbc_4 28 (by decide +kernel) rfl
theorem w_952 : Cond.code yX8_start cX8_start 2 (some .int) ∈ tb := tbc_4 29 (by decide +kernel) rfl
theorem inX8 : ∀ w ∈ u_ws RX8 TX8 5, w ∈ tb := by
  show ∀ w ∈ [u_lay RX8 TX8 0, u_lay RX8 TX8 1, u_lay RX8 TX8 2, u_lay RX8 TX8 3, u_lay RX8 TX8 4], w ∈ tb
  exact List.forall_mem_cons.mpr ⟨w_313, List.forall_mem_cons.mpr ⟨w_315, List.forall_mem_cons.mpr ⟨w_317, List.forall_mem_cons.mpr ⟨w_319, List.forall_mem_cons.mpr ⟨w_321, fun _ h => absurd h List.not_mem_nil⟩⟩⟩⟩⟩
section RW12
variable {p : Program} {l : Launch} {e : Env} {R : Room} {s : State} {m : MethodId} {args : Array Value} {below : List Frame} {meth : Method} {c : Code} {H : Heap} {locs : List Loc} {cells slots : Nat} {Q : State → Prop}
variable {cc : ByteArray} {pc nL : Nat} {ls : Array Slot} {rest st0 : List Value} {G : sG} {n : Nat} {S : sS}
theorem g_X8_22 (Cx : sC G p m c cc nL s args RX8) (hW : sW G n S H) {k : Nat} (hk : k < n) (ht : tau k = .inl 8) {v : Int} (hv : S.1 k 3 = v) (hdg : decode cc pc = .ok (.getfield 22, 3)) (kk : W p l e R s m args below meth c H locs cells slots Q (F0 m (pc + 3) ls (.int (iv v) :: rest))) : W p l e R s m args below meth c H locs cells slots Q (F0 m pc ls (.ref (G.2.2.1 + k) :: rest)) :=
  sGet Cx inX8 rfl 3 (by decide) w_311 hW hk ht (congrArg (fun z => Value.int (iv z)) hv) hdg kk
theorem g_X8_11 (Cx : sC G p m c cc nL s args RX8) (hW : sW G n S H) {k : Nat} (hk : k < n) (ht : tau k = .inl 8) {v : Value} (hv : S.2.2.2 k 0 = v) (hdg : decode cc pc = .ok (.getfield 11, 3)) (kk : W p l e R s m args below meth c H locs cells slots Q (F0 m (pc + 3) ls (v :: rest))) : W p l e R s m args below meth c H locs cells slots Q (F0 m pc ls (.ref (G.2.2.1 + k) :: rest)) :=
  sGet Cx inX8 rfl 0 (by decide) w_308 hW hk ht hv hdg kk
theorem g_X8_15 (Cx : sC G p m c cc nL s args RX8) (hW : sW G n S H) {k : Nat} (hk : k < n) (ht : tau k = .inl 8) {v : Value} (hv : S.2.2.2 k 1 = v) (hdg : decode cc pc = .ok (.getfield 15, 3)) (kk : W p l e R s m args below meth c H locs cells slots Q (F0 m (pc + 3) ls (v :: rest))) : W p l e R s m args below meth c H locs cells slots Q (F0 m pc ls (.ref (G.2.2.1 + k) :: rest)) :=
  sGet Cx inX8 rfl 1 (by decide) w_309 hW hk ht hv hdg kk
theorem g_X8_18 (Cx : sC G p m c cc nL s args RX8) (hW : sW G n S H) {k : Nat} (hk : k < n) (ht : tau k = .inl 8) {v : Value} (hv : S.2.2.2 k 2 = v) (hdg : decode cc pc = .ok (.getfield 18, 3)) (kk : W p l e R s m args below meth c H locs cells slots Q (F0 m (pc + 3) ls (v :: rest))) : W p l e R s m args below meth c H locs cells slots Q (F0 m pc ls (.ref (G.2.2.1 + k) :: rest)) :=
  sGet Cx inX8 rfl 2 (by decide) w_310 hW hk ht hv hdg kk
theorem g_X8_26 (Cx : sC G p m c cc nL s args RX8) (hW : sW G n S H) {k : Nat} (hk : k < n) (ht : tau k = .inl 8) {v : Int} (hv : S.1 k 4 = v) (hdg : decode cc pc = .ok (.getfield 26, 3)) (kk : W p l e R s m args below meth c H locs cells slots Q (F0 m (pc + 3) ls (.int (iv v) :: rest))) : W p l e R s m args below meth c H locs cells slots Q (F0 m pc ls (.ref (G.2.2.1 + k) :: rest)) :=
  sGet Cx inX8 rfl 4 (by decide) w_312 hW hk ht (congrArg (fun z => Value.int (iv z)) hv) hdg kk
theorem c_X8_29 (Cx : sC G p m c cc nL s args RX8) {rm : Room} {mc ms : Nat} (h1 : rm.cells = mc) (h2 : rm.slots = ms) (h3 : rm.frames + 1 ≤ R.frames ∧ 8 + (2 + 11) + rm.locals ≤ R.locals) : CallW R s args RX8 RX8 29 yX8_start cX8_start 2 (some .int) (.code yX8_start cX8_start 2 (some .int) :: tb) rm mc ms 1 :=
  sCw Cx 1 w_949 w_950 w_951 w_209 w_952 (by decide +kernel) h1 h2 h3
theorem p_X8_26 (Cx : sC G p m c cc nL s args RX8) (hW : sW G n S H) (hL : sL G locs) {k : Nat} (hk : k < n) (ht : tau k = .inl 8) {v : Int} (hdg : decode cc pc = .ok (.putfield 26, 3)) (kk : ∀ (H1 : Heap) (locs1 : List Loc), sW G n (uF S k 4 v) H1 → sL G locs1 → W p l e R s m args below meth c H1 locs1 cells slots Q (F0 m (pc + 3) ls rest)) : W p l e R s m args below meth c H locs cells slots Q (F0 m pc ls (.int (iv v) :: .ref (G.2.2.1 + k) :: rest)) :=
  sPut Cx inX8 tyX8 tyX8_ok nmX8 rfl 4 (by decide) w_312 rfl hW hL hk ht rfl rfl (fun _ h => uF_same h) (fun _ h => uF_off h) (congrArg (fun z => Value.int (iv z)) uF_on) hdg kk
theorem c_X8_92 (Cx : sC G p m c cc nL s args RX8) {rm : Room} {mc ms : Nat} (h1 : rm.cells = mc) (h2 : rm.slots = ms) (h3 : rm.frames + 1 ≤ R.frames ∧ 8 + (2 + 11) + rm.locals ≤ R.locals) : CallW R s args RX8 RX8 92 yX8_pass cX8_pass 2 (some .boolean) (.code yX8_pass cX8_pass 2 (some .boolean) :: tb) rm mc ms 1 :=
  sCw Cx 1 w_909 w_911 w_6 w_209 w_912 (by decide +kernel) h1 h2 h3
theorem c_X8_82 (Cx : sC G p m c cc nL s args RX8) {rm : Room} {mc ms : Nat} (h1 : rm.cells = mc) (h2 : rm.slots = ms) (h3 : rm.frames + 1 ≤ R.frames ∧ 8 + (2 + 11) + rm.locals ≤ R.locals) : CallW R s args RX8 RX8 82 yX8_is cX8_is 2 (some .boolean) (.code yX8_is cX8_is 2 (some .boolean) :: tb) rm mc ms 1 :=
  sCw Cx 1 w_897 w_899 w_4 w_209 w_900 (by decide +kernel) h1 h2 h3
theorem c_X8_116 (Cx : sC G p m c cc nL s args RX8) {rm : Room} {mc ms : Nat} (h1 : rm.cells = mc) (h2 : rm.slots = ms) (h3 : rm.frames + 1 ≤ R.frames ∧ 8 + (1 + 11) + rm.locals ≤ R.locals) : CallW R s args RX8 RX8 116 yX8_item cX8_item 1 (some .boolean) (.code yX8_item cX8_item 1 (some .boolean) :: tb) rm mc ms 0 :=
  sCw Cx 0 w_937 w_939 w_13 w_209 w_940 (by decide +kernel) h1 h2 h3
theorem c_X8_98 (Cx : sC G p m c cc nL s args RX8) {rm : Room} {mc ms : Nat} (h1 : rm.cells = mc) (h2 : rm.slots = ms) (h3 : rm.frames + 1 ≤ R.frames ∧ 8 + (2 + 11) + rm.locals ≤ R.locals) : CallW R s args RX8 RX8 98 yX8_kind cX8_kind 2 (some .int) (.code yX8_kind cX8_kind 2 (some .int) :: tb) rm mc ms 1 :=
  sCw Cx 1 w_905 w_906 w_907 w_209 w_908 (by decide +kernel) h1 h2 h3
theorem c_X8_101 (Cx : sC G p m c cc nL s args RX8) {rm : Room} {mc ms : Nat} (h1 : rm.cells = mc) (h2 : rm.slots = ms) (h3 : rm.frames + 1 ≤ R.frames ∧ 8 + (1 + 11) + rm.locals ≤ R.locals) : CallW R s args RX8 RX8 101 yX8_indexes cX8_indexes 1 (some .boolean) (.code yX8_indexes cX8_indexes 1 (some .boolean) :: tb) rm mc ms 0 :=
  sCw Cx 0 w_913 w_915 w_7 w_209 w_916 (by decide +kernel) h1 h2 h3
theorem c_X8_104 (Cx : sC G p m c cc nL s args RX8) {rm : Room} {mc ms : Nat} (h1 : rm.cells = mc) (h2 : rm.slots = ms) (h3 : rm.frames + 1 ≤ R.frames ∧ 8 + (2 + 11) + rm.locals ≤ R.locals) : CallW R s args RX8 RX8 104 yX8_valueList cX8_valueList 2 (some .boolean) (.code yX8_valueList cX8_valueList 2 (some .boolean) :: tb) rm mc ms 0 :=
  sCw Cx 0 w_917 w_919 w_8 w_209 w_920 (by decide +kernel) h1 h2 h3
end RW12
