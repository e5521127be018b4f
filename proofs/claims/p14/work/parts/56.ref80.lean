theorem dX12_clearMultipliers_0 : decode cX12_clearMultipliers 0 = .ok (.iconst 0, 1) := by decide +kernel
theorem dX12_clearMultipliers_1 : decode cX12_clearMultipliers 1 = .ok (.istore_n 1, 1) := by decide +kernel
theorem dX12_clearMultipliers_2 : decode cX12_clearMultipliers 2 = .ok (.iload_n 1, 1) := by decide +kernel
theorem dX12_clearMultipliers_3 : decode cX12_clearMultipliers 3 = .ok (.bipush 40, 2) := by decide +kernel
theorem dX12_clearMultipliers_5 : decode cX12_clearMultipliers 5 = .ok (.if_icmp .gt 19, 3) := by decide +kernel
theorem dX12_clearMultipliers_8 : decode cX12_clearMultipliers 8 = .ok (.aload_n 0, 1) := by decide +kernel
theorem dX12_clearMultipliers_9 : decode cX12_clearMultipliers 9 = .ok (.getfield 154, 3) := by decide +kernel
theorem dX12_clearMultipliers_12 : decode cX12_clearMultipliers 12 = .ok (.bipush 8, 2) := by decide +kernel
theorem dX12_clearMultipliers_14 : decode cX12_clearMultipliers 14 = .ok (.iload_n 1, 1) := by decide +kernel
theorem dX12_clearMultipliers_15 : decode cX12_clearMultipliers 15 = .ok (.imul, 1) := by decide +kernel
theorem dX12_clearMultipliers_16 : decode cX12_clearMultipliers 16 = .ok (.iconst 0, 1) := by decide +kernel
theorem dX12_clearMultipliers_17 : decode cX12_clearMultipliers 17 = .ok (.iastore, 1) := by decide +kernel
theorem dX12_clearMultipliers_18 : decode cX12_clearMultipliers 18 = .ok (.iinc 1 1, 3) := by decide +kernel
theorem dX12_clearMultipliers_21 : decode cX12_clearMultipliers 21 = .ok (.goto (-19), 3) := by decide +kernel
theorem dX12_clearMultipliers_24 : decode cX12_clearMultipliers 24 = .ok (.return_, 1) := by decide +kernel
theorem dX12_say_0 : decode cX12_say 0 = .ok (.aload_n 0, 1) := by decide +kernel
theorem dX12_say_1 : decode cX12_say 1 = .ok (.getfield 523, 3) := by decide +kernel
theorem dX12_say_4 : decode cX12_say 4 = .ok (.ifCond .le 24, 3) := by decide +kernel
theorem dX12_say_7 : decode cX12_say 7 = .ok (.aload_n 0, 1) := by decide +kernel
theorem dX12_say_8 : decode cX12_say 8 = .ok (.getfield 148, 3) := by decide +kernel
theorem dX12_say_11 : decode cX12_say 11 = .ok (.aload_n 0, 1) := by decide +kernel
theorem dX12_say_12 : decode cX12_say 12 = .ok (.getfield 523, 3) := by decide +kernel
theorem dX12_say_15 : decode cX12_say 15 = .ok (.bipush 32, 2) := by decide +kernel
theorem dX12_say_17 : decode cX12_say 17 = .ok (.bastore, 1) := by decide +kernel
theorem dX12_say_18 : decode cX12_say 18 = .ok (.aload_n 0, 1) := by decide +kernel
theorem dX12_say_19 : decode cX12_say 19 = .ok (.dup, 1) := by decide +kernel
theorem dX12_say_20 : decode cX12_say 20 = .ok (.getfield 523, 3) := by decide +kernel
theorem dX12_say_23 : decode cX12_say 23 = .ok (.iconst 1, 1) := by decide +kernel
theorem dX12_say_24 : decode cX12_say 24 = .ok (.iadd, 1) := by decide +kernel
theorem dX12_say_25 : decode cX12_say 25 = .ok (.putfield 523, 3) := by decide +kernel
theorem dX12_say_28 : decode cX12_say 28 = .ok (.iconst 0, 1) := by decide +kernel
theorem dX12_say_29 : decode cX12_say 29 = .ok (.istore_n 2, 1) := by decide +kernel
theorem dX12_say_30 : decode cX12_say 30 = .ok (.iload_n 2, 1) := by decide +kernel
theorem dX12_say_31 : decode cX12_say 31 = .ok (.aload_n 1, 1) := by decide +kernel
theorem dX12_say_32 : decode cX12_say 32 = .ok (.invokevirtual 279, 3) := by decide +kernel
theorem dX12_say_35 : decode cX12_say 35 = .ok (.if_icmp .ge 34, 3) := by decide +kernel
theorem dX12_say_38 : decode cX12_say 38 = .ok (.aload_n 0, 1) := by decide +kernel
theorem dX12_say_39 : decode cX12_say 39 = .ok (.getfield 148, 3) := by decide +kernel
theorem dX12_say_42 : decode cX12_say 42 = .ok (.aload_n 0, 1) := by decide +kernel
theorem dX12_say_43 : decode cX12_say 43 = .ok (.getfield 523, 3) := by decide +kernel
theorem dX12_say_46 : decode cX12_say 46 = .ok (.aload_n 1, 1) := by decide +kernel
theorem dX12_say_47 : decode cX12_say 47 = .ok (.iload_n 2, 1) := by decide +kernel
theorem dX12_say_48 : decode cX12_say 48 = .ok (.invokevirtual 285, 3) := by decide +kernel
theorem dX12_say_51 : decode cX12_say 51 = .ok (.i2b, 1) := by decide +kernel
theorem dX12_say_52 : decode cX12_say 52 = .ok (.bastore, 1) := by decide +kernel
theorem dX12_say_53 : decode cX12_say 53 = .ok (.aload_n 0, 1) := by decide +kernel
theorem dX12_say_54 : decode cX12_say 54 = .ok (.dup, 1) := by decide +kernel
theorem dX12_say_55 : decode cX12_say 55 = .ok (.getfield 523, 3) := by decide +kernel
theorem dX12_say_58 : decode cX12_say 58 = .ok (.iconst 1, 1) := by decide +kernel
theorem dX12_say_59 : decode cX12_say 59 = .ok (.iadd, 1) := by decide +kernel
theorem dX12_say_60 : decode cX12_say 60 = .ok (.putfield 523, 3) := by decide +kernel
theorem dX12_say_63 : decode cX12_say 63 = .ok (.iinc 2 1, 3) := by decide +kernel
theorem dX12_say_66 : decode cX12_say 66 = .ok (.goto (-36), 3) := by decide +kernel
theorem dX12_say_69 : decode cX12_say 69 = .ok (.return_, 1) := by decide +kernel
theorem dX12_sayLetters_0 : decode cX12_sayLetters 0 = .ok (.aload_n 0, 1) := by decide +kernel
theorem dX12_sayLetters_1 : decode cX12_sayLetters 1 = .ok (.getfield 148, 3) := by decide +kernel
theorem dX12_sayLetters_4 : decode cX12_sayLetters 4 = .ok (.aload_n 0, 1) := by decide +kernel
theorem dX12_sayLetters_5 : decode cX12_sayLetters 5 = .ok (.getfield 523, 3) := by decide +kernel
theorem dX12_sayLetters_8 : decode cX12_sayLetters 8 = .ok (.bipush 32, 2) := by decide +kernel
theorem dX12_sayLetters_10 : decode cX12_sayLetters 10 = .ok (.bastore, 1) := by decide +kernel
theorem dX12_sayLetters_11 : decode cX12_sayLetters 11 = .ok (.aload_n 0, 1) := by decide +kernel
theorem dX12_sayLetters_12 : decode cX12_sayLetters 12 = .ok (.dup, 1) := by decide +kernel
theorem dX12_sayLetters_13 : decode cX12_sayLetters 13 = .ok (.getfield 523, 3) := by decide +kernel
theorem dX12_sayLetters_16 : decode cX12_sayLetters 16 = .ok (.iconst 1, 1) := by decide +kernel
theorem dX12_sayLetters_17 : decode cX12_sayLetters 17 = .ok (.iadd, 1) := by decide +kernel
theorem dX12_sayLetters_18 : decode cX12_sayLetters 18 = .ok (.putfield 523, 3) := by decide +kernel
theorem dX12_sayLetters_21 : decode cX12_sayLetters 21 = .ok (.iconst 0, 1) := by decide +kernel
theorem dX12_sayLetters_22 : decode cX12_sayLetters 22 = .ok (.istore_n 1, 1) := by decide +kernel
theorem dX12_sayLetters_23 : decode cX12_sayLetters 23 = .ok (.iload_n 1, 1) := by decide +kernel
theorem dX12_sayLetters_24 : decode cX12_sayLetters 24 = .ok (.aload_n 0, 1) := by decide +kernel
theorem dX12_sayLetters_25 : decode cX12_sayLetters 25 = .ok (.getfield 259, 3) := by decide +kernel
theorem dX12_sayLetters_28 : decode cX12_sayLetters 28 = .ok (.if_icmp .ge 34, 3) := by decide +kernel
theorem dX12_sayLetters_31 : decode cX12_sayLetters 31 = .ok (.aload_n 0, 1) := by decide +kernel
theorem dX12_sayLetters_32 : decode cX12_sayLetters 32 = .ok (.getfield 148, 3) := by decide +kernel
theorem dX12_sayLetters_35 : decode cX12_sayLetters 35 = .ok (.aload_n 0, 1) := by decide +kernel
theorem dX12_sayLetters_36 : decode cX12_sayLetters 36 = .ok (.getfield 523, 3) := by decide +kernel
theorem dX12_sayLetters_39 : decode cX12_sayLetters 39 = .ok (.aload_n 0, 1) := by decide +kernel
theorem dX12_sayLetters_40 : decode cX12_sayLetters 40 = .ok (.getfield 23, 3) := by decide +kernel
theorem dX12_sayLetters_43 : decode cX12_sayLetters 43 = .ok (.iload_n 1, 1) := by decide +kernel
theorem dX12_sayLetters_44 : decode cX12_sayLetters 44 = .ok (.baload, 1) := by decide +kernel
theorem dX12_sayLetters_45 : decode cX12_sayLetters 45 = .ok (.bastore, 1) := by decide +kernel
theorem dX12_sayLetters_46 : decode cX12_sayLetters 46 = .ok (.aload_n 0, 1) := by decide +kernel
theorem dX12_sayLetters_47 : decode cX12_sayLetters 47 = .ok (.dup, 1) := by decide +kernel
theorem dX12_sayLetters_48 : decode cX12_sayLetters 48 = .ok (.getfield 523, 3) := by decide +kernel
theorem dX12_sayLetters_51 : decode cX12_sayLetters 51 = .ok (.iconst 1, 1) := by decide +kernel
theorem dX12_sayLetters_52 : decode cX12_sayLetters 52 = .ok (.iadd, 1) := by decide +kernel
theorem dX12_sayLetters_53 : decode cX12_sayLetters 53 = .ok (.putfield 523, 3) := by decide +kernel
theorem dX12_sayLetters_56 : decode cX12_sayLetters 56 = .ok (.iinc 1 1, 3) := by decide +kernel
theorem dX12_sayLetters_59 : decode cX12_sayLetters 59 = .ok (.goto (-36), 3) := by decide +kernel
theorem dX12_sayLetters_62 : decode cX12_sayLetters 62 = .ok (.return_, 1) := by decide +kernel
theorem dX12_write_0 : decode cX12_write 0 = .ok (.aload_n 0, 1) := by decide +kernel
theorem dX12_write_1 : decode cX12_write 1 = .ok (.getfield 520, 3) := by decide +kernel
theorem dX12_write_4 : decode cX12_write 4 = .ok (.ifCond .le 24, 3) := by decide +kernel
theorem dX12_write_7 : decode cX12_write 7 = .ok (.aload_n 0, 1) := by decide +kernel
theorem dX12_write_8 : decode cX12_write 8 = .ok (.getfield 144, 3) := by decide +kernel
theorem dX12_write_11 : decode cX12_write 11 = .ok (.aload_n 0, 1) := by decide +kernel
theorem dX12_write_12 : decode cX12_write 12 = .ok (.getfield 520, 3) := by decide +kernel
theorem dX12_write_15 : decode cX12_write 15 = .ok (.bipush 32, 2) := by decide +kernel
theorem dX12_write_17 : decode cX12_write 17 = .ok (.bastore, 1) := by decide +kernel
theorem dX12_write_18 : decode cX12_write 18 = .ok (.aload_n 0, 1) := by decide +kernel
theorem dX12_write_19 : decode cX12_write 19 = .ok (.dup, 1) := by decide +kernel
theorem dX12_write_20 : decode cX12_write 20 = .ok (.getfield 520, 3) := by decide +kernel
theorem dX12_write_23 : decode cX12_write 23 = .ok (.iconst 1, 1) := by decide +kernel
theorem dX12_write_24 : decode cX12_write 24 = .ok (.iadd, 1) := by decide +kernel
theorem dX12_write_25 : decode cX12_write 25 = .ok (.putfield 520, 3) := by decide +kernel
theorem dX12_write_28 : decode cX12_write 28 = .ok (.iconst 0, 1) := by decide +kernel
theorem dX12_write_29 : decode cX12_write 29 = .ok (.istore_n 2, 1) := by decide +kernel
theorem dX12_write_30 : decode cX12_write 30 = .ok (.iload_n 2, 1) := by decide +kernel
theorem dX12_write_31 : decode cX12_write 31 = .ok (.aload_n 1, 1) := by decide +kernel
theorem dX12_write_32 : decode cX12_write 32 = .ok (.invokevirtual 279, 3) := by decide +kernel
theorem dX12_write_35 : decode cX12_write 35 = .ok (.if_icmp .ge 34, 3) := by decide +kernel
theorem dX12_write_38 : decode cX12_write 38 = .ok (.aload_n 0, 1) := by decide +kernel
theorem dX12_write_39 : decode cX12_write 39 = .ok (.getfield 144, 3) := by decide +kernel
theorem dX12_write_42 : decode cX12_write 42 = .ok (.aload_n 0, 1) := by decide +kernel
theorem dX12_write_43 : decode cX12_write 43 = .ok (.getfield 520, 3) := by decide +kernel
theorem dX12_write_46 : decode cX12_write 46 = .ok (.aload_n 1, 1) := by decide +kernel
theorem dX12_write_47 : decode cX12_write 47 = .ok (.iload_n 2, 1) := by decide +kernel
theorem dX12_write_48 : decode cX12_write 48 = .ok (.invokevirtual 285, 3) := by decide +kernel
theorem dX12_write_51 : decode cX12_write 51 = .ok (.i2b, 1) := by decide +kernel
theorem dX12_write_52 : decode cX12_write 52 = .ok (.bastore, 1) := by decide +kernel
theorem dX12_write_53 : decode cX12_write 53 = .ok (.aload_n 0, 1) := by decide +kernel
theorem dX12_write_54 : decode cX12_write 54 = .ok (.dup, 1) := by decide +kernel
theorem dX12_write_55 : decode cX12_write 55 = .ok (.getfield 520, 3) := by decide +kernel
theorem dX12_write_58 : decode cX12_write 58 = .ok (.iconst 1, 1) := by decide +kernel
theorem dX12_write_59 : decode cX12_write 59 = .ok (.iadd, 1) := by decide +kernel
theorem dX12_write_60 : decode cX12_write 60 = .ok (.putfield 520, 3) := by decide +kernel
theorem dX12_write_63 : decode cX12_write 63 = .ok (.iinc 2 1, 3) := by decide +kernel
theorem dX12_write_66 : decode cX12_write 66 = .ok (.goto (-36), 3) := by decide +kernel
theorem dX12_write_69 : decode cX12_write 69 = .ok (.return_, 1) := by decide +kernel
theorem dX12_writeNumber_0 : decode cX12_writeNumber 0 = .ok (.aload_n 0, 1) := by decide +kernel
theorem dX12_writeNumber_1 : decode cX12_writeNumber 1 = .ok (.getfield 144, 3) := by decide +kernel
theorem dX12_writeNumber_4 : decode cX12_writeNumber 4 = .ok (.aload_n 0, 1) := by decide +kernel
theorem dX12_writeNumber_5 : decode cX12_writeNumber 5 = .ok (.getfield 520, 3) := by decide +kernel
theorem dX12_writeNumber_8 : decode cX12_writeNumber 8 = .ok (.bipush 32, 2) := by decide +kernel
theorem dX12_writeNumber_10 : decode cX12_writeNumber 10 = .ok (.bastore, 1) := by decide +kernel
theorem dX12_writeNumber_11 : decode cX12_writeNumber 11 = .ok (.aload_n 0, 1) := by decide +kernel
theorem dX12_writeNumber_12 : decode cX12_writeNumber 12 = .ok (.dup, 1) := by decide +kernel
theorem dX12_writeNumber_13 : decode cX12_writeNumber 13 = .ok (.getfield 520, 3) := by decide +kernel
theorem dX12_writeNumber_16 : decode cX12_writeNumber 16 = .ok (.iconst 1, 1) := by decide +kernel
theorem dX12_writeNumber_17 : decode cX12_writeNumber 17 = .ok (.iadd, 1) := by decide +kernel
theorem dX12_writeNumber_18 : decode cX12_writeNumber 18 = .ok (.putfield 520, 3) := by decide +kernel
theorem dX12_writeNumber_21 : decode cX12_writeNumber 21 = .ok (.aload_n 0, 1) := by decide +kernel
theorem dX12_writeNumber_22 : decode cX12_writeNumber 22 = .ok (.iconst 0, 1) := by decide +kernel
theorem dX12_writeNumber_23 : decode cX12_writeNumber 23 = .ok (.putfield 259, 3) := by decide +kernel
theorem dX12_writeNumber_26 : decode cX12_writeNumber 26 = .ok (.aload_n 0, 1) := by decide +kernel
theorem dX12_writeNumber_27 : decode cX12_writeNumber 27 = .ok (.aload_n 1, 1) := by decide +kernel
theorem dX12_writeNumber_28 : decode cX12_writeNumber 28 = .ok (.iload_n 2, 1) := by decide +kernel
theorem dX12_writeNumber_29 : decode cX12_writeNumber 29 = .ok (.invokevirtual 594, 3) := by decide +kernel
theorem dX12_writeNumber_32 : decode cX12_writeNumber 32 = .ok (.iconst 0, 1) := by decide +kernel
theorem dX12_writeNumber_33 : decode cX12_writeNumber 33 = .ok (.istore_n 3, 1) := by decide +kernel
theorem dX12_writeNumber_34 : decode cX12_writeNumber 34 = .ok (.iload_n 3, 1) := by decide +kernel
theorem dX12_writeNumber_35 : decode cX12_writeNumber 35 = .ok (.aload_n 0, 1) := by decide +kernel
theorem dX12_writeNumber_36 : decode cX12_writeNumber 36 = .ok (.getfield 259, 3) := by decide +kernel
theorem dX12_writeNumber_39 : decode cX12_writeNumber 39 = .ok (.if_icmp .ge 34, 3) := by decide +kernel
theorem dX12_writeNumber_42 : decode cX12_writeNumber 42 = .ok (.aload_n 0, 1) := by decide +kernel
theorem dX12_writeNumber_43 : decode cX12_writeNumber 43 = .ok (.getfield 144, 3) := by decide +kernel
theorem dX12_writeNumber_46 : decode cX12_writeNumber 46 = .ok (.aload_n 0, 1) := by decide +kernel
theorem dX12_writeNumber_47 : decode cX12_writeNumber 47 = .ok (.getfield 520, 3) := by decide +kernel
theorem dX12_writeNumber_50 : decode cX12_writeNumber 50 = .ok (.aload_n 0, 1) := by decide +kernel
theorem dX12_writeNumber_51 : decode cX12_writeNumber 51 = .ok (.getfield 23, 3) := by decide +kernel
theorem dX12_writeNumber_54 : decode cX12_writeNumber 54 = .ok (.iload_n 3, 1) := by decide +kernel
theorem dX12_writeNumber_55 : decode cX12_writeNumber 55 = .ok (.baload, 1) := by decide +kernel
theorem dX12_writeNumber_56 : decode cX12_writeNumber 56 = .ok (.bastore, 1) := by decide +kernel
theorem dX12_writeNumber_57 : decode cX12_writeNumber 57 = .ok (.aload_n 0, 1) := by decide +kernel
theorem dX12_writeNumber_58 : decode cX12_writeNumber 58 = .ok (.dup, 1) := by decide +kernel
theorem dX12_writeNumber_59 : decode cX12_writeNumber 59 = .ok (.getfield 520, 3) := by decide +kernel
theorem dX12_writeNumber_62 : decode cX12_writeNumber 62 = .ok (.iconst 1, 1) := by decide +kernel
theorem dX12_writeNumber_63 : decode cX12_writeNumber 63 = .ok (.iadd, 1) := by decide +kernel
theorem dX12_writeNumber_64 : decode cX12_writeNumber 64 = .ok (.putfield 520, 3) := by decide +kernel
theorem dX12_writeNumber_67 : decode cX12_writeNumber 67 = .ok (.iinc 3 1, 3) := by decide +kernel
theorem dX12_writeNumber_70 : decode cX12_writeNumber 70 = .ok (.goto (-36), 3) := by decide +kernel
theorem dX12_writeNumber_73 : decode cX12_writeNumber 73 = .ok (.return_, 1) := by decide +kernel
theorem dX12_writeSmall_0 : decode cX12_writeSmall 0 = .ok (.aload_n 0, 1) := by decide +kernel
theorem dX12_writeSmall_1 : decode cX12_writeSmall 1 = .ok (.getfield 151, 3) := by decide +kernel
theorem dX12_writeSmall_4 : decode cX12_writeSmall 4 = .ok (.iconst 0, 1) := by decide +kernel
theorem dX12_writeSmall_5 : decode cX12_writeSmall 5 = .ok (.lload_n 1, 1) := by decide +kernel
theorem dX12_writeSmall_6 : decode cX12_writeSmall 6 = .ok (.invokestatic 241, 3) := by decide +kernel
theorem dX12_writeSmall_9 : decode cX12_writeSmall 9 = .ok (.aload_n 0, 1) := by decide +kernel
theorem dX12_writeSmall_10 : decode cX12_writeSmall 10 = .ok (.aload_n 0, 1) := by decide +kernel
theorem dX12_writeSmall_11 : decode cX12_writeSmall 11 = .ok (.getfield 151, 3) := by decide +kernel
theorem dX12_writeSmall_14 : decode cX12_writeSmall 14 = .ok (.iconst 0, 1) := by decide +kernel
theorem dX12_writeSmall_15 : decode cX12_writeSmall 15 = .ok (.invokevirtual 597, 3) := by decide +kernel
theorem dX12_writeSmall_18 : decode cX12_writeSmall 18 = .ok (.return_, 1) := by decide +kernel
theorem w_153 : Cond.selects RX12 yX12_writeNumber yX12_writeNumber ∈ tb := sel_10 (q := (yX12_writeNumber, 105)) 9 (by decide +kernel)
theorem w_154 : Cond.selects RX12 yX12_spell yX12_spell ∈ tb := sel_10 (q := (yX12_spell, 105)) 10 (by decide +kernel)
theorem w_2044 : Cond.fieldLink RX12 144 (TX12 83).1 (TX12 83).2.1 (TX12 83).2.2.1 ∈ tb := tbc_8 161 (by decide +kernel) rfl
theorem w_2045 : Cond.fieldLink RX12 520 (TX12 84).1 (TX12 84).2.1 (TX12 84).2.2.1 ∈ tb := tbc_8 162 (by decide +kernel) rfl
theorem w_2046 : Cond.fieldLink RX12 148 (TX12 85).1 (TX12 85).2.1 (TX12 85).2.2.1 ∈ tb := tbc_8 163 (by decide +kernel) rfl
theorem w_2047 : Cond.fieldLink RX12 523 (TX12 86).1 (TX12 86).2.1 (TX12 86).2.2.1 ∈ tb := tbc_8 164 (by decide +kernel) rfl
theorem w_2048 : Cond.fieldLink RX12 151 (TX12 87).1 (TX12 87).2.1 (TX12 87).2.2.1 ∈ tb := tbc_8 165 (by decide +kernel) rfl
theorem w_2049 : Cond.fieldLink RX12 154 (TX12 88).1 (TX12 88).2.1 (TX12 88).2.2.1 ∈ tb := tbc_8 166 (by decide +kernel) rfl
theorem w_2312 : Cond.methodLink RX12 279 yJ0_length_8abf5 ∈ tb := tbc_9 189 (by decide +kernel) rfl
theorem w_2313 : Cond.methodLink RX12 285 yJ0_charAt_5068e ∈ tb := tbc_9 190 (by decide +kernel) rfl
theorem w_2549 : Cond.methodLink RX12 597 yX12_writeNumber ∈ tb := tbc_10 186 (by decide +kernel) rfl
theorem w_2551 : Cond.instanceMethod yX12_writeNumber ∈ tb := tbc_10 188 (by decide +kernel) rfl
theorem w_2552 : Cond.code yX12_writeNumber cX12_writeNumber 4 none ∈ tb := tbc_10 189 (by decide +kernel) rfl
theorem w_2553 : Cond.methodLink RX12 594 yX12_spell ∈ tb := tbc_10 190 (by decide +kernel) rfl
theorem w_2555 : Cond.instanceMethod yX12_spell ∈ tb := tbc_10 192 (by decide +kernel) rfl
theorem w_2556 : Cond.code yX12_spell cX12_spell 8 none ∈ tb := tbc_10 193 (by decide +kernel) rfl
section RW56
variable {p : Program} {l : Launch} {e : Env} {R : Room} {s : State} {m : MethodId} {args : Array Value} {below : List Frame} {meth : Method} {c : Code} {H : Heap} {locs : List Loc} {cells slots : Nat} {Q : State → Prop}
variable {cc : ByteArray} {pc nL : Nat} {ls : Array Slot} {rest st0 : List Value} {G : sG} {n : Nat} {S : sS}
theorem c_X12_279 (Cx : sC G p m c cc nL s args RX12) {rm : Room} {mc ms : Nat} (h1 : rm.cells = mc) (h2 : rm.slots = ms) (h3 : rm.frames + 1 ≤ R.frames ∧ 8 + (1 + 11) + rm.locals ≤ R.locals) : CallW R s args RX12 RJ0 279 yJ0_length_8abf5 cJ0_length_8abf5 1 (some .int) (.code yJ0_length_8abf5 cJ0_length_8abf5 1 (some .int) :: tb) rm mc ms 0 :=
  sCw Cx 0 w_2312 w_826 w_827 w_218 w_828 (by decide +kernel) h1 h2 h3
theorem g_X12_144 (Cx : sC G p m c cc nL s args RX12) (hW : sW G n S H) {k : Nat} (hk : k < n) (ht : tau k = .inl 12) {v : Value} (hv : S.2.2.2 k 83 = v) (hdg : decode cc pc = .ok (.getfield 144, 3)) (kk : W p l e R s m args below meth c H locs cells slots Q (F0 m (pc + 3) ls (v :: rest))) : W p l e R s m args below meth c H locs cells slots Q (F0 m pc ls (.ref (G.2.2.1 + k) :: rest)) :=
  sGet Cx inX12 rfl 83 (by decide) w_2044 hW hk ht hv hdg kk
theorem g_X12_520 (Cx : sC G p m c cc nL s args RX12) (hW : sW G n S H) {k : Nat} (hk : k < n) (ht : tau k = .inl 12) {v : Int} (hv : S.1 k 84 = v) (hdg : decode cc pc = .ok (.getfield 520, 3)) (kk : W p l e R s m args below meth c H locs cells slots Q (F0 m (pc + 3) ls (.int (iv v) :: rest))) : W p l e R s m args below meth c H locs cells slots Q (F0 m pc ls (.ref (G.2.2.1 + k) :: rest)) :=
  sGet Cx inX12 rfl 84 (by decide) w_2045 hW hk ht (congrArg (fun z => Value.int (iv z)) hv) hdg kk
theorem c_X12_285 (Cx : sC G p m c cc nL s args RX12) {rm : Room} {mc ms : Nat} (h1 : rm.cells = mc) (h2 : rm.slots = ms) (h3 : rm.frames + 1 ≤ R.frames ∧ 8 + (2 + 11) + rm.locals ≤ R.locals) : CallW R s args RX12 RJ0 285 yJ0_charAt_5068e cJ0_charAt_5068e 2 (some .char) (.code yJ0_charAt_5068e cJ0_charAt_5068e 2 (some .char) :: tb) rm mc ms 1 :=
  sCw Cx 1 w_2313 w_1416 w_1417 w_218 w_1418 (by decide +kernel) h1 h2 h3
theorem p_X12_520 (Cx : sC G p m c cc nL s args RX12) (hW : sW G n S H) (hL : sL G locs) {k : Nat} (hk : k < n) (ht : tau k = .inl 12) {v : Int} (hdg : decode cc pc = .ok (.putfield 520, 3)) (kk : ∀ (H1 : Heap) (locs1 : List Loc), sW G n (uF S k 84 v) H1 → sL G locs1 → W p l e R s m args below meth c H1 locs1 cells slots Q (F0 m (pc + 3) ls rest)) : W p l e R s m args below meth c H locs cells slots Q (F0 m pc ls (.int (iv v) :: .ref (G.2.2.1 + k) :: rest)) :=
  sPut Cx inX12 tyX12 tyX12_ok nmX12 rfl 84 (by decide) w_2045 rfl hW hL hk ht rfl rfl (fun _ h => uF_same h) (fun _ h => uF_off h) (congrArg (fun z => Value.int (iv z)) uF_on) hdg kk
theorem g_X12_148 (Cx : sC G p m c cc nL s args RX12) (hW : sW G n S H) {k : Nat} (hk : k < n) (ht : tau k = .inl 12) {v : Value} (hv : S.2.2.2 k 85 = v) (hdg : decode cc pc = .ok (.getfield 148, 3)) (kk : W p l e R s m args below meth c H locs cells slots Q (F0 m (pc + 3) ls (v :: rest))) : W p l e R s m args below meth c H locs cells slots Q (F0 m pc ls (.ref (G.2.2.1 + k) :: rest)) :=
  sGet Cx inX12 rfl 85 (by decide) w_2046 hW hk ht hv hdg kk
theorem g_X12_523 (Cx : sC G p m c cc nL s args RX12) (hW : sW G n S H) {k : Nat} (hk : k < n) (ht : tau k = .inl 12) {v : Int} (hv : S.1 k 86 = v) (hdg : decode cc pc = .ok (.getfield 523, 3)) (kk : W p l e R s m args below meth c H locs cells slots Q (F0 m (pc + 3) ls (.int (iv v) :: rest))) : W p l e R s m args below meth c H locs cells slots Q (F0 m pc ls (.ref (G.2.2.1 + k) :: rest)) :=
  sGet Cx inX12 rfl 86 (by decide) w_2047 hW hk ht (congrArg (fun z => Value.int (iv z)) hv) hdg kk
theorem p_X12_523 (Cx : sC G p m c cc nL s args RX12) (hW : sW G n S H) (hL : sL G locs) {k : Nat} (hk : k < n) (ht : tau k = .inl 12) {v : Int} (hdg : decode cc pc = .ok (.putfield 523, 3)) (kk : ∀ (H1 : Heap) (locs1 : List Loc), sW G n (uF S k 86 v) H1 → sL G locs1 → W p l e R s m args below meth c H1 locs1 cells slots Q (F0 m (pc + 3) ls rest)) : W p l e R s m args below meth c H locs cells slots Q (F0 m pc ls (.int (iv v) :: .ref (G.2.2.1 + k) :: rest)) :=
  sPut Cx inX12 tyX12 tyX12_ok nmX12 rfl 86 (by decide) w_2047 rfl hW hL hk ht rfl rfl (fun _ h => uF_same h) (fun _ h => uF_off h) (congrArg (fun z => Value.int (iv z)) uF_on) hdg kk
theorem c_X12_594 (Cx : sC G p m c cc nL s args RX12) {rm : Room} {mc ms : Nat} (h1 : rm.cells = mc) (h2 : rm.slots = ms) (h3 : rm.frames + 1 ≤ R.frames ∧ 8 + (8 + 11) + rm.locals ≤ R.locals) : CallW R s args RX12 RX12 594 yX12_spell cX12_spell 8 none (.code yX12_spell cX12_spell 8 none :: tb) rm mc ms 2 :=
  sCw Cx 2 w_2553 w_2555 w_154 w_217 w_2556 (by decide +kernel) h1 h2 h3
theorem g_X12_151 (Cx : sC G p m c cc nL s args RX12) (hW : sW G n S H) {k : Nat} (hk : k < n) (ht : tau k = .inl 12) {v : Value} (hv : S.2.2.2 k 87 = v) (hdg : decode cc pc = .ok (.getfield 151, 3)) (kk : W p l e R s m args below meth c H locs cells slots Q (F0 m (pc + 3) ls (v :: rest))) : W p l e R s m args below meth c H locs cells slots Q (F0 m pc ls (.ref (G.2.2.1 + k) :: rest)) :=
  sGet Cx inX12 rfl 87 (by decide) w_2048 hW hk ht hv hdg kk
theorem c_X12_597 (Cx : sC G p m c cc nL s args RX12) {rm : Room} {mc ms : Nat} (h1 : rm.cells = mc) (h2 : rm.slots = ms) (h3 : rm.frames + 1 ≤ R.frames ∧ 8 + (4 + 11) + rm.locals ≤ R.locals) : CallW R s args RX12 RX12 597 yX12_writeNumber cX12_writeNumber 4 none (.code yX12_writeNumber cX12_writeNumber 4 none :: tb) rm mc ms 2 :=
  sCw Cx 2 w_2549 w_2551 w_153 w_217 w_2552 (by decide +kernel) h1 h2 h3
theorem g_X12_154 (Cx : sC G p m c cc nL s args RX12) (hW : sW G n S H) {k : Nat} (hk : k < n) (ht : tau k = .inl 12) {v : Value} (hv : S.2.2.2 k 88 = v) (hdg : decode cc pc = .ok (.getfield 154, 3)) (kk : W p l e R s m args below meth c H locs cells slots Q (F0 m (pc + 3) ls (v :: rest))) : W p l e R s m args below meth c H locs cells slots Q (F0 m pc ls (.ref (G.2.2.1 + k) :: rest)) :=
  sGet Cx inX12 rfl 88 (by decide) w_2049 hW hk ht hv hdg kk
end RW56
