theorem dX10_count_0 : decode cX10_count 0 = .ok (.aload_n 0, 1) := by decide +kernel
theorem dX10_count_1 : decode cX10_count 1 = .ok (.getfield 21, 3) := by decide +kernel
theorem dX10_count_4 : decode cX10_count 4 = .ok (.ifCond .le 9, 3) := by decide +kernel
theorem dX10_count_7 : decode cX10_count 7 = .ok (.aload_n 0, 1) := by decide +kernel
theorem dX10_count_8 : decode cX10_count 8 = .ok (.bipush 32, 2) := by decide +kernel
theorem dX10_count_10 : decode cX10_count 10 = .ok (.invokevirtual 29, 3) := by decide +kernel
theorem dX10_count_13 : decode cX10_count 13 = .ok (.iconst 0, 1) := by decide +kernel
theorem dX10_count_14 : decode cX10_count 14 = .ok (.istore_n 2, 1) := by decide +kernel
theorem dX10_count_15 : decode cX10_count 15 = .ok (.ldc 42, 2) := by decide +kernel
theorem dX10_count_17 : decode cX10_count 17 = .ok (.istore_n 3, 1) := by decide +kernel
theorem dX10_count_18 : decode cX10_count 18 = .ok (.iload_n 3, 1) := by decide +kernel
theorem dX10_count_19 : decode cX10_count 19 = .ok (.ifCond .le 52, 3) := by decide +kernel
theorem dX10_count_22 : decode cX10_count 22 = .ok (.iload_n 1, 1) := by decide +kernel
theorem dX10_count_23 : decode cX10_count 23 = .ok (.iload_n 3, 1) := by decide +kernel
theorem dX10_count_24 : decode cX10_count 24 = .ok (.idiv, 1) := by decide +kernel
theorem dX10_count_25 : decode cX10_count 25 = .ok (.bipush 10, 2) := by decide +kernel
theorem dX10_count_27 : decode cX10_count 27 = .ok (.irem, 1) := by decide +kernel
theorem dX10_count_28 : decode cX10_count 28 = .ok (.istore 4, 2) := by decide +kernel
theorem dX10_count_30 : decode cX10_count 30 = .ok (.iload_n 2, 1) := by decide +kernel
theorem dX10_count_31 : decode cX10_count 31 = .ok (.ifCond .ne 13, 3) := by decide +kernel
theorem dX10_count_34 : decode cX10_count 34 = .ok (.iload 4, 2) := by decide +kernel
theorem dX10_count_36 : decode cX10_count 36 = .ok (.ifCond .ne 8, 3) := by decide +kernel
theorem dX10_count_39 : decode cX10_count 39 = .ok (.iload_n 3, 1) := by decide +kernel
theorem dX10_count_40 : decode cX10_count 40 = .ok (.iconst 1, 1) := by decide +kernel
theorem dX10_count_41 : decode cX10_count 41 = .ok (.if_icmp .ne 7, 3) := by decide +kernel
theorem dX10_count_44 : decode cX10_count 44 = .ok (.iconst 1, 1) := by decide +kernel
theorem dX10_count_45 : decode cX10_count 45 = .ok (.goto 4, 3) := by decide +kernel
theorem dX10_count_48 : decode cX10_count 48 = .ok (.iconst 0, 1) := by decide +kernel
theorem dX10_count_49 : decode cX10_count 49 = .ok (.istore_n 2, 1) := by decide +kernel
theorem dX10_count_50 : decode cX10_count 50 = .ok (.iload_n 2, 1) := by decide +kernel
theorem dX10_count_51 : decode cX10_count 51 = .ok (.ifCond .eq 12, 3) := by decide +kernel
theorem dX10_count_54 : decode cX10_count 54 = .ok (.aload_n 0, 1) := by decide +kernel
theorem dX10_count_55 : decode cX10_count 55 = .ok (.bipush 48, 2) := by decide +kernel
theorem dX10_count_57 : decode cX10_count 57 = .ok (.iload 4, 2) := by decide +kernel
theorem dX10_count_59 : decode cX10_count 59 = .ok (.iadd, 1) := by decide +kernel
theorem dX10_count_60 : decode cX10_count 60 = .ok (.invokevirtual 29, 3) := by decide +kernel
theorem dX10_count_63 : decode cX10_count 63 = .ok (.iload_n 3, 1) := by decide +kernel
theorem dX10_count_64 : decode cX10_count 64 = .ok (.bipush 10, 2) := by decide +kernel
theorem dX10_count_66 : decode cX10_count 66 = .ok (.idiv, 1) := by decide +kernel
theorem dX10_count_67 : decode cX10_count 67 = .ok (.istore_n 3, 1) := by decide +kernel
theorem dX10_count_68 : decode cX10_count 68 = .ok (.goto (-50), 3) := by decide +kernel
theorem dX10_count_71 : decode cX10_count 71 = .ok (.return_, 1) := by decide +kernel
theorem dX10_number_0 : decode cX10_number 0 = .ok (.iload_n 2, 1) := by decide +kernel
theorem dX10_number_1 : decode cX10_number 1 = .ok (.ifCond .eq 16, 3) := by decide +kernel
theorem dX10_number_4 : decode cX10_number 4 = .ok (.aload_n 0, 1) := by decide +kernel
theorem dX10_number_5 : decode cX10_number 5 = .ok (.getfield 21, 3) := by decide +kernel
theorem dX10_number_8 : decode cX10_number 8 = .ok (.ifCond .le 9, 3) := by decide +kernel
theorem dX10_number_11 : decode cX10_number 11 = .ok (.aload_n 0, 1) := by decide +kernel
theorem dX10_number_12 : decode cX10_number 12 = .ok (.bipush 32, 2) := by decide +kernel
theorem dX10_number_14 : decode cX10_number 14 = .ok (.invokevirtual 29, 3) := by decide +kernel
theorem dX10_number_17 : decode cX10_number 17 = .ok (.aload_n 1, 1) := by decide +kernel
theorem dX10_number_18 : decode cX10_number 18 = .ok (.getfield 43, 3) := by decide +kernel
theorem dX10_number_21 : decode cX10_number 21 = .ok (.ifCond .ge 9, 3) := by decide +kernel
theorem dX10_number_24 : decode cX10_number 24 = .ok (.aload_n 0, 1) := by decide +kernel
theorem dX10_number_25 : decode cX10_number 25 = .ok (.bipush 45, 2) := by decide +kernel
theorem dX10_number_27 : decode cX10_number 27 = .ok (.invokevirtual 29, 3) := by decide +kernel
theorem dX10_number_30 : decode cX10_number 30 = .ok (.aload_n 1, 1) := by decide +kernel
theorem dX10_number_31 : decode cX10_number 31 = .ok (.getfield 43, 3) := by decide +kernel
theorem dX10_number_34 : decode cX10_number 34 = .ok (.ifCond .ne 9, 3) := by decide +kernel
theorem dX10_number_37 : decode cX10_number 37 = .ok (.aload_n 0, 1) := by decide +kernel
theorem dX10_number_38 : decode cX10_number 38 = .ok (.bipush 48, 2) := by decide +kernel
theorem dX10_number_40 : decode cX10_number 40 = .ok (.invokevirtual 29, 3) := by decide +kernel
theorem dX10_number_43 : decode cX10_number 43 = .ok (.iconst 0, 1) := by decide +kernel
theorem dX10_number_44 : decode cX10_number 44 = .ok (.istore_n 3, 1) := by decide +kernel
theorem dX10_number_45 : decode cX10_number 45 = .ok (.aload_n 1, 1) := by decide +kernel
theorem dX10_number_46 : decode cX10_number 46 = .ok (.getfield 48, 3) := by decide +kernel
theorem dX10_number_49 : decode cX10_number 49 = .ok (.iconst 1, 1) := by decide +kernel
theorem dX10_number_50 : decode cX10_number 50 = .ok (.isub, 1) := by decide +kernel
theorem dX10_number_51 : decode cX10_number 51 = .ok (.istore 4, 2) := by decide +kernel
theorem dX10_number_53 : decode cX10_number 53 = .ok (.iload 4, 2) := by decide +kernel
theorem dX10_number_55 : decode cX10_number 55 = .ok (.ifCond .lt 71, 3) := by decide +kernel
theorem dX10_number_58 : decode cX10_number 58 = .ok (.ldc 51, 2) := by decide +kernel
theorem dX10_number_60 : decode cX10_number 60 = .ok (.istore 5, 2) := by decide +kernel
theorem dX10_number_62 : decode cX10_number 62 = .ok (.iload 5, 2) := by decide +kernel
theorem dX10_number_64 : decode cX10_number 64 = .ok (.ifCond .le 56, 3) := by decide +kernel
theorem dX10_number_67 : decode cX10_number 67 = .ok (.aload_n 1, 1) := by decide +kernel
theorem dX10_number_68 : decode cX10_number 68 = .ok (.getfield 52, 3) := by decide +kernel
theorem dX10_number_71 : decode cX10_number 71 = .ok (.iload 4, 2) := by decide +kernel
theorem dX10_number_73 : decode cX10_number 73 = .ok (.iaload, 1) := by decide +kernel
theorem dX10_number_74 : decode cX10_number 74 = .ok (.iload 5, 2) := by decide +kernel
theorem dX10_number_76 : decode cX10_number 76 = .ok (.idiv, 1) := by decide +kernel
theorem dX10_number_77 : decode cX10_number 77 = .ok (.bipush 10, 2) := by decide +kernel
theorem dX10_number_79 : decode cX10_number 79 = .ok (.irem, 1) := by decide +kernel
theorem dX10_number_80 : decode cX10_number 80 = .ok (.istore 6, 2) := by decide +kernel
theorem dX10_number_82 : decode cX10_number 82 = .ok (.iload_n 3, 1) := by decide +kernel
theorem dX10_number_83 : decode cX10_number 83 = .ok (.ifCond .ne 8, 3) := by decide +kernel
theorem dX10_number_86 : decode cX10_number 86 = .ok (.iload 6, 2) := by decide +kernel
theorem dX10_number_88 : decode cX10_number 88 = .ok (.ifCond .eq 7, 3) := by decide +kernel
theorem dX10_number_91 : decode cX10_number 91 = .ok (.iconst 1, 1) := by decide +kernel
theorem dX10_number_92 : decode cX10_number 92 = .ok (.goto 4, 3) := by decide +kernel
theorem dX10_number_95 : decode cX10_number 95 = .ok (.iconst 0, 1) := by decide +kernel
theorem dX10_number_96 : decode cX10_number 96 = .ok (.istore_n 3, 1) := by decide +kernel
theorem dX10_number_97 : decode cX10_number 97 = .ok (.iload_n 3, 1) := by decide +kernel
theorem dX10_number_98 : decode cX10_number 98 = .ok (.ifCond .eq 12, 3) := by decide +kernel
theorem dX10_number_101 : decode cX10_number 101 = .ok (.aload_n 0, 1) := by decide +kernel
theorem dX10_number_102 : decode cX10_number 102 = .ok (.bipush 48, 2) := by decide +kernel
theorem dX10_number_104 : decode cX10_number 104 = .ok (.iload 6, 2) := by decide +kernel
theorem dX10_number_106 : decode cX10_number 106 = .ok (.iadd, 1) := by decide +kernel
theorem dX10_number_107 : decode cX10_number 107 = .ok (.invokevirtual 29, 3) := by decide +kernel
theorem dX10_number_110 : decode cX10_number 110 = .ok (.iload 5, 2) := by decide +kernel
theorem dX10_number_112 : decode cX10_number 112 = .ok (.bipush 10, 2) := by decide +kernel
theorem dX10_number_114 : decode cX10_number 114 = .ok (.idiv, 1) := by decide +kernel
theorem dX10_number_115 : decode cX10_number 115 = .ok (.istore 5, 2) := by decide +kernel
theorem dX10_number_117 : decode cX10_number 117 = .ok (.goto (-55), 3) := by decide +kernel
theorem dX10_number_120 : decode cX10_number 120 = .ok (.iinc 4 (-1), 3) := by decide +kernel
theorem dX10_number_123 : decode cX10_number 123 = .ok (.goto (-70), 3) := by decide +kernel
theorem dX10_number_126 : decode cX10_number 126 = .ok (.return_, 1) := by decide +kernel
theorem w_400 : Cond.fieldLinkNest RX10 52 (TX0 0).1 (TX0 0).2.1 (TX0 0).2.2.1 "OptimumHouse" ∈ nst := nsc_1 197 (by decide +kernel) rfl
theorem w_402 : Cond.fieldLinkNest RX10 48 (TX0 1).1 (TX0 1).2.1 (TX0 1).2.2.1 "OptimumHouse" ∈ nst := nsc_1 199 (by decide +kernel) rfl
theorem w_405 : Cond.fieldLinkNest RX10 43 (TX0 2).1 (TX0 2).2.1 (TX0 2).2.2.1 "OptimumHouse" ∈ nst := nsc_1 202 (by decide +kernel) rfl
theorem w_1439 : Cond.constant RX10 51 (iv 100000000) ∈ tb := tbc_6 36 (by decide +kernel) rfl
theorem w_1460 : Cond.constant RX10 42 (iv 1000000000) ∈ tb := tbc_6 57 (by decide +kernel) rfl
section RW28
variable {p : Program} {l : Launch} {e : Env} {R : Room} {s : State} {m : MethodId} {args : Array Value} {below : List Frame} {meth : Method} {c : Code} {H : Heap} {locs : List Loc} {cells slots : Nat} {Q : State → Prop}
variable {cc : ByteArray} {pc nL : Nat} {ls : Array Slot} {rest st0 : List Value} {G : sG} {n : Nat} {S : sS}
theorem g_X10_48 (Cx : sC G p m c cc nL s args RX10) (hW : sW G n S H) {k : Nat} (hk : k < n) (ht : tau k = .inl 0) {v : Int} (hv : S.1 k 1 = v) (hdg : decode cc pc = .ok (.getfield 48, 3)) (kk : W p l e R s m args below meth c H locs cells slots Q (F0 m (pc + 3) ls (.int (iv v) :: rest))) : W p l e R s m args below meth c H locs cells slots Q (F0 m pc ls (.ref (G.2.2.1 + k) :: rest)) :=
  sGetN Cx inX0 rfl 1 (by decide) w_402 hW hk ht (congrArg (fun z => Value.int (iv z)) hv) hdg kk
theorem g_X10_52 (Cx : sC G p m c cc nL s args RX10) (hW : sW G n S H) {k : Nat} (hk : k < n) (ht : tau k = .inl 0) {v : Value} (hv : S.2.2.2 k 0 = v) (hdg : decode cc pc = .ok (.getfield 52, 3)) (kk : W p l e R s m args below meth c H locs cells slots Q (F0 m (pc + 3) ls (v :: rest))) : W p l e R s m args below meth c H locs cells slots Q (F0 m pc ls (.ref (G.2.2.1 + k) :: rest)) :=
  sGetN Cx inX0 rfl 0 (by decide) w_400 hW hk ht hv hdg kk
theorem g_X10_43 (Cx : sC G p m c cc nL s args RX10) (hW : sW G n S H) {k : Nat} (hk : k < n) (ht : tau k = .inl 0) {v : Int} (hv : S.1 k 2 = v) (hdg : decode cc pc = .ok (.getfield 43, 3)) (kk : W p l e R s m args below meth c H locs cells slots Q (F0 m (pc + 3) ls (.int (iv v) :: rest))) : W p l e R s m args below meth c H locs cells slots Q (F0 m pc ls (.ref (G.2.2.1 + k) :: rest)) :=
  sGetN Cx inX0 rfl 2 (by decide) w_405 hW hk ht (congrArg (fun z => Value.int (iv z)) hv) hdg kk
end RW28
