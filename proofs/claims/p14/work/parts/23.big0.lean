theorem dX0_copy_0 : decode cX0_copy 0 = .ok (.aload_n 1, 1) := by decide +kernel
theorem dX0_copy_1 : decode cX0_copy 1 = .ok (.getfield 9, 3) := by decide +kernel
theorem dX0_copy_4 : decode cX0_copy 4 = .ok (.iconst 0, 1) := by decide +kernel
theorem dX0_copy_5 : decode cX0_copy 5 = .ok (.aload_n 0, 1) := by decide +kernel
theorem dX0_copy_6 : decode cX0_copy 6 = .ok (.getfield 9, 3) := by decide +kernel
theorem dX0_copy_9 : decode cX0_copy 9 = .ok (.iconst 0, 1) := by decide +kernel
theorem dX0_copy_10 : decode cX0_copy 10 = .ok (.aload_n 1, 1) := by decide +kernel
theorem dX0_copy_11 : decode cX0_copy 11 = .ok (.getfield 24, 3) := by decide +kernel
theorem dX0_copy_14 : decode cX0_copy 14 = .ok (.invokestatic 37, 3) := by decide +kernel
theorem dX0_copy_17 : decode cX0_copy 17 = .ok (.aload_n 0, 1) := by decide +kernel
theorem dX0_copy_18 : decode cX0_copy 18 = .ok (.aload_n 1, 1) := by decide +kernel
theorem dX0_copy_19 : decode cX0_copy 19 = .ok (.getfield 24, 3) := by decide +kernel
theorem dX0_copy_22 : decode cX0_copy 22 = .ok (.putfield 24, 3) := by decide +kernel
theorem dX0_copy_25 : decode cX0_copy 25 = .ok (.aload_n 0, 1) := by decide +kernel
theorem dX0_copy_26 : decode cX0_copy 26 = .ok (.aload_n 1, 1) := by decide +kernel
theorem dX0_copy_27 : decode cX0_copy 27 = .ok (.getfield 34, 3) := by decide +kernel
theorem dX0_copy_30 : decode cX0_copy 30 = .ok (.putfield 34, 3) := by decide +kernel
theorem dX0_copy_33 : decode cX0_copy 33 = .ok (.return_, 1) := by decide +kernel
theorem dX0_load_0 : decode cX0_load 0 = .ok (.aload_n 1, 1) := by decide +kernel
theorem dX0_load_1 : decode cX0_load 1 = .ok (.iload_n 2, 1) := by decide +kernel
theorem dX0_load_2 : decode cX0_load 2 = .ok (.iaload, 1) := by decide +kernel
theorem dX0_load_3 : decode cX0_load 3 = .ok (.istore_n 3, 1) := by decide +kernel
theorem dX0_load_4 : decode cX0_load 4 = .ok (.aload_n 0, 1) := by decide +kernel
theorem dX0_load_5 : decode cX0_load 5 = .ok (.iload_n 3, 1) := by decide +kernel
theorem dX0_load_6 : decode cX0_load 6 = .ok (.invokestatic 43, 3) := by decide +kernel
theorem dX0_load_9 : decode cX0_load 9 = .ok (.putfield 34, 3) := by decide +kernel
theorem dX0_load_12 : decode cX0_load 12 = .ok (.aload_n 0, 1) := by decide +kernel
theorem dX0_load_13 : decode cX0_load 13 = .ok (.iload_n 3, 1) := by decide +kernel
theorem dX0_load_14 : decode cX0_load 14 = .ok (.invokestatic 21, 3) := by decide +kernel
theorem dX0_load_17 : decode cX0_load 17 = .ok (.bipush 7, 2) := by decide +kernel
theorem dX0_load_19 : decode cX0_load 19 = .ok (.invokestatic 47, 3) := by decide +kernel
theorem dX0_load_22 : decode cX0_load 22 = .ok (.putfield 24, 3) := by decide +kernel
theorem dX0_load_25 : decode cX0_load 25 = .ok (.iconst 0, 1) := by decide +kernel
theorem dX0_load_26 : decode cX0_load 26 = .ok (.istore 4, 2) := by decide +kernel
theorem dX0_load_28 : decode cX0_load 28 = .ok (.iload 4, 2) := by decide +kernel
theorem dX0_load_30 : decode cX0_load 30 = .ok (.aload_n 0, 1) := by decide +kernel
theorem dX0_load_31 : decode cX0_load 31 = .ok (.getfield 24, 3) := by decide +kernel
theorem dX0_load_34 : decode cX0_load 34 = .ok (.if_icmp .ge 24, 3) := by decide +kernel
theorem dX0_load_37 : decode cX0_load 37 = .ok (.aload_n 0, 1) := by decide +kernel
theorem dX0_load_38 : decode cX0_load 38 = .ok (.getfield 9, 3) := by decide +kernel
theorem dX0_load_41 : decode cX0_load 41 = .ok (.iload 4, 2) := by decide +kernel
theorem dX0_load_43 : decode cX0_load 43 = .ok (.aload_n 1, 1) := by decide +kernel
theorem dX0_load_44 : decode cX0_load 44 = .ok (.iload_n 2, 1) := by decide +kernel
theorem dX0_load_45 : decode cX0_load 45 = .ok (.iconst 1, 1) := by decide +kernel
theorem dX0_load_46 : decode cX0_load 46 = .ok (.iadd, 1) := by decide +kernel
theorem dX0_load_47 : decode cX0_load 47 = .ok (.iload 4, 2) := by decide +kernel
theorem dX0_load_49 : decode cX0_load 49 = .ok (.iadd, 1) := by decide +kernel
theorem dX0_load_50 : decode cX0_load 50 = .ok (.iaload, 1) := by decide +kernel
theorem dX0_load_51 : decode cX0_load 51 = .ok (.iastore, 1) := by decide +kernel
theorem dX0_load_52 : decode cX0_load 52 = .ok (.iinc 4 1, 3) := by decide +kernel
theorem dX0_load_55 : decode cX0_load 55 = .ok (.goto (-27), 3) := by decide +kernel
theorem dX0_load_58 : decode cX0_load 58 = .ok (.return_, 1) := by decide +kernel
theorem dX0_put_0 : decode cX0_put 0 = .ok (.lload_n 1, 1) := by decide +kernel
theorem dX0_put_1 : decode cX0_put 1 = .ok (.lstore_n 3, 1) := by decide +kernel
theorem dX0_put_2 : decode cX0_put 2 = .ok (.aload_n 0, 1) := by decide +kernel
theorem dX0_put_3 : decode cX0_put 3 = .ok (.iconst 0, 1) := by decide +kernel
theorem dX0_put_4 : decode cX0_put 4 = .ok (.putfield 24, 3) := by decide +kernel
theorem dX0_put_7 : decode cX0_put 7 = .ok (.iconst 0, 1) := by decide +kernel
theorem dX0_put_8 : decode cX0_put 8 = .ok (.istore 5, 2) := by decide +kernel
theorem dX0_put_10 : decode cX0_put 10 = .ok (.iload 5, 2) := by decide +kernel
theorem dX0_put_12 : decode cX0_put 12 = .ok (.iconst 3, 1) := by decide +kernel
theorem dX0_put_13 : decode cX0_put 13 = .ok (.if_icmp .ge 49, 3) := by decide +kernel
theorem dX0_put_16 : decode cX0_put 16 = .ok (.aload_n 0, 1) := by decide +kernel
theorem dX0_put_17 : decode cX0_put 17 = .ok (.getfield 9, 3) := by decide +kernel
theorem dX0_put_20 : decode cX0_put 20 = .ok (.iload 5, 2) := by decide +kernel
theorem dX0_put_22 : decode cX0_put 22 = .ok (.lload_n 3, 1) := by decide +kernel
theorem dX0_put_23 : decode cX0_put 23 = .ok (.ldc2_w 19, 3) := by decide +kernel
theorem dX0_put_26 : decode cX0_put 26 = .ok (.lrem, 1) := by decide +kernel
theorem dX0_put_27 : decode cX0_put 27 = .ok (.invokestatic 13, 3) := by decide +kernel
theorem dX0_put_30 : decode cX0_put 30 = .ok (.l2i, 1) := by decide +kernel
theorem dX0_put_31 : decode cX0_put 31 = .ok (.iastore, 1) := by decide +kernel
theorem dX0_put_32 : decode cX0_put 32 = .ok (.lload_n 3, 1) := by decide +kernel
theorem dX0_put_33 : decode cX0_put 33 = .ok (.ldc2_w 19, 3) := by decide +kernel
theorem dX0_put_36 : decode cX0_put 36 = .ok (.ldiv, 1) := by decide +kernel
theorem dX0_put_37 : decode cX0_put 37 = .ok (.lstore_n 3, 1) := by decide +kernel
theorem dX0_put_38 : decode cX0_put 38 = .ok (.aload_n 0, 1) := by decide +kernel
theorem dX0_put_39 : decode cX0_put 39 = .ok (.getfield 9, 3) := by decide +kernel
theorem dX0_put_42 : decode cX0_put 42 = .ok (.iload 5, 2) := by decide +kernel
theorem dX0_put_44 : decode cX0_put 44 = .ok (.iaload, 1) := by decide +kernel
theorem dX0_put_45 : decode cX0_put 45 = .ok (.ifCond .eq 11, 3) := by decide +kernel
theorem dX0_put_48 : decode cX0_put 48 = .ok (.aload_n 0, 1) := by decide +kernel
theorem dX0_put_49 : decode cX0_put 49 = .ok (.iload 5, 2) := by decide +kernel
theorem dX0_put_51 : decode cX0_put 51 = .ok (.iconst 1, 1) := by decide +kernel
theorem dX0_put_52 : decode cX0_put 52 = .ok (.iadd, 1) := by decide +kernel
theorem dX0_put_53 : decode cX0_put 53 = .ok (.putfield 24, 3) := by decide +kernel
theorem dX0_put_56 : decode cX0_put 56 = .ok (.iinc 5 1, 3) := by decide +kernel
theorem dX0_put_59 : decode cX0_put 59 = .ok (.goto (-49), 3) := by decide +kernel
theorem dX0_put_62 : decode cX0_put 62 = .ok (.aload_n 0, 1) := by decide +kernel
theorem dX0_put_63 : decode cX0_put 63 = .ok (.lload_n 1, 1) := by decide +kernel
theorem dX0_put_64 : decode cX0_put 64 = .ok (.invokestatic 28, 3) := by decide +kernel
theorem dX0_put_67 : decode cX0_put 67 = .ok (.putfield 34, 3) := by decide +kernel
theorem dX0_put_70 : decode cX0_put 70 = .ok (.return_, 1) := by decide +kernel
theorem dX0_save_0 : decode cX0_save 0 = .ok (.aload_n 0, 1) := by decide +kernel
theorem dX0_save_1 : decode cX0_save 1 = .ok (.getfield 24, 3) := by decide +kernel
theorem dX0_save_4 : decode cX0_save 4 = .ok (.bipush 7, 2) := by decide +kernel
theorem dX0_save_6 : decode cX0_save 6 = .ok (.invokestatic 47, 3) := by decide +kernel
theorem dX0_save_9 : decode cX0_save 9 = .ok (.istore_n 3, 1) := by decide +kernel
theorem dX0_save_10 : decode cX0_save 10 = .ok (.aload_n 1, 1) := by decide +kernel
theorem dX0_save_11 : decode cX0_save 11 = .ok (.iload_n 2, 1) := by decide +kernel
theorem dX0_save_12 : decode cX0_save 12 = .ok (.aload_n 0, 1) := by decide +kernel
theorem dX0_save_13 : decode cX0_save 13 = .ok (.getfield 34, 3) := by decide +kernel
theorem dX0_save_16 : decode cX0_save 16 = .ok (.ifCond .ge 8, 3) := by decide +kernel
theorem dX0_save_19 : decode cX0_save 19 = .ok (.iload_n 3, 1) := by decide +kernel
theorem dX0_save_20 : decode cX0_save 20 = .ok (.ineg, 1) := by decide +kernel
theorem dX0_save_21 : decode cX0_save 21 = .ok (.goto 4, 3) := by decide +kernel
theorem dX0_save_24 : decode cX0_save 24 = .ok (.iload_n 3, 1) := by decide +kernel
theorem dX0_save_25 : decode cX0_save 25 = .ok (.iastore, 1) := by decide +kernel
theorem dX0_save_26 : decode cX0_save 26 = .ok (.iconst 0, 1) := by decide +kernel
theorem dX0_save_27 : decode cX0_save 27 = .ok (.istore 4, 2) := by decide +kernel
theorem dX0_save_29 : decode cX0_save 29 = .ok (.iload 4, 2) := by decide +kernel
theorem dX0_save_31 : decode cX0_save 31 = .ok (.iload_n 3, 1) := by decide +kernel
theorem dX0_save_32 : decode cX0_save 32 = .ok (.if_icmp .ge 24, 3) := by decide +kernel
theorem dX0_save_35 : decode cX0_save 35 = .ok (.aload_n 1, 1) := by decide +kernel
theorem dX0_save_36 : decode cX0_save 36 = .ok (.iload_n 2, 1) := by decide +kernel
theorem dX0_save_37 : decode cX0_save 37 = .ok (.iconst 1, 1) := by decide +kernel
theorem dX0_save_38 : decode cX0_save 38 = .ok (.iadd, 1) := by decide +kernel
theorem dX0_save_39 : decode cX0_save 39 = .ok (.iload 4, 2) := by decide +kernel
theorem dX0_save_41 : decode cX0_save 41 = .ok (.iadd, 1) := by decide +kernel
theorem dX0_save_42 : decode cX0_save 42 = .ok (.aload_n 0, 1) := by decide +kernel
theorem dX0_save_43 : decode cX0_save 43 = .ok (.getfield 9, 3) := by decide +kernel
theorem dX0_save_46 : decode cX0_save 46 = .ok (.iload 4, 2) := by decide +kernel
theorem dX0_save_48 : decode cX0_save 48 = .ok (.iaload, 1) := by decide +kernel
theorem dX0_save_49 : decode cX0_save 49 = .ok (.iastore, 1) := by decide +kernel
theorem dX0_save_50 : decode cX0_save 50 = .ok (.iinc 4 1, 3) := by decide +kernel
theorem dX0_save_53 : decode cX0_save 53 = .ok (.goto (-24), 3) := by decide +kernel
theorem dX0_save_56 : decode cX0_save 56 = .ok (.return_, 1) := by decide +kernel
theorem dX0_trim_0 : decode cX0_trim 0 = .ok (.aload_n 0, 1) := by decide +kernel
theorem dX0_trim_1 : decode cX0_trim 1 = .ok (.getfield 24, 3) := by decide +kernel
theorem dX0_trim_4 : decode cX0_trim 4 = .ok (.ifCond .le 30, 3) := by decide +kernel
theorem dX0_trim_7 : decode cX0_trim 7 = .ok (.aload_n 0, 1) := by decide +kernel
theorem dX0_trim_8 : decode cX0_trim 8 = .ok (.getfield 9, 3) := by decide +kernel
theorem dX0_trim_11 : decode cX0_trim 11 = .ok (.aload_n 0, 1) := by decide +kernel
theorem dX0_trim_12 : decode cX0_trim 12 = .ok (.getfield 24, 3) := by decide +kernel
theorem dX0_trim_15 : decode cX0_trim 15 = .ok (.iconst 1, 1) := by decide +kernel
theorem dX0_trim_16 : decode cX0_trim 16 = .ok (.isub, 1) := by decide +kernel
theorem dX0_trim_17 : decode cX0_trim 17 = .ok (.iaload, 1) := by decide +kernel
theorem dX0_trim_18 : decode cX0_trim 18 = .ok (.ifCond .ne 16, 3) := by decide +kernel
theorem dX0_trim_21 : decode cX0_trim 21 = .ok (.aload_n 0, 1) := by decide +kernel
theorem dX0_trim_22 : decode cX0_trim 22 = .ok (.dup, 1) := by decide +kernel
theorem dX0_trim_23 : decode cX0_trim 23 = .ok (.getfield 24, 3) := by decide +kernel
theorem dX0_trim_26 : decode cX0_trim 26 = .ok (.iconst 1, 1) := by decide +kernel
theorem dX0_trim_27 : decode cX0_trim 27 = .ok (.isub, 1) := by decide +kernel
theorem dX0_trim_28 : decode cX0_trim 28 = .ok (.putfield 24, 3) := by decide +kernel
theorem dX0_trim_31 : decode cX0_trim 31 = .ok (.goto (-31), 3) := by decide +kernel
theorem dX0_trim_34 : decode cX0_trim 34 = .ok (.aload_n 0, 1) := by decide +kernel
theorem dX0_trim_35 : decode cX0_trim 35 = .ok (.getfield 24, 3) := by decide +kernel
theorem dX0_trim_38 : decode cX0_trim 38 = .ok (.ifCond .ne 8, 3) := by decide +kernel
theorem dX0_trim_41 : decode cX0_trim 41 = .ok (.aload_n 0, 1) := by decide +kernel
theorem dX0_trim_42 : decode cX0_trim 42 = .ok (.iconst 0, 1) := by decide +kernel
theorem dX0_trim_43 : decode cX0_trim 43 = .ok (.putfield 34, 3) := by decide +kernel
theorem dX0_trim_46 : decode cX0_trim 46 = .ok (.return_, 1) := by decide +kernel
theorem dX0_turn_0 : decode cX0_turn 0 = .ok (.aload_n 0, 1) := by decide +kernel
theorem dX0_turn_1 : decode cX0_turn 1 = .ok (.aload_n 0, 1) := by decide +kernel
theorem dX0_turn_2 : decode cX0_turn 2 = .ok (.getfield 34, 3) := by decide +kernel
theorem dX0_turn_5 : decode cX0_turn 5 = .ok (.ineg, 1) := by decide +kernel
theorem dX0_turn_6 : decode cX0_turn 6 = .ok (.putfield 34, 3) := by decide +kernel
theorem dX0_turn_9 : decode cX0_turn 9 = .ok (.return_, 1) := by decide +kernel
theorem w_224 : Cond.initialized "java/lang/System" ∈ tb := tbc_1 21 (by decide +kernel) rfl
theorem w_225 : Cond.initialized RJ6 ∈ tb := tbc_1 22 (by decide +kernel) rfl
theorem w_226 : Cond.initialized RJ13 ∈ tb := tbc_1 23 (by decide +kernel) rfl
theorem w_399 : Cond.fieldLink RX0 9 (TX0 0).1 (TX0 0).2.1 (TX0 0).2.2.1 ∈ tb := tbc_1 196 (by decide +kernel) rfl
theorem w_401 : Cond.fieldLink RX0 24 (TX0 1).1 (TX0 1).2.1 (TX0 1).2.2.1 ∈ tb := tbc_1 198 (by decide +kernel) rfl
theorem w_404 : Cond.fieldLink RX0 34 (TX0 2).1 (TX0 2).2.1 (TX0 2).2.2.1 ∈ tb := tbc_1 201 (by decide +kernel) rfl
theorem w_409 : u_lay RX0 TX0 0 ∈ tb := tbc_1 206 (by decide +kernel) rfl
theorem w_411 : u_lay RX0 TX0 1 ∈ tb := tbc_1 208 (by decide +kernel) rfl
theorem w_413 : u_lay RX0 TX0 2 ∈ tb := tbc_1 210 (by decide +kernel) rfl
theorem w_1080 : Cond.static Lib.MathLoose.abs_long.x ∈ tb := tbc_4 157 (by decide +kernel) rfl
theorem w_1081 : Cond.code Lib.MathLoose.abs_long.x Lib.MathLoose.abs_long.code 2 (some .long) ∈ tb := tbc_4 158 (by decide +kernel) rfl
theorem w_1088 : Cond.static arraycopyName ∈ tb := tbc_4 165 (by decide +kernel) rfl
theorem w_1089 : Cond.native arraycopyName ∈ tb := tbc_4 166 (by decide +kernel) rfl
theorem w_1152 : Cond.methodLink RX0 43 yJ6_signum_0f7a4 ∈ tb := tbc_4 229 (by decide +kernel) rfl
theorem w_1153 : Cond.static yJ6_signum_0f7a4 ∈ tb := tbc_4 230 (by decide +kernel) rfl
theorem w_1154 : Cond.code yJ6_signum_0f7a4 cJ6_signum_0f7a4 1 (some .int) ∈ tb := tbc_4 231 (by decide +kernel) rfl
theorem w_1155 : Cond.methodLink RX0 21 Lib.Math.abs.name ∈ tb := tbc_4 232 (by decide +kernel) rfl
theorem w_1156 : Cond.static Lib.Math.abs.name ∈ tb := tbc_4 233 (by decide +kernel) rfl
theorem w_1157 : Cond.code Lib.Math.abs.name Lib.Math.abs.code 1 (some .int) ∈ tb := tbc_4 234 (by decide +kernel) rfl
theorem w_1158 : Cond.methodLink RX0 47 Lib.Math.min.name ∈ tb := tbc_4 235 (by decide +kernel) rfl
theorem w_1163 : Cond.constantLong RX0 19 (jv 1000000000) ∈ tb := tbc_5 0 (by decide +kernel) rfl
theorem w_1184 : Cond.methodLink RX0 13 Lib.MathLoose.abs_long.x ∈ tb := tbc_5 21 (by decide +kernel) rfl
theorem w_1266 : Cond.methodLink RX0 28 yJ13_signum_95d88 ∈ tb := tbc_5 103 (by decide +kernel) rfl
theorem w_1267 : Cond.static yJ13_signum_95d88 ∈ tb := tbc_5 104 (by decide +kernel) rfl
theorem w_1268 : Cond.code yJ13_signum_95d88 cJ13_signum_95d88 2 (some .int) ∈ tb := tbc_5 105 (by decide +kernel) rfl
theorem w_1287 : Cond.methodLink RX0 37 arraycopyName ∈ tb := tbc_5 124 (by decide +kernel) rfl
theorem inX0 : ∀ w ∈ u_ws RX0 TX0 3, w ∈ tb := by
  show ∀ w ∈ [u_lay RX0 TX0 0, u_lay RX0 TX0 1, u_lay RX0 TX0 2], w ∈ tb
  exact List.forall_mem_cons.mpr ⟨w_409, List.forall_mem_cons.mpr ⟨w_411, List.forall_mem_cons.mpr ⟨w_413, fun _ h => absurd h List.not_mem_nil⟩⟩⟩
section RW23
variable {p : Program} {l : Launch} {e : Env} {R : Room} {s : State} {m : MethodId} {args : Array Value} {below : List Frame} {meth : Method} {c : Code} {H : Heap} {locs : List Loc} {cells slots : Nat} {Q : State → Prop}
variable {cc : ByteArray} {pc nL : Nat} {ls : Array Slot} {rest st0 : List Value} {G : sG} {n : Nat} {S : sS}
theorem p_X0_24 (Cx : sC G p m c cc nL s args RX0) (hW : sW G n S H) (hL : sL G locs) {k : Nat} (hk : k < n) (ht : tau k = .inl 0) {v : Int} (hdg : decode cc pc = .ok (.putfield 24, 3)) (kk : ∀ (H1 : Heap) (locs1 : List Loc), sW G n (uF S k 1 v) H1 → sL G locs1 → W p l e R s m args below meth c H1 locs1 cells slots Q (F0 m (pc + 3) ls rest)) : W p l e R s m args below meth c H locs cells slots Q (F0 m pc ls (.int (iv v) :: .ref (G.2.2.1 + k) :: rest)) :=
  sPut Cx inX0 tyX0 tyX0_ok nmX0 rfl 1 (by decide) w_401 rfl hW hL hk ht rfl rfl (fun _ h => uF_same h) (fun _ h => uF_off h) (congrArg (fun z => Value.int (iv z)) uF_on) hdg kk
theorem c_X0_28 (Cx : sC G p m c cc nL s args RX0) {rm : Room} {mc ms : Nat} (h1 : rm.cells = mc) (h2 : rm.slots = ms) (h3 : rm.frames + 1 ≤ R.frames ∧ 8 + (2 + 11) + rm.locals ≤ R.locals) : CallB R s args RX0 28 yJ13_signum_95d88 cJ13_signum_95d88 2 (some .int) (.code yJ13_signum_95d88 cJ13_signum_95d88 2 (some .int) :: tb) rm mc ms 1 ∧ (Cond.static yJ13_signum_95d88).before args s = true :=
  sCS Cx 1 w_1266 w_1267 w_226 w_1268 (by decide +kernel) h1 h2 h3
theorem p_X0_34 (Cx : sC G p m c cc nL s args RX0) (hW : sW G n S H) (hL : sL G locs) {k : Nat} (hk : k < n) (ht : tau k = .inl 0) {v : Int} (hdg : decode cc pc = .ok (.putfield 34, 3)) (kk : ∀ (H1 : Heap) (locs1 : List Loc), sW G n (uF S k 2 v) H1 → sL G locs1 → W p l e R s m args below meth c H1 locs1 cells slots Q (F0 m (pc + 3) ls rest)) : W p l e R s m args below meth c H locs cells slots Q (F0 m pc ls (.int (iv v) :: .ref (G.2.2.1 + k) :: rest)) :=
  sPut Cx inX0 tyX0 tyX0_ok nmX0 rfl 2 (by decide) w_404 rfl hW hL hk ht rfl rfl (fun _ h => uF_same h) (fun _ h => uF_off h) (congrArg (fun z => Value.int (iv z)) uF_on) hdg kk
theorem g_X0_9 (Cx : sC G p m c cc nL s args RX0) (hW : sW G n S H) {k : Nat} (hk : k < n) (ht : tau k = .inl 0) {v : Value} (hv : S.2.2.2 k 0 = v) (hdg : decode cc pc = .ok (.getfield 9, 3)) (kk : W p l e R s m args below meth c H locs cells slots Q (F0 m (pc + 3) ls (v :: rest))) : W p l e R s m args below meth c H locs cells slots Q (F0 m pc ls (.ref (G.2.2.1 + k) :: rest)) :=
  sGet Cx inX0 rfl 0 (by decide) w_399 hW hk ht hv hdg kk
theorem g_X0_34 (Cx : sC G p m c cc nL s args RX0) (hW : sW G n S H) {k : Nat} (hk : k < n) (ht : tau k = .inl 0) {v : Int} (hv : S.1 k 2 = v) (hdg : decode cc pc = .ok (.getfield 34, 3)) (kk : W p l e R s m args below meth c H locs cells slots Q (F0 m (pc + 3) ls (.int (iv v) :: rest))) : W p l e R s m args below meth c H locs cells slots Q (F0 m pc ls (.ref (G.2.2.1 + k) :: rest)) :=
  sGet Cx inX0 rfl 2 (by decide) w_404 hW hk ht (congrArg (fun z => Value.int (iv z)) hv) hdg kk
theorem g_X0_24 (Cx : sC G p m c cc nL s args RX0) (hW : sW G n S H) {k : Nat} (hk : k < n) (ht : tau k = .inl 0) {v : Int} (hv : S.1 k 1 = v) (hdg : decode cc pc = .ok (.getfield 24, 3)) (kk : W p l e R s m args below meth c H locs cells slots Q (F0 m (pc + 3) ls (.int (iv v) :: rest))) : W p l e R s m args below meth c H locs cells slots Q (F0 m pc ls (.ref (G.2.2.1 + k) :: rest)) :=
  sGet Cx inX0 rfl 1 (by decide) w_401 hW hk ht (congrArg (fun z => Value.int (iv z)) hv) hdg kk
theorem c_X0_43 (Cx : sC G p m c cc nL s args RX0) {rm : Room} {mc ms : Nat} (h1 : rm.cells = mc) (h2 : rm.slots = ms) (h3 : rm.frames + 1 ≤ R.frames ∧ 8 + (1 + 11) + rm.locals ≤ R.locals) : CallB R s args RX0 43 yJ6_signum_0f7a4 cJ6_signum_0f7a4 1 (some .int) (.code yJ6_signum_0f7a4 cJ6_signum_0f7a4 1 (some .int) :: tb) rm mc ms 1 ∧ (Cond.static yJ6_signum_0f7a4).before args s = true :=
  sCS Cx 1 w_1152 w_1153 w_225 w_1154 (by decide +kernel) h1 h2 h3
end RW23
