theorem dX10_byteAt_0 : decode cX10_byteAt 0 = .ok (.iload_n 1, 1) := by decide +kernel
theorem dX10_byteAt_1 : decode cX10_byteAt 1 = .ok (.ifCond .lt 11, 3) := by decide +kernel
theorem dX10_byteAt_4 : decode cX10_byteAt 4 = .ok (.iload_n 1, 1) := by decide +kernel
theorem dX10_byteAt_5 : decode cX10_byteAt 5 = .ok (.aload_n 0, 1) := by decide +kernel
theorem dX10_byteAt_6 : decode cX10_byteAt 6 = .ok (.getfield 21, 3) := by decide +kernel
theorem dX10_byteAt_9 : decode cX10_byteAt 9 = .ok (.if_icmp .lt 7, 3) := by decide +kernel
theorem dX10_byteAt_12 : decode cX10_byteAt 12 = .ok (.iconst (-1), 1) := by decide +kernel
theorem dX10_byteAt_13 : decode cX10_byteAt 13 = .ok (.goto 13, 3) := by decide +kernel
theorem dX10_byteAt_16 : decode cX10_byteAt 16 = .ok (.aload_n 0, 1) := by decide +kernel
theorem dX10_byteAt_17 : decode cX10_byteAt 17 = .ok (.getfield 15, 3) := by decide +kernel
theorem dX10_byteAt_20 : decode cX10_byteAt 20 = .ok (.iload_n 1, 1) := by decide +kernel
theorem dX10_byteAt_21 : decode cX10_byteAt 21 = .ok (.baload, 1) := by decide +kernel
theorem dX10_byteAt_22 : decode cX10_byteAt 22 = .ok (.sipush 255, 3) := by decide +kernel
theorem dX10_byteAt_25 : decode cX10_byteAt 25 = .ok (.iand, 1) := by decide +kernel
theorem dX10_byteAt_26 : decode cX10_byteAt 26 = .ok (.ireturn, 1) := by decide +kernel
theorem dX10_clear_0 : decode cX10_clear 0 = .ok (.aload_n 0, 1) := by decide +kernel
theorem dX10_clear_1 : decode cX10_clear 1 = .ok (.iconst 0, 1) := by decide +kernel
theorem dX10_clear_2 : decode cX10_clear 2 = .ok (.putfield 21, 3) := by decide +kernel
theorem dX10_clear_5 : decode cX10_clear 5 = .ok (.aload_n 0, 1) := by decide +kernel
theorem dX10_clear_6 : decode cX10_clear 6 = .ok (.iconst 0, 1) := by decide +kernel
theorem dX10_clear_7 : decode cX10_clear 7 = .ok (.putfield 25, 3) := by decide +kernel
theorem dX10_clear_10 : decode cX10_clear 10 = .ok (.return_, 1) := by decide +kernel
theorem dX10_isOver_0 : decode cX10_isOver 0 = .ok (.aload_n 0, 1) := by decide +kernel
theorem dX10_isOver_1 : decode cX10_isOver 1 = .ok (.getfield 25, 3) := by decide +kernel
theorem dX10_isOver_4 : decode cX10_isOver 4 = .ok (.ireturn, 1) := by decide +kernel
theorem dX10_length_0 : decode cX10_length 0 = .ok (.aload_n 0, 1) := by decide +kernel
theorem dX10_length_1 : decode cX10_length 1 = .ok (.getfield 21, 3) := by decide +kernel
theorem dX10_length_4 : decode cX10_length 4 = .ok (.ireturn, 1) := by decide +kernel
theorem dX10_put_0 : decode cX10_put 0 = .ok (.aload_n 0, 1) := by decide +kernel
theorem dX10_put_1 : decode cX10_put 1 = .ok (.getfield 21, 3) := by decide +kernel
theorem dX10_put_4 : decode cX10_put 4 = .ok (.aload_n 0, 1) := by decide +kernel
theorem dX10_put_5 : decode cX10_put 5 = .ok (.getfield 15, 3) := by decide +kernel
theorem dX10_put_8 : decode cX10_put 8 = .ok (.arraylength, 1) := by decide +kernel
theorem dX10_put_9 : decode cX10_put 9 = .ok (.if_icmp .lt 9, 3) := by decide +kernel
theorem dX10_put_12 : decode cX10_put 12 = .ok (.aload_n 0, 1) := by decide +kernel
theorem dX10_put_13 : decode cX10_put 13 = .ok (.iconst 1, 1) := by decide +kernel
theorem dX10_put_14 : decode cX10_put 14 = .ok (.putfield 25, 3) := by decide +kernel
theorem dX10_put_17 : decode cX10_put 17 = .ok (.return_, 1) := by decide +kernel
theorem dX10_put_18 : decode cX10_put 18 = .ok (.aload_n 0, 1) := by decide +kernel
theorem dX10_put_19 : decode cX10_put 19 = .ok (.getfield 15, 3) := by decide +kernel
theorem dX10_put_22 : decode cX10_put 22 = .ok (.aload_n 0, 1) := by decide +kernel
theorem dX10_put_23 : decode cX10_put 23 = .ok (.getfield 21, 3) := by decide +kernel
theorem dX10_put_26 : decode cX10_put 26 = .ok (.iload_n 1, 1) := by decide +kernel
theorem dX10_put_27 : decode cX10_put 27 = .ok (.i2b, 1) := by decide +kernel
theorem dX10_put_28 : decode cX10_put 28 = .ok (.bastore, 1) := by decide +kernel
theorem dX10_put_29 : decode cX10_put 29 = .ok (.aload_n 0, 1) := by decide +kernel
theorem dX10_put_30 : decode cX10_put 30 = .ok (.dup, 1) := by decide +kernel
theorem dX10_put_31 : decode cX10_put 31 = .ok (.getfield 21, 3) := by decide +kernel
theorem dX10_put_34 : decode cX10_put 34 = .ok (.iconst 1, 1) := by decide +kernel
theorem dX10_put_35 : decode cX10_put 35 = .ok (.iadd, 1) := by decide +kernel
theorem dX10_put_36 : decode cX10_put 36 = .ok (.putfield 21, 3) := by decide +kernel
theorem dX10_put_39 : decode cX10_put 39 = .ok (.return_, 1) := by decide +kernel
theorem dX10_putFour_0 : decode cX10_putFour 0 = .ok (.aload_n 0, 1) := by decide +kernel
theorem dX10_putFour_1 : decode cX10_putFour 1 = .ok (.iload_n 1, 1) := by decide +kernel
theorem dX10_putFour_2 : decode cX10_putFour 2 = .ok (.bipush 24, 2) := by decide +kernel
theorem dX10_putFour_4 : decode cX10_putFour 4 = .ok (.iushr, 1) := by decide +kernel
theorem dX10_putFour_5 : decode cX10_putFour 5 = .ok (.invokevirtual 29, 3) := by decide +kernel
theorem dX10_putFour_8 : decode cX10_putFour 8 = .ok (.aload_n 0, 1) := by decide +kernel
theorem dX10_putFour_9 : decode cX10_putFour 9 = .ok (.iload_n 1, 1) := by decide +kernel
theorem dX10_putFour_10 : decode cX10_putFour 10 = .ok (.bipush 16, 2) := by decide +kernel
theorem dX10_putFour_12 : decode cX10_putFour 12 = .ok (.iushr, 1) := by decide +kernel
theorem dX10_putFour_13 : decode cX10_putFour 13 = .ok (.invokevirtual 29, 3) := by decide +kernel
theorem dX10_putFour_16 : decode cX10_putFour 16 = .ok (.aload_n 0, 1) := by decide +kernel
theorem dX10_putFour_17 : decode cX10_putFour 17 = .ok (.iload_n 1, 1) := by decide +kernel
theorem dX10_putFour_18 : decode cX10_putFour 18 = .ok (.bipush 8, 2) := by decide +kernel
theorem dX10_putFour_20 : decode cX10_putFour 20 = .ok (.iushr, 1) := by decide +kernel
theorem dX10_putFour_21 : decode cX10_putFour 21 = .ok (.invokevirtual 29, 3) := by decide +kernel
theorem dX10_putFour_24 : decode cX10_putFour 24 = .ok (.aload_n 0, 1) := by decide +kernel
theorem dX10_putFour_25 : decode cX10_putFour 25 = .ok (.iload_n 1, 1) := by decide +kernel
theorem dX10_putFour_26 : decode cX10_putFour 26 = .ok (.invokevirtual 29, 3) := by decide +kernel
theorem dX10_putFour_29 : decode cX10_putFour 29 = .ok (.return_, 1) := by decide +kernel
theorem dX10_shorten_0 : decode cX10_shorten 0 = .ok (.iload_n 1, 1) := by decide +kernel
theorem dX10_shorten_1 : decode cX10_shorten 1 = .ok (.ifCond .lt 11, 3) := by decide +kernel
theorem dX10_shorten_4 : decode cX10_shorten 4 = .ok (.iload_n 1, 1) := by decide +kernel
theorem dX10_shorten_5 : decode cX10_shorten 5 = .ok (.aload_n 0, 1) := by decide +kernel
theorem dX10_shorten_6 : decode cX10_shorten 6 = .ok (.getfield 21, 3) := by decide +kernel
theorem dX10_shorten_9 : decode cX10_shorten 9 = .ok (.if_icmp .le 5, 3) := by decide +kernel
theorem dX10_shorten_12 : decode cX10_shorten 12 = .ok (.iconst 0, 1) := by decide +kernel
theorem dX10_shorten_13 : decode cX10_shorten 13 = .ok (.ireturn, 1) := by decide +kernel
theorem dX10_shorten_14 : decode cX10_shorten 14 = .ok (.aload_n 0, 1) := by decide +kernel
theorem dX10_shorten_15 : decode cX10_shorten 15 = .ok (.iload_n 1, 1) := by decide +kernel
theorem dX10_shorten_16 : decode cX10_shorten 16 = .ok (.putfield 21, 3) := by decide +kernel
theorem dX10_shorten_19 : decode cX10_shorten 19 = .ok (.iconst 1, 1) := by decide +kernel
theorem dX10_shorten_20 : decode cX10_shorten 20 = .ok (.ireturn, 1) := by decide +kernel
theorem w_205 : Cond.initialized RX10 ∈ tb := tbc_1 2 (by decide +kernel) rfl
theorem w_244 : Cond.fieldLink RX10 15 (TX10 0).1 (TX10 0).2.1 (TX10 0).2.2.1 ∈ tb := tbc_1 41 (by decide +kernel) rfl
theorem w_245 : Cond.fieldLink RX10 21 (TX10 1).1 (TX10 1).2.1 (TX10 1).2.2.1 ∈ tb := tbc_1 42 (by decide +kernel) rfl
theorem w_246 : Cond.fieldLink RX10 25 (TX10 2).1 (TX10 2).2.1 (TX10 2).2.2.1 ∈ tb := tbc_1 43 (by decide +kernel) rfl
theorem w_247 : u_lay RX10 TX10 0 ∈ tb := tbc_1 44 (by decide +kernel) rfl
theorem w_249 : u_lay RX10 TX10 1 ∈ tb := tbc_1 46 (by decide +kernel) rfl
theorem w_251 : u_lay RX10 TX10 2 ∈ tb := tbc_1 48 (by decide +kernel) rfl
theorem w_750 : Cond.methodLink RX10 29 yX10_put ∈ tb := tbc_3 67 (by decide +kernel) rfl
theorem w_751 : Cond.instanceMethod yX10_put ∈ tb := tbc_3 68 (by decide +kernel) rfl
theorem w_752 : Cond.selects RX10 yX10_put yX10_put ∈ tb := tbc_3 69 (by decide +kernel) rfl
theorem w_753 : Cond.code yX10_put cX10_put 2 none ∈ tb := tbc_3 70 (by decide +kernel) rfl
theorem inX10 : ∀ w ∈ u_ws RX10 TX10 3, w ∈ tb := by
  show ∀ w ∈ [u_lay RX10 TX10 0, u_lay RX10 TX10 1, u_lay RX10 TX10 2], w ∈ tb
  exact List.forall_mem_cons.mpr ⟨w_247, List.forall_mem_cons.mpr ⟨w_249, List.forall_mem_cons.mpr ⟨w_251, fun _ h => absurd h List.not_mem_nil⟩⟩⟩
section RW10
variable {p : Program} {l : Launch} {e : Env} {R : Room} {s : State} {m : MethodId} {args : Array Value} {below : List Frame} {meth : Method} {c : Code} {H : Heap} {locs : List Loc} {cells slots : Nat} {Q : State → Prop}
variable {cc : ByteArray} {pc nL : Nat} {ls : Array Slot} {rest st0 : List Value} {G : sG} {n : Nat} {S : sS}
theorem g_X10_21 (Cx : sC G p m c cc nL s args RX10) (hW : sW G n S H) {k : Nat} (hk : k < n) (ht : tau k = .inl 10) {v : Int} (hv : S.1 k 1 = v) (hdg : decode cc pc = .ok (.getfield 21, 3)) (kk : W p l e R s m args below meth c H locs cells slots Q (F0 m (pc + 3) ls (.int (iv v) :: rest))) : W p l e R s m args below meth c H locs cells slots Q (F0 m pc ls (.ref (G.2.2.1 + k) :: rest)) :=
  sGet Cx inX10 rfl 1 (by decide) w_245 hW hk ht (congrArg (fun z => Value.int (iv z)) hv) hdg kk
theorem g_X10_25 (Cx : sC G p m c cc nL s args RX10) (hW : sW G n S H) {k : Nat} (hk : k < n) (ht : tau k = .inl 10) {v : Int} (hv : S.1 k 2 = v) (hdg : decode cc pc = .ok (.getfield 25, 3)) (kk : W p l e R s m args below meth c H locs cells slots Q (F0 m (pc + 3) ls (.int (iv v) :: rest))) : W p l e R s m args below meth c H locs cells slots Q (F0 m pc ls (.ref (G.2.2.1 + k) :: rest)) :=
  sGet Cx inX10 rfl 2 (by decide) w_246 hW hk ht (congrArg (fun z => Value.int (iv z)) hv) hdg kk
theorem p_X10_21 (Cx : sC G p m c cc nL s args RX10) (hW : sW G n S H) (hL : sL G locs) {k : Nat} (hk : k < n) (ht : tau k = .inl 10) {v : Int} (hdg : decode cc pc = .ok (.putfield 21, 3)) (kk : ∀ (H1 : Heap) (locs1 : List Loc), sW G n (uF S k 1 v) H1 → sL G locs1 → W p l e R s m args below meth c H1 locs1 cells slots Q (F0 m (pc + 3) ls rest)) : W p l e R s m args below meth c H locs cells slots Q (F0 m pc ls (.int (iv v) :: .ref (G.2.2.1 + k) :: rest)) :=
  sPut Cx inX10 tyX10 tyX10_ok nmX10 rfl 1 (by decide) w_245 rfl hW hL hk ht rfl rfl (fun _ h => uF_same h) (fun _ h => uF_off h) (congrArg (fun z => Value.int (iv z)) uF_on) hdg kk
theorem p_X10_25 (Cx : sC G p m c cc nL s args RX10) (hW : sW G n S H) (hL : sL G locs) {k : Nat} (hk : k < n) (ht : tau k = .inl 10) {v : Int} (hv : v = 0 ∨ v = 1) (hdg : decode cc pc = .ok (.putfield 25, 3)) (kk : ∀ (H1 : Heap) (locs1 : List Loc), sW G n (uF S k 2 v) H1 → sL G locs1 → W p l e R s m args below meth c H1 locs1 cells slots Q (F0 m (pc + 3) ls rest)) : W p l e R s m args below meth c H locs cells slots Q (F0 m pc ls (.int (iv v) :: .ref (G.2.2.1 + k) :: rest)) :=
  sPut Cx inX10 tyX10 tyX10_ok nmX10 rfl 2 (by decide) w_246 rfl hW hL hk ht (by rcases hv with rfl | rfl <;> rfl) (by rcases hv with rfl | rfl <;> rfl) (fun _ h => uF_same h) (fun _ h => uF_off h) (congrArg (fun z => Value.int (iv z)) uF_on) hdg kk
theorem g_X10_15 (Cx : sC G p m c cc nL s args RX10) (hW : sW G n S H) {k : Nat} (hk : k < n) (ht : tau k = .inl 10) {v : Value} (hv : S.2.2.2 k 0 = v) (hdg : decode cc pc = .ok (.getfield 15, 3)) (kk : W p l e R s m args below meth c H locs cells slots Q (F0 m (pc + 3) ls (v :: rest))) : W p l e R s m args below meth c H locs cells slots Q (F0 m pc ls (.ref (G.2.2.1 + k) :: rest)) :=
  sGet Cx inX10 rfl 0 (by decide) w_244 hW hk ht hv hdg kk
theorem c_X10_29 (Cx : sC G p m c cc nL s args RX10) {rm : Room} {mc ms : Nat} (h1 : rm.cells = mc) (h2 : rm.slots = ms) (h3 : rm.frames + 1 ≤ R.frames ∧ 8 + (2 + 11) + rm.locals ≤ R.locals) : CallW R s args RX10 RX10 29 yX10_put cX10_put 2 none (.code yX10_put cX10_put 2 none :: tb) rm mc ms 1 :=
  sCw Cx 1 w_750 w_751 w_752 w_205 w_753 (by decide +kernel) h1 h2 h3
end RW10
