theorem dX12_tellPar_0 : decode cX12_tellPar 0 = .ok (.aload_n 0, 1) := by decide +kernel
theorem dX12_tellPar_1 : decode cX12_tellPar 1 = .ok (.iload_n 1, 1) := by decide +kernel
theorem dX12_tellPar_2 : decode cX12_tellPar 2 = .ok (.iconst 2, 1) := by decide +kernel
theorem dX12_tellPar_3 : decode cX12_tellPar 3 = .ok (.invokevirtual 404, 3) := by decide +kernel
theorem dX12_tellPar_6 : decode cX12_tellPar 6 = .ok (.istore_n 2, 1) := by decide +kernel
theorem dX12_tellPar_7 : decode cX12_tellPar 7 = .ok (.aload_n 0, 1) := by decide +kernel
theorem dX12_tellPar_8 : decode cX12_tellPar 8 = .ok (.getfield 270, 3) := by decide +kernel
theorem dX12_tellPar_11 : decode cX12_tellPar 11 = .ok (.ifCond .eq 4, 3) := by decide +kernel
theorem dX12_tellPar_14 : decode cX12_tellPar 14 = .ok (.return_, 1) := by decide +kernel
theorem dX12_tellPar_15 : decode cX12_tellPar 15 = .ok (.aload_n 0, 1) := by decide +kernel
theorem dX12_tellPar_16 : decode cX12_tellPar 16 = .ok (.iload_n 2, 1) := by decide +kernel
theorem dX12_tellPar_17 : decode cX12_tellPar 17 = .ok (.invokevirtual 407, 3) := by decide +kernel
theorem dX12_tellPar_20 : decode cX12_tellPar 20 = .ok (.aload_n 0, 1) := by decide +kernel
theorem dX12_tellPar_21 : decode cX12_tellPar 21 = .ok (.getfield 270, 3) := by decide +kernel
theorem dX12_tellPar_24 : decode cX12_tellPar 24 = .ok (.ifCond .eq 4, 3) := by decide +kernel
theorem dX12_tellPar_27 : decode cX12_tellPar 27 = .ok (.return_, 1) := by decide +kernel
theorem dX12_tellPar_28 : decode cX12_tellPar 28 = .ok (.aload_n 0, 1) := by decide +kernel
theorem dX12_tellPar_29 : decode cX12_tellPar 29 = .ok (.getfield 71, 3) := by decide +kernel
theorem dX12_tellPar_32 : decode cX12_tellPar 32 = .ok (.iload_n 2, 1) := by decide +kernel
theorem dX12_tellPar_33 : decode cX12_tellPar 33 = .ok (.aload_n 0, 1) := by decide +kernel
theorem dX12_tellPar_34 : decode cX12_tellPar 34 = .ok (.getfield 367, 3) := by decide +kernel
theorem dX12_tellPar_37 : decode cX12_tellPar 37 = .ok (.iastore, 1) := by decide +kernel
theorem dX12_tellPar_38 : decode cX12_tellPar 38 = .ok (.iconst 0, 1) := by decide +kernel
theorem dX12_tellPar_39 : decode cX12_tellPar 39 = .ok (.istore_n 3, 1) := by decide +kernel
theorem dX12_tellPar_40 : decode cX12_tellPar 40 = .ok (.aload_n 0, 1) := by decide +kernel
theorem dX12_tellPar_41 : decode cX12_tellPar 41 = .ok (.dup, 1) := by decide +kernel
theorem dX12_tellPar_42 : decode cX12_tellPar 42 = .ok (.getfield 315, 3) := by decide +kernel
theorem dX12_tellPar_45 : decode cX12_tellPar 45 = .ok (.iconst 1, 1) := by decide +kernel
theorem dX12_tellPar_46 : decode cX12_tellPar 46 = .ok (.iadd, 1) := by decide +kernel
theorem dX12_tellPar_47 : decode cX12_tellPar 47 = .ok (.putfield 315, 3) := by decide +kernel
theorem dX12_tellPar_50 : decode cX12_tellPar 50 = .ok (.aload_n 0, 1) := by decide +kernel
theorem dX12_tellPar_51 : decode cX12_tellPar 51 = .ok (.bipush 45, 2) := by decide +kernel
theorem dX12_tellPar_53 : decode cX12_tellPar 53 = .ok (.invokevirtual 318, 3) := by decide +kernel
theorem dX12_tellPar_56 : decode cX12_tellPar 56 = .ok (.istore 4, 2) := by decide +kernel
theorem dX12_tellPar_58 : decode cX12_tellPar 58 = .ok (.iload 4, 2) := by decide +kernel
theorem dX12_tellPar_60 : decode cX12_tellPar 60 = .ok (.ifCond .eq 13, 3) := by decide +kernel
theorem dX12_tellPar_63 : decode cX12_tellPar 63 = .ok (.aload_n 0, 1) := by decide +kernel
theorem dX12_tellPar_64 : decode cX12_tellPar 64 = .ok (.dup, 1) := by decide +kernel
theorem dX12_tellPar_65 : decode cX12_tellPar 65 = .ok (.getfield 315, 3) := by decide +kernel
theorem dX12_tellPar_68 : decode cX12_tellPar 68 = .ok (.iconst 1, 1) := by decide +kernel
theorem dX12_tellPar_69 : decode cX12_tellPar 69 = .ok (.iadd, 1) := by decide +kernel
theorem dX12_tellPar_70 : decode cX12_tellPar 70 = .ok (.putfield 315, 3) := by decide +kernel
theorem dX12_tellPar_73 : decode cX12_tellPar 73 = .ok (.aload_n 0, 1) := by decide +kernel
theorem dX12_tellPar_74 : decode cX12_tellPar 74 = .ok (.getfield 367, 3) := by decide +kernel
theorem dX12_tellPar_77 : decode cX12_tellPar 77 = .ok (.aload_n 0, 1) := by decide +kernel
theorem dX12_tellPar_78 : decode cX12_tellPar 78 = .ok (.getfield 74, 3) := by decide +kernel
theorem dX12_tellPar_81 : decode cX12_tellPar 81 = .ok (.arraylength, 1) := by decide +kernel
theorem dX12_tellPar_82 : decode cX12_tellPar 82 = .ok (.if_icmp .ge 39, 3) := by decide +kernel
theorem dX12_tellPar_85 : decode cX12_tellPar 85 = .ok (.aload_n 0, 1) := by decide +kernel
theorem dX12_tellPar_86 : decode cX12_tellPar 86 = .ok (.getfield 74, 3) := by decide +kernel
theorem dX12_tellPar_89 : decode cX12_tellPar 89 = .ok (.aload_n 0, 1) := by decide +kernel
theorem dX12_tellPar_90 : decode cX12_tellPar 90 = .ok (.getfield 367, 3) := by decide +kernel
theorem dX12_tellPar_93 : decode cX12_tellPar 93 = .ok (.iload 4, 2) := by decide +kernel
theorem dX12_tellPar_95 : decode cX12_tellPar 95 = .ok (.ifCond .eq 16, 3) := by decide +kernel
theorem dX12_tellPar_98 : decode cX12_tellPar 98 = .ok (.aload_n 0, 1) := by decide +kernel
theorem dX12_tellPar_99 : decode cX12_tellPar 99 = .ok (.getfield 56, 3) := by decide +kernel
theorem dX12_tellPar_102 : decode cX12_tellPar 102 = .ok (.aload_n 0, 1) := by decide +kernel
theorem dX12_tellPar_103 : decode cX12_tellPar 103 = .ok (.getfield 315, 3) := by decide +kernel
theorem dX12_tellPar_106 : decode cX12_tellPar 106 = .ok (.iaload, 1) := by decide +kernel
theorem dX12_tellPar_107 : decode cX12_tellPar 107 = .ok (.ineg, 1) := by decide +kernel
theorem dX12_tellPar_108 : decode cX12_tellPar 108 = .ok (.goto 12, 3) := by decide +kernel
theorem dX12_tellPar_111 : decode cX12_tellPar 111 = .ok (.aload_n 0, 1) := by decide +kernel
theorem dX12_tellPar_112 : decode cX12_tellPar 112 = .ok (.getfield 56, 3) := by decide +kernel
theorem dX12_tellPar_115 : decode cX12_tellPar 115 = .ok (.aload_n 0, 1) := by decide +kernel
theorem dX12_tellPar_116 : decode cX12_tellPar 116 = .ok (.getfield 315, 3) := by decide +kernel
theorem dX12_tellPar_119 : decode cX12_tellPar 119 = .ok (.iaload, 1) := by decide +kernel
theorem dX12_tellPar_120 : decode cX12_tellPar 120 = .ok (.iastore, 1) := by decide +kernel
theorem dX12_tellPar_121 : decode cX12_tellPar 121 = .ok (.aload_n 0, 1) := by decide +kernel
theorem dX12_tellPar_122 : decode cX12_tellPar 122 = .ok (.dup, 1) := by decide +kernel
theorem dX12_tellPar_123 : decode cX12_tellPar 123 = .ok (.getfield 367, 3) := by decide +kernel
theorem dX12_tellPar_126 : decode cX12_tellPar 126 = .ok (.iconst 1, 1) := by decide +kernel
theorem dX12_tellPar_127 : decode cX12_tellPar 127 = .ok (.iadd, 1) := by decide +kernel
theorem dX12_tellPar_128 : decode cX12_tellPar 128 = .ok (.putfield 367, 3) := by decide +kernel
theorem dX12_tellPar_131 : decode cX12_tellPar 131 = .ok (.iinc 3 1, 3) := by decide +kernel
theorem dX12_tellPar_134 : decode cX12_tellPar 134 = .ok (.aload_n 0, 1) := by decide +kernel
theorem dX12_tellPar_135 : decode cX12_tellPar 135 = .ok (.dup, 1) := by decide +kernel
theorem dX12_tellPar_136 : decode cX12_tellPar 136 = .ok (.getfield 315, 3) := by decide +kernel
theorem dX12_tellPar_139 : decode cX12_tellPar 139 = .ok (.iconst 1, 1) := by decide +kernel
theorem dX12_tellPar_140 : decode cX12_tellPar 140 = .ok (.iadd, 1) := by decide +kernel
theorem dX12_tellPar_141 : decode cX12_tellPar 141 = .ok (.putfield 315, 3) := by decide +kernel
theorem dX12_tellPar_144 : decode cX12_tellPar 144 = .ok (.aload_n 0, 1) := by decide +kernel
theorem dX12_tellPar_145 : decode cX12_tellPar 145 = .ok (.bipush 44, 2) := by decide +kernel
theorem dX12_tellPar_147 : decode cX12_tellPar 147 = .ok (.invokevirtual 318, 3) := by decide +kernel
theorem dX12_tellPar_150 : decode cX12_tellPar 150 = .ok (.ifCond .ne (-110), 3) := by decide +kernel
theorem dX12_tellPar_153 : decode cX12_tellPar 153 = .ok (.aload_n 0, 1) := by decide +kernel
theorem dX12_tellPar_154 : decode cX12_tellPar 154 = .ok (.dup, 1) := by decide +kernel
theorem dX12_tellPar_155 : decode cX12_tellPar 155 = .ok (.getfield 315, 3) := by decide +kernel
theorem dX12_tellPar_158 : decode cX12_tellPar 158 = .ok (.iconst 1, 1) := by decide +kernel
theorem dX12_tellPar_159 : decode cX12_tellPar 159 = .ok (.iadd, 1) := by decide +kernel
theorem dX12_tellPar_160 : decode cX12_tellPar 160 = .ok (.putfield 315, 3) := by decide +kernel
theorem dX12_tellPar_163 : decode cX12_tellPar 163 = .ok (.iload_n 3, 1) := by decide +kernel
theorem dX12_tellPar_164 : decode cX12_tellPar 164 = .ok (.aload_n 0, 1) := by decide +kernel
theorem dX12_tellPar_165 : decode cX12_tellPar 165 = .ok (.aload_n 0, 1) := by decide +kernel
theorem dX12_tellPar_166 : decode cX12_tellPar 166 = .ok (.getfield 65, 3) := by decide +kernel
theorem dX12_tellPar_169 : decode cX12_tellPar 169 = .ok (.iload_n 2, 1) := by decide +kernel
theorem dX12_tellPar_170 : decode cX12_tellPar 170 = .ok (.iaload, 1) := by decide +kernel
theorem dX12_tellPar_171 : decode cX12_tellPar 171 = .ok (.invokevirtual 410, 3) := by decide +kernel
theorem dX12_tellPar_174 : decode cX12_tellPar 174 = .ok (.aload_n 0, 1) := by decide +kernel
theorem dX12_tellPar_175 : decode cX12_tellPar 175 = .ok (.aload_n 0, 1) := by decide +kernel
theorem dX12_tellPar_176 : decode cX12_tellPar 176 = .ok (.getfield 68, 3) := by decide +kernel
theorem dX12_tellPar_179 : decode cX12_tellPar 179 = .ok (.iload_n 2, 1) := by decide +kernel
theorem dX12_tellPar_180 : decode cX12_tellPar 180 = .ok (.iaload, 1) := by decide +kernel
theorem dX12_tellPar_181 : decode cX12_tellPar 181 = .ok (.invokevirtual 410, 3) := by decide +kernel
theorem dX12_tellPar_184 : decode cX12_tellPar 184 = .ok (.imul, 1) := by decide +kernel
theorem dX12_tellPar_185 : decode cX12_tellPar 185 = .ok (.if_icmp .eq 9, 3) := by decide +kernel
theorem dX12_tellPar_188 : decode cX12_tellPar 188 = .ok (.aload_n 0, 1) := by decide +kernel
theorem dX12_tellPar_189 : decode cX12_tellPar 189 = .ok (.iconst 3, 1) := by decide +kernel
theorem dX12_tellPar_190 : decode cX12_tellPar 190 = .ok (.iload_n 1, 1) := by decide +kernel
theorem dX12_tellPar_191 : decode cX12_tellPar 191 = .ok (.invokevirtual 321, 3) := by decide +kernel
theorem dX12_tellPar_194 : decode cX12_tellPar 194 = .ok (.aload_n 0, 1) := by decide +kernel
theorem dX12_tellPar_195 : decode cX12_tellPar 195 = .ok (.dup, 1) := by decide +kernel
theorem dX12_tellPar_196 : decode cX12_tellPar 196 = .ok (.getfield 373, 3) := by decide +kernel
theorem dX12_tellPar_199 : decode cX12_tellPar 199 = .ok (.iconst 1, 1) := by decide +kernel
theorem dX12_tellPar_200 : decode cX12_tellPar 200 = .ok (.iadd, 1) := by decide +kernel
theorem dX12_tellPar_201 : decode cX12_tellPar 201 = .ok (.putfield 373, 3) := by decide +kernel
theorem dX12_tellPar_204 : decode cX12_tellPar 204 = .ok (.aload_n 0, 1) := by decide +kernel
theorem dX12_tellPar_205 : decode cX12_tellPar 205 = .ok (.getfield 373, 3) := by decide +kernel
theorem dX12_tellPar_208 : decode cX12_tellPar 208 = .ok (.bipush 12, 2) := by decide +kernel
theorem dX12_tellPar_210 : decode cX12_tellPar 210 = .ok (.if_icmp .le 10, 3) := by decide +kernel
theorem dX12_tellPar_213 : decode cX12_tellPar 213 = .ok (.aload_n 0, 1) := by decide +kernel
theorem dX12_tellPar_214 : decode cX12_tellPar 214 = .ok (.bipush 7, 2) := by decide +kernel
theorem dX12_tellPar_216 : decode cX12_tellPar 216 = .ok (.iload_n 1, 1) := by decide +kernel
theorem dX12_tellPar_217 : decode cX12_tellPar 217 = .ok (.invokevirtual 321, 3) := by decide +kernel
theorem dX12_tellPar_220 : decode cX12_tellPar 220 = .ok (.return_, 1) := by decide +kernel
theorem w_1993 : Cond.fieldLink RX12 367 (TX12 32).1 (TX12 32).2.1 (TX12 32).2.2.1 ∈ tb := tbc_8 110 (by decide +kernel) rfl
theorem w_1995 : Cond.fieldLink RX12 373 (TX12 34).1 (TX12 34).2.1 (TX12 34).2.2.1 ∈ tb := tbc_8 112 (by decide +kernel) rfl
section RW869991
variable {p : Program} {l : Launch} {e : Env} {R : Room} {s : State} {m : MethodId} {args : Array Value} {below : List Frame} {meth : Method} {c : Code} {H : Heap} {locs : List Loc} {cells slots : Nat} {Q : State → Prop}
variable {cc : ByteArray} {pc nL : Nat} {ls : Array Slot} {rest st0 : List Value} {G : sG} {n : Nat} {S : sS}
theorem g_X12_367 (Cx : sC G p m c cc nL s args RX12) (hW : sW G n S H) {k : Nat} (hk : k < n) (ht : tau k = .inl 12) {v : Int} (hv : S.1 k 32 = v) (hdg : decode cc pc = .ok (.getfield 367, 3)) (kk : W p l e R s m args below meth c H locs cells slots Q (F0 m (pc + 3) ls (.int (iv v) :: rest))) : W p l e R s m args below meth c H locs cells slots Q (F0 m pc ls (.ref (G.2.2.1 + k) :: rest)) :=
  sGet Cx inX12 rfl 32 (by decide) w_1993 hW hk ht (congrArg (fun z => Value.int (iv z)) hv) hdg kk
theorem p_X12_367 (Cx : sC G p m c cc nL s args RX12) (hW : sW G n S H) (hL : sL G locs) {k : Nat} (hk : k < n) (ht : tau k = .inl 12) {v : Int} (hdg : decode cc pc = .ok (.putfield 367, 3)) (kk : ∀ (H1 : Heap) (locs1 : List Loc), sW G n (uF S k 32 v) H1 → sL G locs1 → W p l e R s m args below meth c H1 locs1 cells slots Q (F0 m (pc + 3) ls rest)) : W p l e R s m args below meth c H locs cells slots Q (F0 m pc ls (.int (iv v) :: .ref (G.2.2.1 + k) :: rest)) :=
  sPut Cx inX12 tyX12 tyX12_ok nmX12 rfl 32 (by decide) w_1993 rfl hW hL hk ht rfl rfl (fun _ h => uF_same h) (fun _ h => uF_off h) (congrArg (fun z => Value.int (iv z)) uF_on) hdg kk
theorem g_X12_373 (Cx : sC G p m c cc nL s args RX12) (hW : sW G n S H) {k : Nat} (hk : k < n) (ht : tau k = .inl 12) {v : Int} (hv : S.1 k 34 = v) (hdg : decode cc pc = .ok (.getfield 373, 3)) (kk : W p l e R s m args below meth c H locs cells slots Q (F0 m (pc + 3) ls (.int (iv v) :: rest))) : W p l e R s m args below meth c H locs cells slots Q (F0 m pc ls (.ref (G.2.2.1 + k) :: rest)) :=
  sGet Cx inX12 rfl 34 (by decide) w_1995 hW hk ht (congrArg (fun z => Value.int (iv z)) hv) hdg kk
theorem p_X12_373 (Cx : sC G p m c cc nL s args RX12) (hW : sW G n S H) (hL : sL G locs) {k : Nat} (hk : k < n) (ht : tau k = .inl 12) {v : Int} (hdg : decode cc pc = .ok (.putfield 373, 3)) (kk : ∀ (H1 : Heap) (locs1 : List Loc), sW G n (uF S k 34 v) H1 → sL G locs1 → W p l e R s m args below meth c H1 locs1 cells slots Q (F0 m (pc + 3) ls rest)) : W p l e R s m args below meth c H locs cells slots Q (F0 m pc ls (.int (iv v) :: .ref (G.2.2.1 + k) :: rest)) :=
  sPut Cx inX12 tyX12 tyX12_ok nmX12 rfl 34 (by decide) w_1995 rfl hW hL hk ht rfl rfl (fun _ h => uF_same h) (fun _ h => uF_off h) (congrArg (fun z => Value.int (iv z)) uF_on) hdg kk
end RW869991
