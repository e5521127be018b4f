theorem dX12_oneRow_0 : decode cX12_oneRow 0 = .ok (.aload_n 0, 1) := by decide +kernel
theorem dX12_oneRow_1 : decode cX12_oneRow 1 = .ok (.iconst 0, 1) := by decide +kernel
theorem dX12_oneRow_2 : decode cX12_oneRow 2 = .ok (.invokevirtual 398, 3) := by decide +kernel
theorem dX12_oneRow_5 : decode cX12_oneRow 5 = .ok (.aload_n 0, 1) := by decide +kernel
theorem dX12_oneRow_6 : decode cX12_oneRow 6 = .ok (.getfield 315, 3) := by decide +kernel
theorem dX12_oneRow_9 : decode cX12_oneRow 9 = .ok (.istore_n 2, 1) := by decide +kernel
theorem dX12_oneRow_10 : decode cX12_oneRow 10 = .ok (.aload_n 0, 1) := by decide +kernel
theorem dX12_oneRow_11 : decode cX12_oneRow 11 = .ok (.getfield 56, 3) := by decide +kernel
theorem dX12_oneRow_14 : decode cX12_oneRow 14 = .ok (.aload_n 0, 1) := by decide +kernel
theorem dX12_oneRow_15 : decode cX12_oneRow 15 = .ok (.getfield 315, 3) := by decide +kernel
theorem dX12_oneRow_18 : decode cX12_oneRow 18 = .ok (.iaload, 1) := by decide +kernel
theorem dX12_oneRow_19 : decode cX12_oneRow 19 = .ok (.istore_n 3, 1) := by decide +kernel
theorem dX12_oneRow_20 : decode cX12_oneRow 20 = .ok (.aload_n 0, 1) := by decide +kernel
theorem dX12_oneRow_21 : decode cX12_oneRow 21 = .ok (.dup, 1) := by decide +kernel
theorem dX12_oneRow_22 : decode cX12_oneRow 22 = .ok (.getfield 315, 3) := by decide +kernel
theorem dX12_oneRow_25 : decode cX12_oneRow 25 = .ok (.iconst 1, 1) := by decide +kernel
theorem dX12_oneRow_26 : decode cX12_oneRow 26 = .ok (.iadd, 1) := by decide +kernel
theorem dX12_oneRow_27 : decode cX12_oneRow 27 = .ok (.putfield 315, 3) := by decide +kernel
theorem dX12_oneRow_30 : decode cX12_oneRow 30 = .ok (.aload_n 0, 1) := by decide +kernel
theorem dX12_oneRow_31 : decode cX12_oneRow 31 = .ok (.bipush 13, 2) := by decide +kernel
theorem dX12_oneRow_33 : decode cX12_oneRow 33 = .ok (.invokevirtual 398, 3) := by decide +kernel
theorem dX12_oneRow_36 : decode cX12_oneRow 36 = .ok (.aload_n 0, 1) := by decide +kernel
theorem dX12_oneRow_37 : decode cX12_oneRow 37 = .ok (.getfield 270, 3) := by decide +kernel
theorem dX12_oneRow_40 : decode cX12_oneRow 40 = .ok (.ifCond .eq 4, 3) := by decide +kernel
theorem dX12_oneRow_43 : decode cX12_oneRow 43 = .ok (.return_, 1) := by decide +kernel
theorem dX12_oneRow_44 : decode cX12_oneRow 44 = .ok (.aload_n 0, 1) := by decide +kernel
theorem dX12_oneRow_45 : decode cX12_oneRow 45 = .ok (.dup, 1) := by decide +kernel
theorem dX12_oneRow_46 : decode cX12_oneRow 46 = .ok (.getfield 315, 3) := by decide +kernel
theorem dX12_oneRow_49 : decode cX12_oneRow 49 = .ok (.iconst 1, 1) := by decide +kernel
theorem dX12_oneRow_50 : decode cX12_oneRow 50 = .ok (.iadd, 1) := by decide +kernel
theorem dX12_oneRow_51 : decode cX12_oneRow 51 = .ok (.putfield 315, 3) := by decide +kernel
theorem dX12_oneRow_54 : decode cX12_oneRow 54 = .ok (.iconst 0, 1) := by decide +kernel
theorem dX12_oneRow_55 : decode cX12_oneRow 55 = .ok (.istore 4, 2) := by decide +kernel
theorem dX12_oneRow_57 : decode cX12_oneRow 57 = .ok (.iload 4, 2) := by decide +kernel
theorem dX12_oneRow_59 : decode cX12_oneRow 59 = .ok (.bipush 12, 2) := by decide +kernel
theorem dX12_oneRow_61 : decode cX12_oneRow 61 = .ok (.if_icmp .gt 29, 3) := by decide +kernel
theorem dX12_oneRow_64 : decode cX12_oneRow 64 = .ok (.aload_n 0, 1) := by decide +kernel
theorem dX12_oneRow_65 : decode cX12_oneRow 65 = .ok (.getfield 88, 3) := by decide +kernel
theorem dX12_oneRow_68 : decode cX12_oneRow 68 = .ok (.iload 4, 2) := by decide +kernel
theorem dX12_oneRow_70 : decode cX12_oneRow 70 = .ok (.dup2, 1) := by decide +kernel
theorem dX12_oneRow_71 : decode cX12_oneRow 71 = .ok (.laload, 1) := by decide +kernel
theorem dX12_oneRow_72 : decode cX12_oneRow 72 = .ok (.aload_n 0, 1) := by decide +kernel
theorem dX12_oneRow_73 : decode cX12_oneRow 73 = .ok (.getfield 88, 3) := by decide +kernel
theorem dX12_oneRow_76 : decode cX12_oneRow 76 = .ok (.bipush 13, 2) := by decide +kernel
theorem dX12_oneRow_78 : decode cX12_oneRow 78 = .ok (.iload 4, 2) := by decide +kernel
theorem dX12_oneRow_80 : decode cX12_oneRow 80 = .ok (.iadd, 1) := by decide +kernel
theorem dX12_oneRow_81 : decode cX12_oneRow 81 = .ok (.laload, 1) := by decide +kernel
theorem dX12_oneRow_82 : decode cX12_oneRow 82 = .ok (.lsub, 1) := by decide +kernel
theorem dX12_oneRow_83 : decode cX12_oneRow 83 = .ok (.lastore, 1) := by decide +kernel
theorem dX12_oneRow_84 : decode cX12_oneRow 84 = .ok (.iinc 4 1, 3) := by decide +kernel
theorem dX12_oneRow_87 : decode cX12_oneRow 87 = .ok (.goto (-30), 3) := by decide +kernel
theorem dX12_oneRow_90 : decode cX12_oneRow 90 = .ok (.aload_n 0, 1) := by decide +kernel
theorem dX12_oneRow_91 : decode cX12_oneRow 91 = .ok (.iconst 0, 1) := by decide +kernel
theorem dX12_oneRow_92 : decode cX12_oneRow 92 = .ok (.invokevirtual 416, 3) := by decide +kernel
theorem dX12_oneRow_95 : decode cX12_oneRow 95 = .ok (.ifCond .eq 10, 3) := by decide +kernel
theorem dX12_oneRow_98 : decode cX12_oneRow 98 = .ok (.aload_n 0, 1) := by decide +kernel
theorem dX12_oneRow_99 : decode cX12_oneRow 99 = .ok (.bipush 6, 2) := by decide +kernel
theorem dX12_oneRow_101 : decode cX12_oneRow 101 = .ok (.iload_n 2, 1) := by decide +kernel
theorem dX12_oneRow_102 : decode cX12_oneRow 102 = .ok (.invokevirtual 321, 3) := by decide +kernel
theorem dX12_oneRow_105 : decode cX12_oneRow 105 = .ok (.aload_n 0, 1) := by decide +kernel
theorem dX12_oneRow_106 : decode cX12_oneRow 106 = .ok (.getfield 382, 3) := by decide +kernel
theorem dX12_oneRow_109 : decode cX12_oneRow 109 = .ok (.iload_n 3, 1) := by decide +kernel
theorem dX12_oneRow_110 : decode cX12_oneRow 110 = .ok (.bipush 61, 2) := by decide +kernel
theorem dX12_oneRow_112 : decode cX12_oneRow 112 = .ok (.if_icmp .ne 7, 3) := by decide +kernel
theorem dX12_oneRow_115 : decode cX12_oneRow 115 = .ok (.iconst 2, 1) := by decide +kernel
theorem dX12_oneRow_116 : decode cX12_oneRow 116 = .ok (.goto 4, 3) := by decide +kernel
theorem dX12_oneRow_119 : decode cX12_oneRow 119 = .ok (.iconst 1, 1) := by decide +kernel
theorem dX12_oneRow_120 : decode cX12_oneRow 120 = .ok (.iadd, 1) := by decide +kernel
theorem dX12_oneRow_121 : decode cX12_oneRow 121 = .ok (.bipush 16, 2) := by decide +kernel
theorem dX12_oneRow_123 : decode cX12_oneRow 123 = .ok (.if_icmp .le 10, 3) := by decide +kernel
theorem dX12_oneRow_126 : decode cX12_oneRow 126 = .ok (.aload_n 0, 1) := by decide +kernel
theorem dX12_oneRow_127 : decode cX12_oneRow 127 = .ok (.bipush 7, 2) := by decide +kernel
theorem dX12_oneRow_129 : decode cX12_oneRow 129 = .ok (.iload_n 1, 1) := by decide +kernel
theorem dX12_oneRow_130 : decode cX12_oneRow 130 = .ok (.invokevirtual 321, 3) := by decide +kernel
theorem dX12_oneRow_133 : decode cX12_oneRow 133 = .ok (.aload_n 0, 1) := by decide +kernel
theorem dX12_oneRow_134 : decode cX12_oneRow 134 = .ok (.getfield 270, 3) := by decide +kernel
theorem dX12_oneRow_137 : decode cX12_oneRow 137 = .ok (.ifCond .eq 4, 3) := by decide +kernel
theorem dX12_oneRow_140 : decode cX12_oneRow 140 = .ok (.return_, 1) := by decide +kernel
theorem dX12_oneRow_141 : decode cX12_oneRow 141 = .ok (.iconst 0, 1) := by decide +kernel
theorem dX12_oneRow_142 : decode cX12_oneRow 142 = .ok (.istore 4, 2) := by decide +kernel
theorem dX12_oneRow_144 : decode cX12_oneRow 144 = .ok (.iload 4, 2) := by decide +kernel
theorem dX12_oneRow_146 : decode cX12_oneRow 146 = .ok (.iload_n 3, 1) := by decide +kernel
theorem dX12_oneRow_147 : decode cX12_oneRow 147 = .ok (.bipush 61, 2) := by decide +kernel
theorem dX12_oneRow_149 : decode cX12_oneRow 149 = .ok (.if_icmp .ne 7, 3) := by decide +kernel
theorem dX12_oneRow_152 : decode cX12_oneRow 152 = .ok (.iconst 2, 1) := by decide +kernel
theorem dX12_oneRow_153 : decode cX12_oneRow 153 = .ok (.goto 4, 3) := by decide +kernel
theorem dX12_oneRow_156 : decode cX12_oneRow 156 = .ok (.iconst 1, 1) := by decide +kernel
theorem dX12_oneRow_157 : decode cX12_oneRow 157 = .ok (.if_icmp .ge 123, 3) := by decide +kernel
theorem dX12_oneRow_160 : decode cX12_oneRow 160 = .ok (.iload_n 3, 1) := by decide +kernel
theorem dX12_oneRow_161 : decode cX12_oneRow 161 = .ok (.iconst 3, 1) := by decide +kernel
theorem dX12_oneRow_162 : decode cX12_oneRow 162 = .ok (.if_icmp .eq 9, 3) := by decide +kernel
theorem dX12_oneRow_165 : decode cX12_oneRow 165 = .ok (.iload 4, 2) := by decide +kernel
theorem dX12_oneRow_167 : decode cX12_oneRow 167 = .ok (.iconst 1, 1) := by decide +kernel
theorem dX12_oneRow_168 : decode cX12_oneRow 168 = .ok (.if_icmp .ne 7, 3) := by decide +kernel
theorem dX12_oneRow_171 : decode cX12_oneRow 171 = .ok (.iconst 1, 1) := by decide +kernel
theorem dX12_oneRow_172 : decode cX12_oneRow 172 = .ok (.goto 4, 3) := by decide +kernel
theorem dX12_oneRow_175 : decode cX12_oneRow 175 = .ok (.iconst 0, 1) := by decide +kernel
theorem dX12_oneRow_176 : decode cX12_oneRow 176 = .ok (.istore 5, 2) := by decide +kernel
theorem dX12_oneRow_178 : decode cX12_oneRow 178 = .ok (.aload_n 0, 1) := by decide +kernel
theorem dX12_oneRow_179 : decode cX12_oneRow 179 = .ok (.dup, 1) := by decide +kernel
theorem dX12_oneRow_180 : decode cX12_oneRow 180 = .ok (.getfield 382, 3) := by decide +kernel
theorem dX12_oneRow_183 : decode cX12_oneRow 183 = .ok (.iconst 1, 1) := by decide +kernel
theorem dX12_oneRow_184 : decode cX12_oneRow 184 = .ok (.iadd, 1) := by decide +kernel
theorem dX12_oneRow_185 : decode cX12_oneRow 185 = .ok (.putfield 382, 3) := by decide +kernel
theorem dX12_oneRow_188 : decode cX12_oneRow 188 = .ok (.bipush 13, 2) := by decide +kernel
theorem dX12_oneRow_190 : decode cX12_oneRow 190 = .ok (.aload_n 0, 1) := by decide +kernel
theorem dX12_oneRow_191 : decode cX12_oneRow 191 = .ok (.getfield 382, 3) := by decide +kernel
theorem dX12_oneRow_194 : decode cX12_oneRow 194 = .ok (.imul, 1) := by decide +kernel
theorem dX12_oneRow_195 : decode cX12_oneRow 195 = .ok (.istore 6, 2) := by decide +kernel
theorem dX12_oneRow_197 : decode cX12_oneRow 197 = .ok (.aload_n 0, 1) := by decide +kernel
theorem dX12_oneRow_198 : decode cX12_oneRow 198 = .ok (.getfield 81, 3) := by decide +kernel
theorem dX12_oneRow_201 : decode cX12_oneRow 201 = .ok (.iload 6, 2) := by decide +kernel
theorem dX12_oneRow_203 : decode cX12_oneRow 203 = .ok (.iload 5, 2) := by decide +kernel
theorem dX12_oneRow_205 : decode cX12_oneRow 205 = .ok (.ifCond .eq 12, 3) := by decide +kernel
theorem dX12_oneRow_208 : decode cX12_oneRow 208 = .ok (.aload_n 0, 1) := by decide +kernel
theorem dX12_oneRow_209 : decode cX12_oneRow 209 = .ok (.getfield 88, 3) := by decide +kernel
theorem dX12_oneRow_212 : decode cX12_oneRow 212 = .ok (.iconst 0, 1) := by decide +kernel
theorem dX12_oneRow_213 : decode cX12_oneRow 213 = .ok (.laload, 1) := by decide +kernel
theorem dX12_oneRow_214 : decode cX12_oneRow 214 = .ok (.goto 10, 3) := by decide +kernel
theorem dX12_oneRow_217 : decode cX12_oneRow 217 = .ok (.aload_n 0, 1) := by decide +kernel
theorem dX12_oneRow_218 : decode cX12_oneRow 218 = .ok (.getfield 88, 3) := by decide +kernel
theorem dX12_oneRow_221 : decode cX12_oneRow 221 = .ok (.iconst 0, 1) := by decide +kernel
theorem dX12_oneRow_222 : decode cX12_oneRow 222 = .ok (.laload, 1) := by decide +kernel
theorem dX12_oneRow_223 : decode cX12_oneRow 223 = .ok (.lneg, 1) := by decide +kernel
theorem dX12_oneRow_224 : decode cX12_oneRow 224 = .ok (.lastore, 1) := by decide +kernel
theorem dX12_oneRow_225 : decode cX12_oneRow 225 = .ok (.iconst 1, 1) := by decide +kernel
theorem dX12_oneRow_226 : decode cX12_oneRow 226 = .ok (.istore 7, 2) := by decide +kernel
theorem dX12_oneRow_228 : decode cX12_oneRow 228 = .ok (.iload 7, 2) := by decide +kernel
theorem dX12_oneRow_230 : decode cX12_oneRow 230 = .ok (.bipush 12, 2) := by decide +kernel
theorem dX12_oneRow_232 : decode cX12_oneRow 232 = .ok (.if_icmp .gt 42, 3) := by decide +kernel
theorem dX12_oneRow_235 : decode cX12_oneRow 235 = .ok (.aload_n 0, 1) := by decide +kernel
theorem dX12_oneRow_236 : decode cX12_oneRow 236 = .ok (.getfield 81, 3) := by decide +kernel
theorem dX12_oneRow_239 : decode cX12_oneRow 239 = .ok (.iload 6, 2) := by decide +kernel
theorem dX12_oneRow_241 : decode cX12_oneRow 241 = .ok (.iload 7, 2) := by decide +kernel
theorem dX12_oneRow_243 : decode cX12_oneRow 243 = .ok (.iadd, 1) := by decide +kernel
theorem dX12_oneRow_244 : decode cX12_oneRow 244 = .ok (.iload 5, 2) := by decide +kernel
theorem dX12_oneRow_246 : decode cX12_oneRow 246 = .ok (.ifCond .eq 14, 3) := by decide +kernel
theorem dX12_oneRow_249 : decode cX12_oneRow 249 = .ok (.aload_n 0, 1) := by decide +kernel
theorem dX12_oneRow_250 : decode cX12_oneRow 250 = .ok (.getfield 88, 3) := by decide +kernel
theorem dX12_oneRow_253 : decode cX12_oneRow 253 = .ok (.iload 7, 2) := by decide +kernel
theorem dX12_oneRow_255 : decode cX12_oneRow 255 = .ok (.laload, 1) := by decide +kernel
theorem dX12_oneRow_256 : decode cX12_oneRow 256 = .ok (.lneg, 1) := by decide +kernel
theorem dX12_oneRow_257 : decode cX12_oneRow 257 = .ok (.goto 10, 3) := by decide +kernel
theorem dX12_oneRow_260 : decode cX12_oneRow 260 = .ok (.aload_n 0, 1) := by decide +kernel
theorem dX12_oneRow_261 : decode cX12_oneRow 261 = .ok (.getfield 88, 3) := by decide +kernel
theorem dX12_oneRow_264 : decode cX12_oneRow 264 = .ok (.iload 7, 2) := by decide +kernel
theorem dX12_oneRow_266 : decode cX12_oneRow 266 = .ok (.laload, 1) := by decide +kernel
theorem dX12_oneRow_267 : decode cX12_oneRow 267 = .ok (.lastore, 1) := by decide +kernel
theorem dX12_oneRow_268 : decode cX12_oneRow 268 = .ok (.iinc 7 1, 3) := by decide +kernel
theorem dX12_oneRow_271 : decode cX12_oneRow 271 = .ok (.goto (-43), 3) := by decide +kernel
theorem dX12_oneRow_274 : decode cX12_oneRow 274 = .ok (.iinc 4 1, 3) := by decide +kernel
theorem dX12_oneRow_277 : decode cX12_oneRow 277 = .ok (.goto (-133), 3) := by decide +kernel
theorem dX12_oneRow_280 : decode cX12_oneRow 280 = .ok (.return_, 1) := by decide +kernel
theorem w_1997 : Cond.fieldLink RX12 382 (TX12 36).1 (TX12 36).2.1 (TX12 36).2.2.1 ∈ tb := tbc_8 114 (by decide +kernel) rfl
theorem w_1999 : Cond.fieldLink RX12 81 (TX12 38).1 (TX12 38).2.1 (TX12 38).2.2.1 ∈ tb := tbc_8 116 (by decide +kernel) rfl
section RW77
variable {p : Program} {l : Launch} {e : Env} {R : Room} {s : State} {m : MethodId} {args : Array Value} {below : List Frame} {meth : Method} {c : Code} {H : Heap} {locs : List Loc} {cells slots : Nat} {Q : State → Prop}
variable {cc : ByteArray} {pc nL : Nat} {ls : Array Slot} {rest st0 : List Value} {G : sG} {n : Nat} {S : sS}
theorem g_X12_382 (Cx : sC G p m c cc nL s args RX12) (hW : sW G n S H) {k : Nat} (hk : k < n) (ht : tau k = .inl 12) {v : Int} (hv : S.1 k 36 = v) (hdg : decode cc pc = .ok (.getfield 382, 3)) (kk : W p l e R s m args below meth c H locs cells slots Q (F0 m (pc + 3) ls (.int (iv v) :: rest))) : W p l e R s m args below meth c H locs cells slots Q (F0 m pc ls (.ref (G.2.2.1 + k) :: rest)) :=
  sGet Cx inX12 rfl 36 (by decide) w_1997 hW hk ht (congrArg (fun z => Value.int (iv z)) hv) hdg kk
theorem p_X12_382 (Cx : sC G p m c cc nL s args RX12) (hW : sW G n S H) (hL : sL G locs) {k : Nat} (hk : k < n) (ht : tau k = .inl 12) {v : Int} (hdg : decode cc pc = .ok (.putfield 382, 3)) (kk : ∀ (H1 : Heap) (locs1 : List Loc), sW G n (uF S k 36 v) H1 → sL G locs1 → W p l e R s m args below meth c H1 locs1 cells slots Q (F0 m (pc + 3) ls rest)) : W p l e R s m args below meth c H locs cells slots Q (F0 m pc ls (.int (iv v) :: .ref (G.2.2.1 + k) :: rest)) :=
  sPut Cx inX12 tyX12 tyX12_ok nmX12 rfl 36 (by decide) w_1997 rfl hW hL hk ht rfl rfl (fun _ h => uF_same h) (fun _ h => uF_off h) (congrArg (fun z => Value.int (iv z)) uF_on) hdg kk
theorem g_X12_81 (Cx : sC G p m c cc nL s args RX12) (hW : sW G n S H) {k : Nat} (hk : k < n) (ht : tau k = .inl 12) {v : Value} (hv : S.2.2.2 k 38 = v) (hdg : decode cc pc = .ok (.getfield 81, 3)) (kk : W p l e R s m args below meth c H locs cells slots Q (F0 m (pc + 3) ls (v :: rest))) : W p l e R s m args below meth c H locs cells slots Q (F0 m pc ls (.ref (G.2.2.1 + k) :: rest)) :=
  sGet Cx inX12 rfl 38 (by decide) w_1999 hW hk ht hv hdg kk
end RW77
