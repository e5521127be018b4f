set_option maxRecDepth 100000 in
set_option maxHeartbeats 4000000 in
theorem c_Model (l : Launch) (G : sG) (S : sS)   : Met l yX12_init (.code yX12_init cX12_init 1 none :: tb) (rmk 1 62 509401) (sPc G 232 S [.ref (G.2.2.1 + 231)]) (sQv G 294 (fun u => u = (sR (sR (sR (sR (sR (sR (sR (sR (sR (sR (sR (sR (sR (sR (sR (sR (sR (sR (sR (sR (sR (sR (sR (sR (sR (sR (sR (sR (sR (sR (sR (sR (sR (sR (sR (sR (sR (sR (sR (sR (sR (sR (sR (sR (sR (sR (sR (sR (sR (sR (sR (sR (sR (sR (sR (sR (sR (sR (sR (sR (sR (sR S 231 0 (.ref (G.2.2.1 + 232))) 231 2 (.ref (G.2.2.1 + 233))) 231 3 (.ref (G.2.2.1 + 234))) 231 4 (.ref (G.2.2.1 + 235))) 231 5 (.ref (G.2.2.1 + 236))) 231 7 (.ref (G.2.2.1 + 237))) 231 8 (.ref (G.2.2.1 + 238))) 231 9 (.ref (G.2.2.1 + 239))) 231 10 (.ref (G.2.2.1 + 240))) 231 11 (.ref (G.2.2.1 + 241))) 231 12 (.ref (G.2.2.1 + 242))) 231 13 (.ref (G.2.2.1 + 243))) 231 15 (.ref (G.2.2.1 + 244))) 231 16 (.ref (G.2.2.1 + 245))) 231 17 (.ref (G.2.2.1 + 246))) 231 18 (.ref (G.2.2.1 + 247))) 231 26 (.ref (G.2.2.1 + 248))) 231 27 (.ref (G.2.2.1 + 249))) 231 28 (.ref (G.2.2.1 + 250))) 231 29 (.ref (G.2.2.1 + 251))) 231 30 (.ref (G.2.2.1 + 252))) 231 31 (.ref (G.2.2.1 + 253))) 231 37 (.ref (G.2.2.1 + 254))) 231 38 (.ref (G.2.2.1 + 255))) 231 39 (.ref (G.2.2.1 + 256))) 231 41 (.ref (G.2.2.1 + 257))) 231 44 (.ref (G.2.2.1 + 258))) 231 50 (.ref (G.2.2.1 + 259))) 231 51 (.ref (G.2.2.1 + 260))) 231 52 (.ref (G.2.2.1 + 261))) 231 53 (.ref (G.2.2.1 + 262))) 231 54 (.ref (G.2.2.1 + 263))) 231 55 (.ref (G.2.2.1 + 264))) 231 56 (.ref (G.2.2.1 + 265))) 231 57 (.ref (G.2.2.1 + 266))) 231 73 (.ref (G.2.2.1 + 267))) 231 74 (.ref (G.2.2.1 + 268))) 231 75 (.ref (G.2.2.1 + 269))) 231 76 (.ref (G.2.2.1 + 270))) 231 77 (.ref (G.2.2.1 + 271))) 231 80 (.ref (G.2.2.1 + 272))) 231 81 (.ref (G.2.2.1 + 273))) 231 82 (.ref (G.2.2.1 + 274))) 231 83 (.ref (G.2.2.1 + 275))) 231 85 (.ref (G.2.2.1 + 276))) 231 87 (.ref (G.2.2.1 + 277))) 231 88 (.ref (G.2.2.1 + 278))) 231 89 (.ref (G.2.2.1 + 279))) 231 90 (.ref (G.2.2.1 + 280))) 231 91 (.ref (G.2.2.1 + 281))) 231 92 (.ref (G.2.2.1 + 282))) 231 93 (.ref (G.2.2.1 + 283))) 231 94 (.ref (G.2.2.1 + 284))) 231 95 (.ref (G.2.2.1 + 285))) 231 96 (.ref (G.2.2.1 + 286))) 231 97 (.ref (G.2.2.1 + 287))) 231 98 (.ref (G.2.2.1 + 288))) 231 99 (.ref (G.2.2.1 + 289))) 231 101 (.ref (G.2.2.1 + 290))) 231 102 (.ref (G.2.2.1 + 291))) 231 103 (.ref (G.2.2.1 + 292))) 231 104 (.ref (G.2.2.1 + 293))))) 62 509401 (sF G) := by
  refine sEnter (by decide) (Nat.le_of_ble_eq_true rfl) ?_
  intro p e s m args below meth c Cx hr hlk hnm hW ls hl
  have Cx : sC G p m c cX12_init 1 s args RX12 := Cx
  obtain ⟨hx, hb, hml, hown, hts⟩ := id Cx.1
  have hL : sL G [] := sL_nil
  have hl : lv_has ls 1 [(0, .ref (G.2.2.1 + 231))] := hl
  refine lv_aload_n hx hb dX12_init_0 rfl (lv_at hl 0 rfl) ?_
  refine W.objInit hx hb hown (hts _ w_1957) (hts _ w_233) (hts _ w_234) rfl (by rw [hml]; exact hl.1) rfl dX12_init_1 (Nat.le_of_ble_eq_true rfl) (Nat.le_of_ble_eq_true rfl) ?_
  refine W.eq (g2 := F0 m 4 ls []) rfl ?_
  refine lv_aload_n hx hb dX12_init_4 rfl (lv_at hl 0 rfl) ?_
  refine lv_sipush (v := 30000) hx hb dX12_init_5 (by decide) ?_
  refine sNewa (atype := .byte) (ty := .byte) Cx (N := 30000) rfl 2 rfl (fun U h => h) w_254 hW rfl rfl (by decide) rfl (Nat.le_of_ble_eq_true rfl) (Nat.le_of_ble_eq_true rfl) (Nat.le_of_ble_eq_true rfl) dX12_init_8 (fun H hW => ?_)
  refine p_X12_9 Cx hnm hW hL (k := 231) (by decide) rfl dX12_init_10 (fun H locs hW hL => ?_)
  refine lv_aload_n hx hb dX12_init_13 rfl (lv_at hl 0 rfl) ?_
  refine lv_bipush (v := 66) hx hb dX12_init_14 (by decide) ?_
  refine sNewa (atype := .int) (ty := .int) Cx (N := 66) rfl 0 rfl (fun U h => h) w_294 hW rfl rfl (by decide) rfl (Nat.le_of_ble_eq_true rfl) (Nat.le_of_ble_eq_true rfl) (Nat.le_of_ble_eq_true rfl) dX12_init_16 (fun H hW => ?_)
  refine p_X12_13 Cx hnm hW hL (k := 231) (by decide) rfl dX12_init_18 (fun H locs hW hL => ?_)
  refine lv_aload_n hx hb dX12_init_21 rfl (lv_at hl 0 rfl) ?_
  refine lv_bipush (v := 66) hx hb dX12_init_22 (by decide) ?_
  refine sNewa (atype := .int) (ty := .int) Cx (N := 66) rfl 0 rfl (fun U h => h) w_294 hW rfl rfl (by decide) rfl (Nat.le_of_ble_eq_true rfl) (Nat.le_of_ble_eq_true rfl) (Nat.le_of_ble_eq_true rfl) dX12_init_24 (fun H hW => ?_)
  refine p_X12_17 Cx hnm hW hL (k := 231) (by decide) rfl dX12_init_26 (fun H locs hW hL => ?_)
  refine lv_aload_n hx hb dX12_init_29 rfl (lv_at hl 0 rfl) ?_
  refine lv_iconst (v := 4) hx hb dX12_init_30 (by decide) ?_
  refine sNewa (atype := .int) (ty := .int) Cx (N := 4) rfl 0 rfl (fun U h => h) w_294 hW rfl rfl (by decide) rfl (Nat.le_of_ble_eq_true rfl) (Nat.le_of_ble_eq_true rfl) (Nat.le_of_ble_eq_true rfl) dX12_init_31 (fun H hW => ?_)
  refine p_X12_20 Cx hnm hW hL (k := 231) (by decide) rfl dX12_init_33 (fun H locs hW hL => ?_)
  refine lv_aload_n hx hb dX12_init_36 rfl (lv_at hl 0 rfl) ?_
  refine lv_sipush (v := 576) hx hb dX12_init_37 (by decide) ?_
  refine sNewa (atype := .byte) (ty := .byte) Cx (N := 576) rfl 2 rfl (fun U h => h) w_254 hW rfl rfl (by decide) rfl (Nat.le_of_ble_eq_true rfl) (Nat.le_of_ble_eq_true rfl) (Nat.le_of_ble_eq_true rfl) dX12_init_40 (fun H hW => ?_)
  refine p_X12_23 Cx hnm hW hL (k := 231) (by decide) rfl dX12_init_42 (fun H locs hW hL => ?_)
  refine lv_aload_n hx hb dX12_init_45 rfl (lv_at hl 0 rfl) ?_
  refine lv_bipush (v := 68) hx hb dX12_init_46 (by decide) ?_
  refine sNewa (atype := .int) (ty := .int) Cx (N := 68) rfl 0 rfl (fun U h => h) w_294 hW rfl rfl (by decide) rfl (Nat.le_of_ble_eq_true rfl) (Nat.le_of_ble_eq_true rfl) (Nat.le_of_ble_eq_true rfl) dX12_init_48 (fun H hW => ?_)
  refine p_X12_26 Cx hnm hW hL (k := 231) (by decide) rfl dX12_init_50 (fun H locs hW hL => ?_)
  refine lv_aload_n hx hb dX12_init_53 rfl (lv_at hl 0 rfl) ?_
  refine lv_bipush (v := 68) hx hb dX12_init_54 (by decide) ?_
  refine sNewa (atype := .int) (ty := .int) Cx (N := 68) rfl 0 rfl (fun U h => h) w_294 hW rfl rfl (by decide) rfl (Nat.le_of_ble_eq_true rfl) (Nat.le_of_ble_eq_true rfl) (Nat.le_of_ble_eq_true rfl) dX12_init_56 (fun H hW => ?_)
  refine p_X12_29 Cx hnm hW hL (k := 231) (by decide) rfl dX12_init_58 (fun H locs hW hL => ?_)
  refine lv_aload_n hx hb dX12_init_61 rfl (lv_at hl 0 rfl) ?_
  refine lv_bipush (v := 68) hx hb dX12_init_62 (by decide) ?_
  refine sNewa (atype := .int) (ty := .int) Cx (N := 68) rfl 0 rfl (fun U h => h) w_294 hW rfl rfl (by decide) rfl (Nat.le_of_ble_eq_true rfl) (Nat.le_of_ble_eq_true rfl) (Nat.le_of_ble_eq_true rfl) dX12_init_64 (fun H hW => ?_)
  refine p_X12_32 Cx hnm hW hL (k := 231) (by decide) rfl dX12_init_66 (fun H locs hW hL => ?_)
  refine lv_aload_n hx hb dX12_init_69 rfl (lv_at hl 0 rfl) ?_
  refine lv_bipush (v := 68) hx hb dX12_init_70 (by decide) ?_
  refine sNewa (atype := .int) (ty := .int) Cx (N := 68) rfl 0 rfl (fun U h => h) w_294 hW rfl rfl (by decide) rfl (Nat.le_of_ble_eq_true rfl) (Nat.le_of_ble_eq_true rfl) (Nat.le_of_ble_eq_true rfl) dX12_init_72 (fun H hW => ?_)
  refine p_X12_35 Cx hnm hW hL (k := 231) (by decide) rfl dX12_init_74 (fun H locs hW hL => ?_)
  refine lv_aload_n hx hb dX12_init_77 rfl (lv_at hl 0 rfl) ?_
  refine lv_bipush (v := 68) hx hb dX12_init_78 (by decide) ?_
  refine sNewa (atype := .int) (ty := .int) Cx (N := 68) rfl 0 rfl (fun U h => h) w_294 hW rfl rfl (by decide) rfl (Nat.le_of_ble_eq_true rfl) (Nat.le_of_ble_eq_true rfl) (Nat.le_of_ble_eq_true rfl) dX12_init_80 (fun H hW => ?_)
  refine p_X12_38 Cx hnm hW hL (k := 231) (by decide) rfl dX12_init_82 (fun H locs hW hL => ?_)
  refine lv_aload_n hx hb dX12_init_85 rfl (lv_at hl 0 rfl) ?_
  refine lv_bipush (v := 68) hx hb dX12_init_86 (by decide) ?_
  refine sNewa (atype := .int) (ty := .int) Cx (N := 68) rfl 0 rfl (fun U h => h) w_294 hW rfl rfl (by decide) rfl (Nat.le_of_ble_eq_true rfl) (Nat.le_of_ble_eq_true rfl) (Nat.le_of_ble_eq_true rfl) dX12_init_88 (fun H hW => ?_)
  refine p_X12_41 Cx hnm hW hL (k := 231) (by decide) rfl dX12_init_90 (fun H locs hW hL => ?_)
  refine lv_aload_n hx hb dX12_init_93 rfl (lv_at hl 0 rfl) ?_
  refine lv_sipush (v := 30000) hx hb dX12_init_94 (by decide) ?_
  refine sNewa (atype := .byte) (ty := .byte) Cx (N := 30000) rfl 2 rfl (fun U h => h) w_254 hW rfl rfl (by decide) rfl (Nat.le_of_ble_eq_true rfl) (Nat.le_of_ble_eq_true rfl) (Nat.le_of_ble_eq_true rfl) dX12_init_97 (fun H hW => ?_)
  refine p_X12_44 Cx hnm hW hL (k := 231) (by decide) rfl dX12_init_99 (fun H locs hW hL => ?_)
  refine lv_aload_n hx hb dX12_init_102 rfl (lv_at hl 0 rfl) ?_
  refine lv_sipush (v := 30004) hx hb dX12_init_103 (by decide) ?_
  refine sNewa (atype := .int) (ty := .int) Cx (N := 30004) rfl 0 rfl (fun U h => h) w_294 hW rfl rfl (by decide) rfl (Nat.le_of_ble_eq_true rfl) (Nat.le_of_ble_eq_true rfl) (Nat.le_of_ble_eq_true rfl) dX12_init_106 (fun H hW => ?_)
  refine p_X12_47 Cx hnm hW hL (k := 231) (by decide) rfl dX12_init_108 (fun H locs hW hL => ?_)
  refine lv_aload_n hx hb dX12_init_111 rfl (lv_at hl 0 rfl) ?_
  refine lv_sipush (v := 30004) hx hb dX12_init_112 (by decide) ?_
  refine sNewa (atype := .int) (ty := .int) Cx (N := 30004) rfl 0 rfl (fun U h => h) w_294 hW rfl rfl (by decide) rfl (Nat.le_of_ble_eq_true rfl) (Nat.le_of_ble_eq_true rfl) (Nat.le_of_ble_eq_true rfl) dX12_init_115 (fun H hW => ?_)
  refine p_X12_50 Cx hnm hW hL (k := 231) (by decide) rfl dX12_init_117 (fun H locs hW hL => ?_)
  refine lv_aload_n hx hb dX12_init_120 rfl (lv_at hl 0 rfl) ?_
  refine lv_sipush (v := 30004) hx hb dX12_init_121 (by decide) ?_
  refine sNewa (atype := .int) (ty := .int) Cx (N := 30004) rfl 0 rfl (fun U h => h) w_294 hW rfl rfl (by decide) rfl (Nat.le_of_ble_eq_true rfl) (Nat.le_of_ble_eq_true rfl) (Nat.le_of_ble_eq_true rfl) dX12_init_124 (fun H hW => ?_)
  refine p_X12_53 Cx hnm hW hL (k := 231) (by decide) rfl dX12_init_126 (fun H locs hW hL => ?_)
  refine lv_aload_n hx hb dX12_init_129 rfl (lv_at hl 0 rfl) ?_
  refine lv_sipush (v := 30004) hx hb dX12_init_130 (by decide) ?_
  refine sNewa (atype := .int) (ty := .int) Cx (N := 30004) rfl 0 rfl (fun U h => h) w_294 hW rfl rfl (by decide) rfl (Nat.le_of_ble_eq_true rfl) (Nat.le_of_ble_eq_true rfl) (Nat.le_of_ble_eq_true rfl) dX12_init_133 (fun H hW => ?_)
  refine p_X12_56 Cx hnm hW hL (k := 231) (by decide) rfl dX12_init_135 (fun H locs hW hL => ?_)
  refine lv_aload_n hx hb dX12_init_138 rfl (lv_at hl 0 rfl) ?_
  refine lv_sipush (v := 700) hx hb dX12_init_139 (by decide) ?_
  refine sNewa (atype := .int) (ty := .int) Cx (N := 700) rfl 0 rfl (fun U h => h) w_294 hW rfl rfl (by decide) rfl (Nat.le_of_ble_eq_true rfl) (Nat.le_of_ble_eq_true rfl) (Nat.le_of_ble_eq_true rfl) dX12_init_142 (fun H hW => ?_)
  refine p_X12_59 Cx hnm hW hL (k := 231) (by decide) rfl dX12_init_144 (fun H locs hW hL => ?_)
  refine lv_aload_n hx hb dX12_init_147 rfl (lv_at hl 0 rfl) ?_
  refine lv_sipush (v := 700) hx hb dX12_init_148 (by decide) ?_
  refine sNewa (atype := .int) (ty := .int) Cx (N := 700) rfl 0 rfl (fun U h => h) w_294 hW rfl rfl (by decide) rfl (Nat.le_of_ble_eq_true rfl) (Nat.le_of_ble_eq_true rfl) (Nat.le_of_ble_eq_true rfl) dX12_init_151 (fun H hW => ?_)
  refine p_X12_62 Cx hnm hW hL (k := 231) (by decide) rfl dX12_init_153 (fun H locs hW hL => ?_)
  refine lv_aload_n hx hb dX12_init_156 rfl (lv_at hl 0 rfl) ?_
  refine lv_sipush (v := 700) hx hb dX12_init_157 (by decide) ?_
  refine sNewa (atype := .int) (ty := .int) Cx (N := 700) rfl 0 rfl (fun U h => h) w_294 hW rfl rfl (by decide) rfl (Nat.le_of_ble_eq_true rfl) (Nat.le_of_ble_eq_true rfl) (Nat.le_of_ble_eq_true rfl) dX12_init_160 (fun H hW => ?_)
  refine p_X12_65 Cx hnm hW hL (k := 231) (by decide) rfl dX12_init_162 (fun H locs hW hL => ?_)
  refine lv_aload_n hx hb dX12_init_165 rfl (lv_at hl 0 rfl) ?_
  refine lv_sipush (v := 700) hx hb dX12_init_166 (by decide) ?_
  refine sNewa (atype := .int) (ty := .int) Cx (N := 700) rfl 0 rfl (fun U h => h) w_294 hW rfl rfl (by decide) rfl (Nat.le_of_ble_eq_true rfl) (Nat.le_of_ble_eq_true rfl) (Nat.le_of_ble_eq_true rfl) dX12_init_169 (fun H hW => ?_)
  refine p_X12_68 Cx hnm hW hL (k := 231) (by decide) rfl dX12_init_171 (fun H locs hW hL => ?_)
  refine lv_aload_n hx hb dX12_init_174 rfl (lv_at hl 0 rfl) ?_
  refine lv_sipush (v := 700) hx hb dX12_init_175 (by decide) ?_
  refine sNewa (atype := .int) (ty := .int) Cx (N := 700) rfl 0 rfl (fun U h => h) w_294 hW rfl rfl (by decide) rfl (Nat.le_of_ble_eq_true rfl) (Nat.le_of_ble_eq_true rfl) (Nat.le_of_ble_eq_true rfl) dX12_init_178 (fun H hW => ?_)
  refine p_X12_71 Cx hnm hW hL (k := 231) (by decide) rfl dX12_init_180 (fun H locs hW hL => ?_)
  refine lv_aload_n hx hb dX12_init_183 rfl (lv_at hl 0 rfl) ?_
  refine lv_sipush (v := 2100) hx hb dX12_init_184 (by decide) ?_
  refine sNewa (atype := .int) (ty := .int) Cx (N := 2100) rfl 0 rfl (fun U h => h) w_294 hW rfl rfl (by decide) rfl (Nat.le_of_ble_eq_true rfl) (Nat.le_of_ble_eq_true rfl) (Nat.le_of_ble_eq_true rfl) dX12_init_187 (fun H hW => ?_)
  refine p_X12_74 Cx hnm hW hL (k := 231) (by decide) rfl dX12_init_189 (fun H locs hW hL => ?_)
  refine lv_aload_n hx hb dX12_init_192 rfl (lv_at hl 0 rfl) ?_
  refine lv_bipush (v := 13) hx hb dX12_init_193 (by decide) ?_
  refine sNewa (atype := .boolean) (ty := .boolean) Cx (N := 13) rfl 3 rfl (fun U h => h) w_295 hW rfl rfl (by decide) rfl (Nat.le_of_ble_eq_true rfl) (Nat.le_of_ble_eq_true rfl) (Nat.le_of_ble_eq_true rfl) dX12_init_195 (fun H hW => ?_)
  refine p_X12_77 Cx hnm hW hL (k := 231) (by decide) rfl dX12_init_197 (fun H locs hW hL => ?_)
  refine lv_aload_n hx hb dX12_init_200 rfl (lv_at hl 0 rfl) ?_
  refine lv_sipush (v := 247) hx hb dX12_init_201 (by decide) ?_
  refine sNewa (atype := .long) (ty := .long) Cx (N := 247) rfl 1 rfl (fun U h => h) w_324 hW rfl rfl (by decide) rfl (Nat.le_of_ble_eq_true rfl) (Nat.le_of_ble_eq_true rfl) (Nat.le_of_ble_eq_true rfl) dX12_init_204 (fun H hW => ?_)
  refine p_X12_81 Cx hnm hW hL (k := 231) (by decide) rfl dX12_init_206 (fun H locs hW hL => ?_)
  refine lv_aload_n hx hb dX12_init_209 rfl (lv_at hl 0 rfl) ?_
  refine lv_bipush (v := 13) hx hb dX12_init_210 (by decide) ?_
  refine sNewa (atype := .long) (ty := .long) Cx (N := 13) rfl 1 rfl (fun U h => h) w_324 hW rfl rfl (by decide) rfl (Nat.le_of_ble_eq_true rfl) (Nat.le_of_ble_eq_true rfl) (Nat.le_of_ble_eq_true rfl) dX12_init_212 (fun H hW => ?_)
  refine p_X12_85 Cx hnm hW hL (k := 231) (by decide) rfl dX12_init_214 (fun H locs hW hL => ?_)
  refine lv_aload_n hx hb dX12_init_217 rfl (lv_at hl 0 rfl) ?_
  refine lv_sipush (v := 1820) hx hb dX12_init_218 (by decide) ?_
  refine sNewa (atype := .long) (ty := .long) Cx (N := 1820) rfl 1 rfl (fun U h => h) w_324 hW rfl rfl (by decide) rfl (Nat.le_of_ble_eq_true rfl) (Nat.le_of_ble_eq_true rfl) (Nat.le_of_ble_eq_true rfl) dX12_init_221 (fun H hW => ?_)
  refine p_X12_88 Cx hnm hW hL (k := 231) (by decide) rfl dX12_init_223 (fun H locs hW hL => ?_)
  refine lv_aload_n hx hb dX12_init_226 rfl (lv_at hl 0 rfl) ?_
  refine lv_iconst (v := 2) hx hb dX12_init_227 (by decide) ?_
  refine sNewa (atype := .int) (ty := .int) Cx (N := 2) rfl 0 rfl (fun U h => h) w_294 hW rfl rfl (by decide) rfl (Nat.le_of_ble_eq_true rfl) (Nat.le_of_ble_eq_true rfl) (Nat.le_of_ble_eq_true rfl) dX12_init_228 (fun H hW => ?_)
  refine p_X12_91 Cx hnm hW hL (k := 231) (by decide) rfl dX12_init_230 (fun H locs hW hL => ?_)
  refine lv_aload_n hx hb dX12_init_233 rfl (lv_at hl 0 rfl) ?_
  refine lv_bipush (v := 13) hx hb dX12_init_234 (by decide) ?_
  refine sNewa (atype := .boolean) (ty := .boolean) Cx (N := 13) rfl 3 rfl (fun U h => h) w_295 hW rfl rfl (by decide) rfl (Nat.le_of_ble_eq_true rfl) (Nat.le_of_ble_eq_true rfl) (Nat.le_of_ble_eq_true rfl) dX12_init_236 (fun H hW => ?_)
  refine p_X12_94 Cx hnm hW hL (k := 231) (by decide) rfl dX12_init_238 (fun H locs hW hL => ?_)
  refine lv_aload_n hx hb dX12_init_241 rfl (lv_at hl 0 rfl) ?_
  refine lv_bipush (v := 13) hx hb dX12_init_242 (by decide) ?_
  refine sNewa (atype := .long) (ty := .long) Cx (N := 13) rfl 1 rfl (fun U h => h) w_324 hW rfl rfl (by decide) rfl (Nat.le_of_ble_eq_true rfl) (Nat.le_of_ble_eq_true rfl) (Nat.le_of_ble_eq_true rfl) dX12_init_244 (fun H hW => ?_)
  refine p_X12_97 Cx hnm hW hL (k := 231) (by decide) rfl dX12_init_246 (fun H locs hW hL => ?_)
  refine lv_aload_n hx hb dX12_init_249 rfl (lv_at hl 0 rfl) ?_
  refine lv_sipush (v := 4368) hx hb dX12_init_250 (by decide) ?_
  refine sNewa (atype := .int) (ty := .int) Cx (N := 4368) rfl 0 rfl (fun U h => h) w_294 hW rfl rfl (by decide) rfl (Nat.le_of_ble_eq_true rfl) (Nat.le_of_ble_eq_true rfl) (Nat.le_of_ble_eq_true rfl) dX12_init_253 (fun H hW => ?_)
  refine p_X12_100 Cx hnm hW hL (k := 231) (by decide) rfl dX12_init_255 (fun H locs hW hL => ?_)
  refine lv_aload_n hx hb dX12_init_258 rfl (lv_at hl 0 rfl) ?_
  refine lv_sipush (v := 5280) hx hb dX12_init_259 (by decide) ?_
  refine sNewa (atype := .int) (ty := .int) Cx (N := 5280) rfl 0 rfl (fun U h => h) w_294 hW rfl rfl (by decide) rfl (Nat.le_of_ble_eq_true rfl) (Nat.le_of_ble_eq_true rfl) (Nat.le_of_ble_eq_true rfl) dX12_init_262 (fun H hW => ?_)
  refine p_X12_103 Cx hnm hW hL (k := 231) (by decide) rfl dX12_init_264 (fun H locs hW hL => ?_)
  refine lv_aload_n hx hb dX12_init_267 rfl (lv_at hl 0 rfl) ?_
  refine lv_sipush (v := 5280) hx hb dX12_init_268 (by decide) ?_
  refine sNewa (atype := .int) (ty := .int) Cx (N := 5280) rfl 0 rfl (fun U h => h) w_294 hW rfl rfl (by decide) rfl (Nat.le_of_ble_eq_true rfl) (Nat.le_of_ble_eq_true rfl) (Nat.le_of_ble_eq_true rfl) dX12_init_271 (fun H hW => ?_)
  refine p_X12_106 Cx hnm hW hL (k := 231) (by decide) rfl dX12_init_273 (fun H locs hW hL => ?_)
  refine lv_aload_n hx hb dX12_init_276 rfl (lv_at hl 0 rfl) ?_
  refine lv_bipush (v := 8) hx hb dX12_init_277 (by decide) ?_
  refine sNewa (atype := .int) (ty := .int) Cx (N := 8) rfl 0 rfl (fun U h => h) w_294 hW rfl rfl (by decide) rfl (Nat.le_of_ble_eq_true rfl) (Nat.le_of_ble_eq_true rfl) (Nat.le_of_ble_eq_true rfl) dX12_init_279 (fun H hW => ?_)
  refine p_X12_109 Cx hnm hW hL (k := 231) (by decide) rfl dX12_init_281 (fun H locs hW hL => ?_)
  refine lv_aload_n hx hb dX12_init_284 rfl (lv_at hl 0 rfl) ?_
  refine lv_bipush (v := 44) hx hb dX12_init_285 (by decide) ?_
  refine sNewa (atype := .int) (ty := .int) Cx (N := 44) rfl 0 rfl (fun U h => h) w_294 hW rfl rfl (by decide) rfl (Nat.le_of_ble_eq_true rfl) (Nat.le_of_ble_eq_true rfl) (Nat.le_of_ble_eq_true rfl) dX12_init_287 (fun H hW => ?_)
  refine p_X12_112 Cx hnm hW hL (k := 231) (by decide) rfl dX12_init_289 (fun H locs hW hL => ?_)
  refine lv_aload_n hx hb dX12_init_292 rfl (lv_at hl 0 rfl) ?_
  refine lv_bipush (v := 15) hx hb dX12_init_293 (by decide) ?_
  refine sNewa (atype := .int) (ty := .int) Cx (N := 15) rfl 0 rfl (fun U h => h) w_294 hW rfl rfl (by decide) rfl (Nat.le_of_ble_eq_true rfl) (Nat.le_of_ble_eq_true rfl) (Nat.le_of_ble_eq_true rfl) dX12_init_295 (fun H hW => ?_)
  refine p_X12_115 Cx hnm hW hL (k := 231) (by decide) rfl dX12_init_297 (fun H locs hW hL => ?_)
  refine lv_aload_n hx hb dX12_init_300 rfl (lv_at hl 0 rfl) ?_
  refine lv_ldc hx hb hown (hts _ w_1958) dX12_init_301 ?_
  refine sNewa (atype := .int) (ty := .int) Cx (N := 216480) rfl 0 rfl (fun U h => h) w_294 hW rfl rfl (by decide) rfl (Nat.le_of_ble_eq_true rfl) (Nat.le_of_ble_eq_true rfl) (Nat.le_of_ble_eq_true rfl) dX12_init_303 (fun H hW => ?_)
  refine p_X12_119 Cx hnm hW hL (k := 231) (by decide) rfl dX12_init_305 (fun H locs hW hL => ?_)
  refine lv_aload_n hx hb dX12_init_308 rfl (lv_at hl 0 rfl) ?_
  refine lv_sipush (v := 328) hx hb dX12_init_309 (by decide) ?_
  refine sNewa (atype := .int) (ty := .int) Cx (N := 328) rfl 0 rfl (fun U h => h) w_294 hW rfl rfl (by decide) rfl (Nat.le_of_ble_eq_true rfl) (Nat.le_of_ble_eq_true rfl) (Nat.le_of_ble_eq_true rfl) dX12_init_312 (fun H hW => ?_)
  refine p_X12_122 Cx hnm hW hL (k := 231) (by decide) rfl dX12_init_314 (fun H locs hW hL => ?_)
  refine lv_aload_n hx hb dX12_init_317 rfl (lv_at hl 0 rfl) ?_
  refine lv_sipush (v := 1804) hx hb dX12_init_318 (by decide) ?_
  refine sNewa (atype := .int) (ty := .int) Cx (N := 1804) rfl 0 rfl (fun U h => h) w_294 hW rfl rfl (by decide) rfl (Nat.le_of_ble_eq_true rfl) (Nat.le_of_ble_eq_true rfl) (Nat.le_of_ble_eq_true rfl) dX12_init_321 (fun H hW => ?_)
  refine p_X12_125 Cx hnm hW hL (k := 231) (by decide) rfl dX12_init_323 (fun H locs hW hL => ?_)
  refine lv_aload_n hx hb dX12_init_326 rfl (lv_at hl 0 rfl) ?_
  refine lv_sipush (v := 615) hx hb dX12_init_327 (by decide) ?_
  refine sNewa (atype := .int) (ty := .int) Cx (N := 615) rfl 0 rfl (fun U h => h) w_294 hW rfl rfl (by decide) rfl (Nat.le_of_ble_eq_true rfl) (Nat.le_of_ble_eq_true rfl) (Nat.le_of_ble_eq_true rfl) dX12_init_330 (fun H hW => ?_)
  refine p_X12_128 Cx hnm hW hL (k := 231) (by decide) rfl dX12_init_332 (fun H locs hW hL => ?_)
  refine lv_aload_n hx hb dX12_init_335 rfl (lv_at hl 0 rfl) ?_
  refine lv_sipush (v := 205) hx hb dX12_init_336 (by decide) ?_
  refine sNewa (atype := .int) (ty := .int) Cx (N := 205) rfl 0 rfl (fun U h => h) w_294 hW rfl rfl (by decide) rfl (Nat.le_of_ble_eq_true rfl) (Nat.le_of_ble_eq_true rfl) (Nat.le_of_ble_eq_true rfl) dX12_init_339 (fun H hW => ?_)
  refine p_X12_131 Cx hnm hW hL (k := 231) (by decide) rfl dX12_init_341 (fun H locs hW hL => ?_)
  refine lv_aload_n hx hb dX12_init_344 rfl (lv_at hl 0 rfl) ?_
  refine lv_bipush (v := 8) hx hb dX12_init_345 (by decide) ?_
  refine sNewa (atype := .int) (ty := .int) Cx (N := 8) rfl 0 rfl (fun U h => h) w_294 hW rfl rfl (by decide) rfl (Nat.le_of_ble_eq_true rfl) (Nat.le_of_ble_eq_true rfl) (Nat.le_of_ble_eq_true rfl) dX12_init_347 (fun H hW => ?_)
  refine p_X12_134 Cx hnm hW hL (k := 231) (by decide) rfl dX12_init_349 (fun H locs hW hL => ?_)
  refine lv_aload_n hx hb dX12_init_352 rfl (lv_at hl 0 rfl) ?_
  refine lv_bipush (v := 8) hx hb dX12_init_353 (by decide) ?_
  refine sNewa (atype := .int) (ty := .int) Cx (N := 8) rfl 0 rfl (fun U h => h) w_294 hW rfl rfl (by decide) rfl (Nat.le_of_ble_eq_true rfl) (Nat.le_of_ble_eq_true rfl) (Nat.le_of_ble_eq_true rfl) dX12_init_355 (fun H hW => ?_)
  refine p_X12_137 Cx hnm hW hL (k := 231) (by decide) rfl dX12_init_357 (fun H locs hW hL => ?_)
  refine lv_aload_n hx hb dX12_init_360 rfl (lv_at hl 0 rfl) ?_
  refine lv_bipush (v := 104) hx hb dX12_init_361 (by decide) ?_
  refine sNewa (atype := .int) (ty := .int) Cx (N := 104) rfl 0 rfl (fun U h => h) w_294 hW rfl rfl (by decide) rfl (Nat.le_of_ble_eq_true rfl) (Nat.le_of_ble_eq_true rfl) (Nat.le_of_ble_eq_true rfl) dX12_init_363 (fun H hW => ?_)
  refine p_X12_140 Cx hnm hW hL (k := 231) (by decide) rfl dX12_init_365 (fun H locs hW hL => ?_)
  refine lv_aload_n hx hb dX12_init_368 rfl (lv_at hl 0 rfl) ?_
  refine lv_ldc hx hb hown (hts _ w_1959) dX12_init_369 ?_
  refine sNewa (atype := .byte) (ty := .byte) Cx (N := 34000) rfl 2 rfl (fun U h => h) w_254 hW rfl rfl (by decide) rfl (Nat.le_of_ble_eq_true rfl) (Nat.le_of_ble_eq_true rfl) (Nat.le_of_ble_eq_true rfl) dX12_init_371 (fun H hW => ?_)
  refine p_X12_144 Cx hnm hW hL (k := 231) (by decide) rfl dX12_init_373 (fun H locs hW hL => ?_)
  refine lv_aload_n hx hb dX12_init_376 rfl (lv_at hl 0 rfl) ?_
  refine lv_ldc hx hb hown (hts _ w_1960) dX12_init_377 ?_
  refine sNewa (atype := .byte) (ty := .byte) Cx (N := 36000) rfl 2 rfl (fun U h => h) w_254 hW rfl rfl (by decide) rfl (Nat.le_of_ble_eq_true rfl) (Nat.le_of_ble_eq_true rfl) (Nat.le_of_ble_eq_true rfl) dX12_init_379 (fun H hW => ?_)
  refine p_X12_148 Cx hnm hW hL (k := 231) (by decide) rfl dX12_init_381 (fun H locs hW hL => ?_)
  refine lv_aload_n hx hb dX12_init_384 rfl (lv_at hl 0 rfl) ?_
  refine lv_iconst (v := 4) hx hb dX12_init_385 (by decide) ?_
  refine sNewa (atype := .int) (ty := .int) Cx (N := 4) rfl 0 rfl (fun U h => h) w_294 hW rfl rfl (by decide) rfl (Nat.le_of_ble_eq_true rfl) (Nat.le_of_ble_eq_true rfl) (Nat.le_of_ble_eq_true rfl) dX12_init_386 (fun H hW => ?_)
  refine p_X12_151 Cx hnm hW hL (k := 231) (by decide) rfl dX12_init_388 (fun H locs hW hL => ?_)
  refine lv_aload_n hx hb dX12_init_391 rfl (lv_at hl 0 rfl) ?_
  refine lv_sipush (v := 336) hx hb dX12_init_392 (by decide) ?_
  refine sNewa (atype := .int) (ty := .int) Cx (N := 336) rfl 0 rfl (fun U h => h) w_294 hW rfl rfl (by decide) rfl (Nat.le_of_ble_eq_true rfl) (Nat.le_of_ble_eq_true rfl) (Nat.le_of_ble_eq_true rfl) dX12_init_395 (fun H hW => ?_)
  refine p_X12_154 Cx hnm hW hL (k := 231) (by decide) rfl dX12_init_397 (fun H locs hW hL => ?_)
  refine lv_aload_n hx hb dX12_init_400 rfl (lv_at hl 0 rfl) ?_
  refine lv_bipush (v := 68) hx hb dX12_init_401 (by decide) ?_
  refine sNewa (atype := .int) (ty := .int) Cx (N := 68) rfl 0 rfl (fun U h => h) w_294 hW rfl rfl (by decide) rfl (Nat.le_of_ble_eq_true rfl) (Nat.le_of_ble_eq_true rfl) (Nat.le_of_ble_eq_true rfl) dX12_init_403 (fun H hW => ?_)
  refine p_X12_157 Cx hnm hW hL (k := 231) (by decide) rfl dX12_init_405 (fun H locs hW hL => ?_)
  refine lv_aload_n hx hb dX12_init_408 rfl (lv_at hl 0 rfl) ?_
  refine lv_bipush (v := 68) hx hb dX12_init_409 (by decide) ?_
  refine sNewa (atype := .int) (ty := .int) Cx (N := 68) rfl 0 rfl (fun U h => h) w_294 hW rfl rfl (by decide) rfl (Nat.le_of_ble_eq_true rfl) (Nat.le_of_ble_eq_true rfl) (Nat.le_of_ble_eq_true rfl) dX12_init_411 (fun H hW => ?_)
  refine p_X12_160 Cx hnm hW hL (k := 231) (by decide) rfl dX12_init_413 (fun H locs hW hL => ?_)
  refine lv_aload_n hx hb dX12_init_416 rfl (lv_at hl 0 rfl) ?_
  refine lv_bipush (v := 104) hx hb dX12_init_417 (by decide) ?_
  refine sNewa (atype := .int) (ty := .int) Cx (N := 104) rfl 0 rfl (fun U h => h) w_294 hW rfl rfl (by decide) rfl (Nat.le_of_ble_eq_true rfl) (Nat.le_of_ble_eq_true rfl) (Nat.le_of_ble_eq_true rfl) dX12_init_419 (fun H hW => ?_)
  refine p_X12_163 Cx hnm hW hL (k := 231) (by decide) rfl dX12_init_421 (fun H locs hW hL => ?_)
  refine lv_aload_n hx hb dX12_init_424 rfl (lv_at hl 0 rfl) ?_
  refine lv_iconst (v := 4) hx hb dX12_init_425 (by decide) ?_
  refine sNewa (atype := .int) (ty := .int) Cx (N := 4) rfl 0 rfl (fun U h => h) w_294 hW rfl rfl (by decide) rfl (Nat.le_of_ble_eq_true rfl) (Nat.le_of_ble_eq_true rfl) (Nat.le_of_ble_eq_true rfl) dX12_init_426 (fun H hW => ?_)
  refine p_X12_166 Cx hnm hW hL (k := 231) (by decide) rfl dX12_init_428 (fun H locs hW hL => ?_)
  refine lv_aload_n hx hb dX12_init_431 rfl (lv_at hl 0 rfl) ?_
  refine lv_sipush (v := 5460) hx hb dX12_init_432 (by decide) ?_
  refine sNewa (atype := .int) (ty := .int) Cx (N := 5460) rfl 0 rfl (fun U h => h) w_294 hW rfl rfl (by decide) rfl (Nat.le_of_ble_eq_true rfl) (Nat.le_of_ble_eq_true rfl) (Nat.le_of_ble_eq_true rfl) dX12_init_435 (fun H hW => ?_)
  refine p_X12_169 Cx hnm hW hL (k := 231) (by decide) rfl dX12_init_437 (fun H locs hW hL => ?_)
  refine lv_aload_n hx hb dX12_init_440 rfl (lv_at hl 0 rfl) ?_
  refine lv_sipush (v := 520) hx hb dX12_init_441 (by decide) ?_
  refine sNewa (atype := .int) (ty := .int) Cx (N := 520) rfl 0 rfl (fun U h => h) w_294 hW rfl rfl (by decide) rfl (Nat.le_of_ble_eq_true rfl) (Nat.le_of_ble_eq_true rfl) (Nat.le_of_ble_eq_true rfl) dX12_init_444 (fun H hW => ?_)
  refine p_X12_172 Cx hnm hW hL (k := 231) (by decide) rfl dX12_init_446 (fun H locs hW hL => ?_)
  refine lv_aload_n hx hb dX12_init_449 rfl (lv_at hl 0 rfl) ?_
  refine lv_sipush (v := 140) hx hb dX12_init_450 (by decide) ?_
  refine sNewa (atype := .int) (ty := .int) Cx (N := 140) rfl 0 rfl (fun U h => h) w_294 hW rfl rfl (by decide) rfl (Nat.le_of_ble_eq_true rfl) (Nat.le_of_ble_eq_true rfl) (Nat.le_of_ble_eq_true rfl) dX12_init_453 (fun H hW => ?_)
  refine p_X12_175 Cx hnm hW hL (k := 231) (by decide) rfl dX12_init_455 (fun H locs hW hL => ?_)
  refine lv_aload_n hx hb dX12_init_458 rfl (lv_at hl 0 rfl) ?_
  refine lv_bipush (v := 10) hx hb dX12_init_459 (by decide) ?_
  refine sNewa (atype := .int) (ty := .int) Cx (N := 10) rfl 0 rfl (fun U h => h) w_294 hW rfl rfl (by decide) rfl (Nat.le_of_ble_eq_true rfl) (Nat.le_of_ble_eq_true rfl) (Nat.le_of_ble_eq_true rfl) dX12_init_461 (fun H hW => ?_)
  refine p_X12_178 Cx hnm hW hL (k := 231) (by decide) rfl dX12_init_463 (fun H locs hW hL => ?_)
  refine lv_aload_n hx hb dX12_init_466 rfl (lv_at hl 0 rfl) ?_
  refine lv_bipush (v := 10) hx hb dX12_init_467 (by decide) ?_
  refine sNewa (atype := .int) (ty := .int) Cx (N := 10) rfl 0 rfl (fun U h => h) w_294 hW rfl rfl (by decide) rfl (Nat.le_of_ble_eq_true rfl) (Nat.le_of_ble_eq_true rfl) (Nat.le_of_ble_eq_true rfl) dX12_init_469 (fun H hW => ?_)
  refine p_X12_181 Cx hnm hW hL (k := 231) (by decide) rfl dX12_init_471 (fun H locs hW hL => ?_)
  refine lv_aload_n hx hb dX12_init_474 rfl (lv_at hl 0 rfl) ?_
  refine lv_bipush (v := 10) hx hb dX12_init_475 (by decide) ?_
  refine sNewa (atype := .int) (ty := .int) Cx (N := 10) rfl 0 rfl (fun U h => h) w_294 hW rfl rfl (by decide) rfl (Nat.le_of_ble_eq_true rfl) (Nat.le_of_ble_eq_true rfl) (Nat.le_of_ble_eq_true rfl) dX12_init_477 (fun H hW => ?_)
  refine p_X12_184 Cx hnm hW hL (k := 231) (by decide) rfl dX12_init_479 (fun H locs hW hL => ?_)
  refine lv_aload_n hx hb dX12_init_482 rfl (lv_at hl 0 rfl) ?_
  refine lv_bipush (v := 10) hx hb dX12_init_483 (by decide) ?_
  refine sNewa (atype := .int) (ty := .int) Cx (N := 10) rfl 0 rfl (fun U h => h) w_294 hW rfl rfl (by decide) rfl (Nat.le_of_ble_eq_true rfl) (Nat.le_of_ble_eq_true rfl) (Nat.le_of_ble_eq_true rfl) dX12_init_485 (fun H hW => ?_)
  refine p_X12_187 Cx hnm hW hL (k := 231) (by decide) rfl dX12_init_487 (fun H locs hW hL => ?_)
  refine lv_aload_n hx hb dX12_init_490 rfl (lv_at hl 0 rfl) ?_
  refine lv_sipush (v := 247) hx hb dX12_init_491 (by decide) ?_
  refine sNewa (atype := .long) (ty := .long) Cx (N := 247) rfl 1 rfl (fun U h => h) w_324 hW rfl rfl (by decide) rfl (Nat.le_of_ble_eq_true rfl) (Nat.le_of_ble_eq_true rfl) (Nat.le_of_ble_eq_true rfl) dX12_init_494 (fun H hW => ?_)
  refine p_X12_190 Cx hnm hW hL (k := 231) (by decide) rfl dX12_init_496 (fun H locs hW hL => ?_)
  refine lv_aload_n hx hb dX12_init_499 rfl (lv_at hl 0 rfl) ?_
  refine lv_sipush (v := 3002) hx hb dX12_init_500 (by decide) ?_
  refine sNewa (atype := .int) (ty := .int) Cx (N := 3002) rfl 0 rfl (fun U h => h) w_294 hW rfl rfl (by decide) rfl (Nat.le_of_ble_eq_true rfl) (Nat.le_of_ble_eq_true rfl) (Nat.le_of_ble_eq_true rfl) dX12_init_503 (fun H hW => ?_)
  refine p_X12_193 Cx hnm hW hL (k := 231) (by decide) rfl dX12_init_505 (fun H locs hW hL => ?_)
  refine lv_aload_n hx hb dX12_init_508 rfl (lv_at hl 0 rfl) ?_
  refine lv_sipush (v := 3002) hx hb dX12_init_509 (by decide) ?_
  refine sNewa (atype := .int) (ty := .int) Cx (N := 3002) rfl 0 rfl (fun U h => h) w_294 hW rfl rfl (by decide) rfl (Nat.le_of_ble_eq_true rfl) (Nat.le_of_ble_eq_true rfl) (Nat.le_of_ble_eq_true rfl) dX12_init_512 (fun H hW => ?_)
  refine p_X12_196 Cx hnm hW hL (k := 231) (by decide) rfl dX12_init_514 (fun H locs hW hL => ?_)
  refine lv_aload_n hx hb dX12_init_517 rfl (lv_at hl 0 rfl) ?_
  refine lv_sipush (v := 3002) hx hb dX12_init_518 (by decide) ?_
  refine sNewa (atype := .int) (ty := .int) Cx (N := 3002) rfl 0 rfl (fun U h => h) w_294 hW rfl rfl (by decide) rfl (Nat.le_of_ble_eq_true rfl) (Nat.le_of_ble_eq_true rfl) (Nat.le_of_ble_eq_true rfl) dX12_init_521 (fun H hW => ?_)
  refine p_X12_199 Cx hnm hW hL (k := 231) (by decide) rfl dX12_init_523 (fun H locs hW hL => ?_)
  exact sVret Cx hr hlk hW hL rfl dX12_init_526
