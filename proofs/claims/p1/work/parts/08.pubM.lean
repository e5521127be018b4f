set_option maxRecDepth 100000 in
set_option maxHeartbeats 4000000 in
theorem t116_X12_lay (l : Launch) (G : sG) (S : sS) (p1 : Int32) (hR_231_0 : S.2.2 231 0 = .ref (G.2.2.1 + 232)) (hI_231_1 : S.1 231 1 = 0) : Met l yX12_lay (.code yX12_lay cX12_lay 3 none :: tb) (rmk 1 0 0) (sPc G 294 S [.ref (G.2.2.1 + 231), .int p1]) (sQv G 294 (fun u => u = (sI (sI (sI (sI (sI (sI (sI (sI S 232 0 (vp_nar .byte (i2bI (shrI p1 24)))) 231 1 1) 232 1 (vp_nar .byte (i2bI (shrI p1 16)))) 231 1 2) 232 2 (vp_nar .byte (i2bI (shrI p1 8)))) 231 1 3) 232 3 (vp_nar .byte (i2bI (shrI p1 0)))) 231 1 4))) 0 0 (sF G) := by
  refine sEnter (by decide) (Nat.le_of_ble_eq_true rfl) ?_
  intro p e s m args below meth c Cx hr hlk hnm hW ls hl
  have Cx : sC G p m c cX12_lay 3 s args RX12 := Cx
  obtain ⟨hx, hb, hml, hown, hts⟩ := id Cx.1
  have hL : sL G [] := sL_nil
  have hl : lv_has ls 3 [(0, .ref (G.2.2.1 + 231)), (1, .int p1)] := hl
  refine lv_bipush (v := 24) hx hb dX12_lay_0 (by decide) ?_
  refine lv_istore_n (lv' := [(2, .int 24), (0, .ref (G.2.2.1 + 231)), (1, .int p1)]) hx hb dX12_lay_2 rfl hl (by decide) rfl (fun ls hl => ?_)
  refine lv_iload_n hx hb dX12_lay_3 rfl (lv_at hl 0 rfl) ?_
  refine lv_if_lt (tgt := 36) hx hb dX12_lay_4 (by decide) (fun c => absurd c (by decide)) (fun _ => ?_)
  refine lv_aload_n hx hb dX12_lay_7 rfl (lv_at hl 1 rfl) ?_
  refine g_X12_9 Cx hW (k := 231) (by decide) rfl (v := .ref (G.2.2.1 + 232)) hR_231_0 dX12_lay_8 ?_
  refine lv_aload_n hx hb dX12_lay_11 rfl (lv_at hl 1 rfl) ?_
  refine g_X12_202 Cx hW (k := 231) (by decide) rfl (v := 0) hI_231_1 dX12_lay_12 ?_
  refine lv_iload_n hx hb dX12_lay_15 rfl (lv_at hl 2 rfl) ?_
  refine lv_iload_n hx hb dX12_lay_16 rfl (lv_at hl 0 rfl) ?_
  refine lv_ishr hx hb dX12_lay_17 ?_
  refine sCi (v := shrI p1 24) rfl ?_
  refine lv_i2b (v := i2bI (shrI p1 24)) hx hb dX12_lay_18 rfl ?_
  refine sBast Cx hW hL (k := 232) (N := 30000) (by decide) rfl (j := 0) (by decide) (vp_c (by decide)) (y := vp_nar .byte (i2bI (shrI p1 24))) rfl dX12_lay_19 (fun H locs hW hL => ?_)
  refine lv_aload_n hx hb dX12_lay_20 rfl (lv_at hl 1 rfl) ?_
  refine lv_dup hx hb dX12_lay_21 rfl ?_
  refine g_X12_202 Cx hW (k := 231) (by decide) rfl (v := 0) hI_231_1 dX12_lay_22 ?_
  refine lv_iconst (v := 1) hx hb dX12_lay_25 (by decide) ?_
  refine lv_iadd hx hb dX12_lay_26 ?_
  refine sCi (v := 1) (by decide) ?_
  refine p_X12_202 Cx hW hL (k := 231) (by decide) rfl dX12_lay_27 (fun H locs hW hL => ?_)
  refine lv_iinc (v := 16) (lv' := [(2, .int 16), (0, .ref (G.2.2.1 + 231)), (1, .int p1)]) hx hb dX12_lay_30 hl (k := 0) rfl (by decide) (by decide) rfl (fun ls hl => ?_)
  refine lv_goto (tgt := 3) hx hb dX12_lay_33 (by decide) ?_
  refine lv_iload_n hx hb dX12_lay_3 rfl (lv_at hl 0 rfl) ?_
  refine lv_if_lt (tgt := 36) hx hb dX12_lay_4 (by decide) (fun c => absurd c (by decide)) (fun _ => ?_)
  refine lv_aload_n hx hb dX12_lay_7 rfl (lv_at hl 1 rfl) ?_
  refine g_X12_9 Cx hW (k := 231) (by decide) rfl (v := .ref (G.2.2.1 + 232)) hR_231_0 dX12_lay_8 ?_
  refine lv_aload_n hx hb dX12_lay_11 rfl (lv_at hl 1 rfl) ?_
  refine g_X12_202 Cx hW (k := 231) (by decide) rfl (v := 1) rfl dX12_lay_12 ?_
  refine lv_iload_n hx hb dX12_lay_15 rfl (lv_at hl 2 rfl) ?_
  refine lv_iload_n hx hb dX12_lay_16 rfl (lv_at hl 0 rfl) ?_
  refine lv_ishr hx hb dX12_lay_17 ?_
  refine sCi (v := shrI p1 16) rfl ?_
  refine lv_i2b (v := i2bI (shrI p1 16)) hx hb dX12_lay_18 rfl ?_
  refine sBast Cx hW hL (k := 232) (N := 30000) (by decide) rfl (j := 1) (by decide) (vp_c (by decide)) (y := vp_nar .byte (i2bI (shrI p1 16))) rfl dX12_lay_19 (fun H locs hW hL => ?_)
  refine lv_aload_n hx hb dX12_lay_20 rfl (lv_at hl 1 rfl) ?_
  refine lv_dup hx hb dX12_lay_21 rfl ?_
  refine g_X12_202 Cx hW (k := 231) (by decide) rfl (v := 1) rfl dX12_lay_22 ?_
  refine lv_iconst (v := 1) hx hb dX12_lay_25 (by decide) ?_
  refine lv_iadd hx hb dX12_lay_26 ?_
  refine sCi (v := 2) (by decide) ?_
  refine p_X12_202 Cx hW hL (k := 231) (by decide) rfl dX12_lay_27 (fun H locs hW hL => ?_)
  refine lv_iinc (v := 8) (lv' := [(2, .int 8), (0, .ref (G.2.2.1 + 231)), (1, .int p1)]) hx hb dX12_lay_30 hl (k := 0) rfl (by decide) (by decide) rfl (fun ls hl => ?_)
  refine lv_goto (tgt := 3) hx hb dX12_lay_33 (by decide) ?_
  refine lv_iload_n hx hb dX12_lay_3 rfl (lv_at hl 0 rfl) ?_
  refine lv_if_lt (tgt := 36) hx hb dX12_lay_4 (by decide) (fun c => absurd c (by decide)) (fun _ => ?_)
  refine lv_aload_n hx hb dX12_lay_7 rfl (lv_at hl 1 rfl) ?_
  refine g_X12_9 Cx hW (k := 231) (by decide) rfl (v := .ref (G.2.2.1 + 232)) hR_231_0 dX12_lay_8 ?_
  refine lv_aload_n hx hb dX12_lay_11 rfl (lv_at hl 1 rfl) ?_
  refine g_X12_202 Cx hW (k := 231) (by decide) rfl (v := 2) rfl dX12_lay_12 ?_
  refine lv_iload_n hx hb dX12_lay_15 rfl (lv_at hl 2 rfl) ?_
  refine lv_iload_n hx hb dX12_lay_16 rfl (lv_at hl 0 rfl) ?_
  refine lv_ishr hx hb dX12_lay_17 ?_
  refine sCi (v := shrI p1 8) rfl ?_
  refine lv_i2b (v := i2bI (shrI p1 8)) hx hb dX12_lay_18 rfl ?_
  refine sBast Cx hW hL (k := 232) (N := 30000) (by decide) rfl (j := 2) (by decide) (vp_c (by decide)) (y := vp_nar .byte (i2bI (shrI p1 8))) rfl dX12_lay_19 (fun H locs hW hL => ?_)
  refine lv_aload_n hx hb dX12_lay_20 rfl (lv_at hl 1 rfl) ?_
  refine lv_dup hx hb dX12_lay_21 rfl ?_
  refine g_X12_202 Cx hW (k := 231) (by decide) rfl (v := 2) rfl dX12_lay_22 ?_
  refine lv_iconst (v := 1) hx hb dX12_lay_25 (by decide) ?_
  refine lv_iadd hx hb dX12_lay_26 ?_
  refine sCi (v := 3) (by decide) ?_
  refine p_X12_202 Cx hW hL (k := 231) (by decide) rfl dX12_lay_27 (fun H locs hW hL => ?_)
  refine lv_iinc (v := 0) (lv' := [(2, .int 0), (0, .ref (G.2.2.1 + 231)), (1, .int p1)]) hx hb dX12_lay_30 hl (k := 0) rfl (by decide) (by decide) rfl (fun ls hl => ?_)
  refine lv_goto (tgt := 3) hx hb dX12_lay_33 (by decide) ?_
  refine lv_iload_n hx hb dX12_lay_3 rfl (lv_at hl 0 rfl) ?_
  refine lv_if_lt (tgt := 36) hx hb dX12_lay_4 (by decide) (fun c => absurd c (by decide)) (fun _ => ?_)
  refine lv_aload_n hx hb dX12_lay_7 rfl (lv_at hl 1 rfl) ?_
  refine g_X12_9 Cx hW (k := 231) (by decide) rfl (v := .ref (G.2.2.1 + 232)) hR_231_0 dX12_lay_8 ?_
  refine lv_aload_n hx hb dX12_lay_11 rfl (lv_at hl 1 rfl) ?_
  refine g_X12_202 Cx hW (k := 231) (by decide) rfl (v := 3) rfl dX12_lay_12 ?_
  refine lv_iload_n hx hb dX12_lay_15 rfl (lv_at hl 2 rfl) ?_
  refine lv_iload_n hx hb dX12_lay_16 rfl (lv_at hl 0 rfl) ?_
  refine lv_ishr hx hb dX12_lay_17 ?_
  refine sCi (v := shrI p1 0) rfl ?_
  refine lv_i2b (v := i2bI (shrI p1 0)) hx hb dX12_lay_18 rfl ?_
  refine sBast Cx hW hL (k := 232) (N := 30000) (by decide) rfl (j := 3) (by decide) (vp_c (by decide)) (y := vp_nar .byte (i2bI (shrI p1 0))) rfl dX12_lay_19 (fun H locs hW hL => ?_)
  refine lv_aload_n hx hb dX12_lay_20 rfl (lv_at hl 1 rfl) ?_
  refine lv_dup hx hb dX12_lay_21 rfl ?_
  refine g_X12_202 Cx hW (k := 231) (by decide) rfl (v := 3) rfl dX12_lay_22 ?_
  refine lv_iconst (v := 1) hx hb dX12_lay_25 (by decide) ?_
  refine lv_iadd hx hb dX12_lay_26 ?_
  refine sCi (v := 4) (by decide) ?_
  refine p_X12_202 Cx hW hL (k := 231) (by decide) rfl dX12_lay_27 (fun H locs hW hL => ?_)
  refine lv_iinc (v := (-8)) (lv' := [(2, .int ((-8))), (0, .ref (G.2.2.1 + 231)), (1, .int p1)]) hx hb dX12_lay_30 hl (k := 0) rfl (by decide) (by decide) rfl (fun ls hl => ?_)
  refine lv_goto (tgt := 3) hx hb dX12_lay_33 (by decide) ?_
  refine lv_iload_n hx hb dX12_lay_3 rfl (lv_at hl 0 rfl) ?_
  refine lv_if_lt (tgt := 36) hx hb dX12_lay_4 (by decide) (fun _ => ?_) (fun c => absurd (by decide) c)
  exact sVret Cx hr hlk hW hL rfl dX12_lay_36

set_option maxRecDepth 100000 in
set_option maxHeartbeats 4000000 in
theorem t117_X12_lay (l : Launch) (G : sG) (S : sS) (p1 : Int32) (hR_231_0 : S.2.2 231 0 = .ref (G.2.2.1 + 232)) (hI_231_1 : S.1 231 1 = 4) : Met l yX12_lay (.code yX12_lay cX12_lay 3 none :: tb) (rmk 1 0 0) (sPc G 294 S [.ref (G.2.2.1 + 231), .int p1]) (sQv G 294 (fun u => u = (sI (sI (sI (sI (sI (sI (sI (sI S 232 4 (vp_nar .byte (i2bI (shrI p1 24)))) 231 1 5) 232 5 (vp_nar .byte (i2bI (shrI p1 16)))) 231 1 6) 232 6 (vp_nar .byte (i2bI (shrI p1 8)))) 231 1 7) 232 7 (vp_nar .byte (i2bI (shrI p1 0)))) 231 1 8))) 0 0 (sF G) := by
  refine sEnter (by decide) (Nat.le_of_ble_eq_true rfl) ?_
  intro p e s m args below meth c Cx hr hlk hnm hW ls hl
  have Cx : sC G p m c cX12_lay 3 s args RX12 := Cx
  obtain ⟨hx, hb, hml, hown, hts⟩ := id Cx.1
  have hL : sL G [] := sL_nil
  have hl : lv_has ls 3 [(0, .ref (G.2.2.1 + 231)), (1, .int p1)] := hl
  refine lv_bipush (v := 24) hx hb dX12_lay_0 (by decide) ?_
  refine lv_istore_n (lv' := [(2, .int 24), (0, .ref (G.2.2.1 + 231)), (1, .int p1)]) hx hb dX12_lay_2 rfl hl (by decide) rfl (fun ls hl => ?_)
  refine lv_iload_n hx hb dX12_lay_3 rfl (lv_at hl 0 rfl) ?_
  refine lv_if_lt (tgt := 36) hx hb dX12_lay_4 (by decide) (fun c => absurd c (by decide)) (fun _ => ?_)
  refine lv_aload_n hx hb dX12_lay_7 rfl (lv_at hl 1 rfl) ?_
  refine g_X12_9 Cx hW (k := 231) (by decide) rfl (v := .ref (G.2.2.1 + 232)) hR_231_0 dX12_lay_8 ?_
  refine lv_aload_n hx hb dX12_lay_11 rfl (lv_at hl 1 rfl) ?_
  refine g_X12_202 Cx hW (k := 231) (by decide) rfl (v := 4) hI_231_1 dX12_lay_12 ?_
  refine lv_iload_n hx hb dX12_lay_15 rfl (lv_at hl 2 rfl) ?_
  refine lv_iload_n hx hb dX12_lay_16 rfl (lv_at hl 0 rfl) ?_
  refine lv_ishr hx hb dX12_lay_17 ?_
  refine sCi (v := shrI p1 24) rfl ?_
  refine lv_i2b (v := i2bI (shrI p1 24)) hx hb dX12_lay_18 rfl ?_
  refine sBast Cx hW hL (k := 232) (N := 30000) (by decide) rfl (j := 4) (by decide) (vp_c (by decide)) (y := vp_nar .byte (i2bI (shrI p1 24))) rfl dX12_lay_19 (fun H locs hW hL => ?_)
  refine lv_aload_n hx hb dX12_lay_20 rfl (lv_at hl 1 rfl) ?_
  refine lv_dup hx hb dX12_lay_21 rfl ?_
  refine g_X12_202 Cx hW (k := 231) (by decide) rfl (v := 4) hI_231_1 dX12_lay_22 ?_
  refine lv_iconst (v := 1) hx hb dX12_lay_25 (by decide) ?_
  refine lv_iadd hx hb dX12_lay_26 ?_
  refine sCi (v := 5) (by decide) ?_
  refine p_X12_202 Cx hW hL (k := 231) (by decide) rfl dX12_lay_27 (fun H locs hW hL => ?_)
  refine lv_iinc (v := 16) (lv' := [(2, .int 16), (0, .ref (G.2.2.1 + 231)), (1, .int p1)]) hx hb dX12_lay_30 hl (k := 0) rfl (by decide) (by decide) rfl (fun ls hl => ?_)
  refine lv_goto (tgt := 3) hx hb dX12_lay_33 (by decide) ?_
  refine lv_iload_n hx hb dX12_lay_3 rfl (lv_at hl 0 rfl) ?_
  refine lv_if_lt (tgt := 36) hx hb dX12_lay_4 (by decide) (fun c => absurd c (by decide)) (fun _ => ?_)
  refine lv_aload_n hx hb dX12_lay_7 rfl (lv_at hl 1 rfl) ?_
  refine g_X12_9 Cx hW (k := 231) (by decide) rfl (v := .ref (G.2.2.1 + 232)) hR_231_0 dX12_lay_8 ?_
  refine lv_aload_n hx hb dX12_lay_11 rfl (lv_at hl 1 rfl) ?_
  refine g_X12_202 Cx hW (k := 231) (by decide) rfl (v := 5) rfl dX12_lay_12 ?_
  refine lv_iload_n hx hb dX12_lay_15 rfl (lv_at hl 2 rfl) ?_
  refine lv_iload_n hx hb dX12_lay_16 rfl (lv_at hl 0 rfl) ?_
  refine lv_ishr hx hb dX12_lay_17 ?_
  refine sCi (v := shrI p1 16) rfl ?_
  refine lv_i2b (v := i2bI (shrI p1 16)) hx hb dX12_lay_18 rfl ?_
  refine sBast Cx hW hL (k := 232) (N := 30000) (by decide) rfl (j := 5) (by decide) (vp_c (by decide)) (y := vp_nar .byte (i2bI (shrI p1 16))) rfl dX12_lay_19 (fun H locs hW hL => ?_)
  refine lv_aload_n hx hb dX12_lay_20 rfl (lv_at hl 1 rfl) ?_
  refine lv_dup hx hb dX12_lay_21 rfl ?_
  refine g_X12_202 Cx hW (k := 231) (by decide) rfl (v := 5) rfl dX12_lay_22 ?_
  refine lv_iconst (v := 1) hx hb dX12_lay_25 (by decide) ?_
  refine lv_iadd hx hb dX12_lay_26 ?_
  refine sCi (v := 6) (by decide) ?_
  refine p_X12_202 Cx hW hL (k := 231) (by decide) rfl dX12_lay_27 (fun H locs hW hL => ?_)
  refine lv_iinc (v := 8) (lv' := [(2, .int 8), (0, .ref (G.2.2.1 + 231)), (1, .int p1)]) hx hb dX12_lay_30 hl (k := 0) rfl (by decide) (by decide) rfl (fun ls hl => ?_)
  refine lv_goto (tgt := 3) hx hb dX12_lay_33 (by decide) ?_
  refine lv_iload_n hx hb dX12_lay_3 rfl (lv_at hl 0 rfl) ?_
  refine lv_if_lt (tgt := 36) hx hb dX12_lay_4 (by decide) (fun c => absurd c (by decide)) (fun _ => ?_)
  refine lv_aload_n hx hb dX12_lay_7 rfl (lv_at hl 1 rfl) ?_
  refine g_X12_9 Cx hW (k := 231) (by decide) rfl (v := .ref (G.2.2.1 + 232)) hR_231_0 dX12_lay_8 ?_
  refine lv_aload_n hx hb dX12_lay_11 rfl (lv_at hl 1 rfl) ?_
  refine g_X12_202 Cx hW (k := 231) (by decide) rfl (v := 6) rfl dX12_lay_12 ?_
  refine lv_iload_n hx hb dX12_lay_15 rfl (lv_at hl 2 rfl) ?_
  refine lv_iload_n hx hb dX12_lay_16 rfl (lv_at hl 0 rfl) ?_
  refine lv_ishr hx hb dX12_lay_17 ?_
  refine sCi (v := shrI p1 8) rfl ?_
  refine lv_i2b (v := i2bI (shrI p1 8)) hx hb dX12_lay_18 rfl ?_
  refine sBast Cx hW hL (k := 232) (N := 30000) (by decide) rfl (j := 6) (by decide) (vp_c (by decide)) (y := vp_nar .byte (i2bI (shrI p1 8))) rfl dX12_lay_19 (fun H locs hW hL => ?_)
  refine lv_aload_n hx hb dX12_lay_20 rfl (lv_at hl 1 rfl) ?_
  refine lv_dup hx hb dX12_lay_21 rfl ?_
  refine g_X12_202 Cx hW (k := 231) (by decide) rfl (v := 6) rfl dX12_lay_22 ?_
  refine lv_iconst (v := 1) hx hb dX12_lay_25 (by decide) ?_
  refine lv_iadd hx hb dX12_lay_26 ?_
  refine sCi (v := 7) (by decide) ?_
  refine p_X12_202 Cx hW hL (k := 231) (by decide) rfl dX12_lay_27 (fun H locs hW hL => ?_)
  refine lv_iinc (v := 0) (lv' := [(2, .int 0), (0, .ref (G.2.2.1 + 231)), (1, .int p1)]) hx hb dX12_lay_30 hl (k := 0) rfl (by decide) (by decide) rfl (fun ls hl => ?_)
  refine lv_goto (tgt := 3) hx hb dX12_lay_33 (by decide) ?_
  refine lv_iload_n hx hb dX12_lay_3 rfl (lv_at hl 0 rfl) ?_
  refine lv_if_lt (tgt := 36) hx hb dX12_lay_4 (by decide) (fun c => absurd c (by decide)) (fun _ => ?_)
  refine lv_aload_n hx hb dX12_lay_7 rfl (lv_at hl 1 rfl) ?_
  refine g_X12_9 Cx hW (k := 231) (by decide) rfl (v := .ref (G.2.2.1 + 232)) hR_231_0 dX12_lay_8 ?_
  refine lv_aload_n hx hb dX12_lay_11 rfl (lv_at hl 1 rfl) ?_
  refine g_X12_202 Cx hW (k := 231) (by decide) rfl (v := 7) rfl dX12_lay_12 ?_
  refine lv_iload_n hx hb dX12_lay_15 rfl (lv_at hl 2 rfl) ?_
  refine lv_iload_n hx hb dX12_lay_16 rfl (lv_at hl 0 rfl) ?_
  refine lv_ishr hx hb dX12_lay_17 ?_
  refine sCi (v := shrI p1 0) rfl ?_
  refine lv_i2b (v := i2bI (shrI p1 0)) hx hb dX12_lay_18 rfl ?_
  refine sBast Cx hW hL (k := 232) (N := 30000) (by decide) rfl (j := 7) (by decide) (vp_c (by decide)) (y := vp_nar .byte (i2bI (shrI p1 0))) rfl dX12_lay_19 (fun H locs hW hL => ?_)
  refine lv_aload_n hx hb dX12_lay_20 rfl (lv_at hl 1 rfl) ?_
  refine lv_dup hx hb dX12_lay_21 rfl ?_
  refine g_X12_202 Cx hW (k := 231) (by decide) rfl (v := 7) rfl dX12_lay_22 ?_
  refine lv_iconst (v := 1) hx hb dX12_lay_25 (by decide) ?_
  refine lv_iadd hx hb dX12_lay_26 ?_
  refine sCi (v := 8) (by decide) ?_
  refine p_X12_202 Cx hW hL (k := 231) (by decide) rfl dX12_lay_27 (fun H locs hW hL => ?_)
  refine lv_iinc (v := (-8)) (lv' := [(2, .int ((-8))), (0, .ref (G.2.2.1 + 231)), (1, .int p1)]) hx hb dX12_lay_30 hl (k := 0) rfl (by decide) (by decide) rfl (fun ls hl => ?_)
  refine lv_goto (tgt := 3) hx hb dX12_lay_33 (by decide) ?_
  refine lv_iload_n hx hb dX12_lay_3 rfl (lv_at hl 0 rfl) ?_
  refine lv_if_lt (tgt := 36) hx hb dX12_lay_4 (by decide) (fun _ => ?_) (fun c => absurd (by decide) c)
  exact sVret Cx hr hlk hW hL rfl dX12_lay_36

set_option maxRecDepth 100000 in
set_option maxHeartbeats 4000000 in
theorem t118_X12_lay (l : Launch) (G : sG) (S : sS) (p1 : Int32) (hR_231_0 : S.2.2 231 0 = .ref (G.2.2.1 + 232)) (hI_231_1 : S.1 231 1 = 8) : Met l yX12_lay (.code yX12_lay cX12_lay 3 none :: tb) (rmk 1 0 0) (sPc G 294 S [.ref (G.2.2.1 + 231), .int p1]) (sQv G 294 (fun u => u = (sI (sI (sI (sI (sI (sI (sI (sI S 232 8 (vp_nar .byte (i2bI (shrI p1 24)))) 231 1 9) 232 9 (vp_nar .byte (i2bI (shrI p1 16)))) 231 1 10) 232 10 (vp_nar .byte (i2bI (shrI p1 8)))) 231 1 11) 232 11 (vp_nar .byte (i2bI (shrI p1 0)))) 231 1 12))) 0 0 (sF G) := by
  refine sEnter (by decide) (Nat.le_of_ble_eq_true rfl) ?_
  intro p e s m args below meth c Cx hr hlk hnm hW ls hl
  have Cx : sC G p m c cX12_lay 3 s args RX12 := Cx
  obtain ⟨hx, hb, hml, hown, hts⟩ := id Cx.1
  have hL : sL G [] := sL_nil
  have hl : lv_has ls 3 [(0, .ref (G.2.2.1 + 231)), (1, .int p1)] := hl
  refine lv_bipush (v := 24) hx hb dX12_lay_0 (by decide) ?_
  refine lv_istore_n (lv' := [(2, .int 24), (0, .ref (G.2.2.1 + 231)), (1, .int p1)]) hx hb dX12_lay_2 rfl hl (by decide) rfl (fun ls hl => ?_)
  refine lv_iload_n hx hb dX12_lay_3 rfl (lv_at hl 0 rfl) ?_
  refine lv_if_lt (tgt := 36) hx hb dX12_lay_4 (by decide) (fun c => absurd c (by decide)) (fun _ => ?_)
  refine lv_aload_n hx hb dX12_lay_7 rfl (lv_at hl 1 rfl) ?_
  refine g_X12_9 Cx hW (k := 231) (by decide) rfl (v := .ref (G.2.2.1 + 232)) hR_231_0 dX12_lay_8 ?_
  refine lv_aload_n hx hb dX12_lay_11 rfl (lv_at hl 1 rfl) ?_
  refine g_X12_202 Cx hW (k := 231) (by decide) rfl (v := 8) hI_231_1 dX12_lay_12 ?_
  refine lv_iload_n hx hb dX12_lay_15 rfl (lv_at hl 2 rfl) ?_
  refine lv_iload_n hx hb dX12_lay_16 rfl (lv_at hl 0 rfl) ?_
  refine lv_ishr hx hb dX12_lay_17 ?_
  refine sCi (v := shrI p1 24) rfl ?_
  refine lv_i2b (v := i2bI (shrI p1 24)) hx hb dX12_lay_18 rfl ?_
  refine sBast Cx hW hL (k := 232) (N := 30000) (by decide) rfl (j := 8) (by decide) (vp_c (by decide)) (y := vp_nar .byte (i2bI (shrI p1 24))) rfl dX12_lay_19 (fun H locs hW hL => ?_)
  refine lv_aload_n hx hb dX12_lay_20 rfl (lv_at hl 1 rfl) ?_
  refine lv_dup hx hb dX12_lay_21 rfl ?_
  refine g_X12_202 Cx hW (k := 231) (by decide) rfl (v := 8) hI_231_1 dX12_lay_22 ?_
  refine lv_iconst (v := 1) hx hb dX12_lay_25 (by decide) ?_
  refine lv_iadd hx hb dX12_lay_26 ?_
  refine sCi (v := 9) (by decide) ?_
  refine p_X12_202 Cx hW hL (k := 231) (by decide) rfl dX12_lay_27 (fun H locs hW hL => ?_)
  refine lv_iinc (v := 16) (lv' := [(2, .int 16), (0, .ref (G.2.2.1 + 231)), (1, .int p1)]) hx hb dX12_lay_30 hl (k := 0) rfl (by decide) (by decide) rfl (fun ls hl => ?_)
  refine lv_goto (tgt := 3) hx hb dX12_lay_33 (by decide) ?_
  refine lv_iload_n hx hb dX12_lay_3 rfl (lv_at hl 0 rfl) ?_
  refine lv_if_lt (tgt := 36) hx hb dX12_lay_4 (by decide) (fun c => absurd c (by decide)) (fun _ => ?_)
  refine lv_aload_n hx hb dX12_lay_7 rfl (lv_at hl 1 rfl) ?_
  refine g_X12_9 Cx hW (k := 231) (by decide) rfl (v := .ref (G.2.2.1 + 232)) hR_231_0 dX12_lay_8 ?_
  refine lv_aload_n hx hb dX12_lay_11 rfl (lv_at hl 1 rfl) ?_
  refine g_X12_202 Cx hW (k := 231) (by decide) rfl (v := 9) rfl dX12_lay_12 ?_
  refine lv_iload_n hx hb dX12_lay_15 rfl (lv_at hl 2 rfl) ?_
  refine lv_iload_n hx hb dX12_lay_16 rfl (lv_at hl 0 rfl) ?_
  refine lv_ishr hx hb dX12_lay_17 ?_
  refine sCi (v := shrI p1 16) rfl ?_
  refine lv_i2b (v := i2bI (shrI p1 16)) hx hb dX12_lay_18 rfl ?_
  refine sBast Cx hW hL (k := 232) (N := 30000) (by decide) rfl (j := 9) (by decide) (vp_c (by decide)) (y := vp_nar .byte (i2bI (shrI p1 16))) rfl dX12_lay_19 (fun H locs hW hL => ?_)
  refine lv_aload_n hx hb dX12_lay_20 rfl (lv_at hl 1 rfl) ?_
  refine lv_dup hx hb dX12_lay_21 rfl ?_
  refine g_X12_202 Cx hW (k := 231) (by decide) rfl (v := 9) rfl dX12_lay_22 ?_
  refine lv_iconst (v := 1) hx hb dX12_lay_25 (by decide) ?_
  refine lv_iadd hx hb dX12_lay_26 ?_
  refine sCi (v := 10) (by decide) ?_
  refine p_X12_202 Cx hW hL (k := 231) (by decide) rfl dX12_lay_27 (fun H locs hW hL => ?_)
  refine lv_iinc (v := 8) (lv' := [(2, .int 8), (0, .ref (G.2.2.1 + 231)), (1, .int p1)]) hx hb dX12_lay_30 hl (k := 0) rfl (by decide) (by decide) rfl (fun ls hl => ?_)
  refine lv_goto (tgt := 3) hx hb dX12_lay_33 (by decide) ?_
  refine lv_iload_n hx hb dX12_lay_3 rfl (lv_at hl 0 rfl) ?_
  refine lv_if_lt (tgt := 36) hx hb dX12_lay_4 (by decide) (fun c => absurd c (by decide)) (fun _ => ?_)
  refine lv_aload_n hx hb dX12_lay_7 rfl (lv_at hl 1 rfl) ?_
  refine g_X12_9 Cx hW (k := 231) (by decide) rfl (v := .ref (G.2.2.1 + 232)) hR_231_0 dX12_lay_8 ?_
  refine lv_aload_n hx hb dX12_lay_11 rfl (lv_at hl 1 rfl) ?_
  refine g_X12_202 Cx hW (k := 231) (by decide) rfl (v := 10) rfl dX12_lay_12 ?_
  refine lv_iload_n hx hb dX12_lay_15 rfl (lv_at hl 2 rfl) ?_
  refine lv_iload_n hx hb dX12_lay_16 rfl (lv_at hl 0 rfl) ?_
  refine lv_ishr hx hb dX12_lay_17 ?_
  refine sCi (v := shrI p1 8) rfl ?_
  refine lv_i2b (v := i2bI (shrI p1 8)) hx hb dX12_lay_18 rfl ?_
  refine sBast Cx hW hL (k := 232) (N := 30000) (by decide) rfl (j := 10) (by decide) (vp_c (by decide)) (y := vp_nar .byte (i2bI (shrI p1 8))) rfl dX12_lay_19 (fun H locs hW hL => ?_)
  refine lv_aload_n hx hb dX12_lay_20 rfl (lv_at hl 1 rfl) ?_
  refine lv_dup hx hb dX12_lay_21 rfl ?_
  refine g_X12_202 Cx hW (k := 231) (by decide) rfl (v := 10) rfl dX12_lay_22 ?_
  refine lv_iconst (v := 1) hx hb dX12_lay_25 (by decide) ?_
  refine lv_iadd hx hb dX12_lay_26 ?_
  refine sCi (v := 11) (by decide) ?_
  refine p_X12_202 Cx hW hL (k := 231) (by decide) rfl dX12_lay_27 (fun H locs hW hL => ?_)
  refine lv_iinc (v := 0) (lv' := [(2, .int 0), (0, .ref (G.2.2.1 + 231)), (1, .int p1)]) hx hb dX12_lay_30 hl (k := 0) rfl (by decide) (by decide) rfl (fun ls hl => ?_)
  refine lv_goto (tgt := 3) hx hb dX12_lay_33 (by decide) ?_
  refine lv_iload_n hx hb dX12_lay_3 rfl (lv_at hl 0 rfl) ?_
  refine lv_if_lt (tgt := 36) hx hb dX12_lay_4 (by decide) (fun c => absurd c (by decide)) (fun _ => ?_)
  refine lv_aload_n hx hb dX12_lay_7 rfl (lv_at hl 1 rfl) ?_
  refine g_X12_9 Cx hW (k := 231) (by decide) rfl (v := .ref (G.2.2.1 + 232)) hR_231_0 dX12_lay_8 ?_
  refine lv_aload_n hx hb dX12_lay_11 rfl (lv_at hl 1 rfl) ?_
  refine g_X12_202 Cx hW (k := 231) (by decide) rfl (v := 11) rfl dX12_lay_12 ?_
  refine lv_iload_n hx hb dX12_lay_15 rfl (lv_at hl 2 rfl) ?_
  refine lv_iload_n hx hb dX12_lay_16 rfl (lv_at hl 0 rfl) ?_
  refine lv_ishr hx hb dX12_lay_17 ?_
  refine sCi (v := shrI p1 0) rfl ?_
  refine lv_i2b (v := i2bI (shrI p1 0)) hx hb dX12_lay_18 rfl ?_
  refine sBast Cx hW hL (k := 232) (N := 30000) (by decide) rfl (j := 11) (by decide) (vp_c (by decide)) (y := vp_nar .byte (i2bI (shrI p1 0))) rfl dX12_lay_19 (fun H locs hW hL => ?_)
  refine lv_aload_n hx hb dX12_lay_20 rfl (lv_at hl 1 rfl) ?_
  refine lv_dup hx hb dX12_lay_21 rfl ?_
  refine g_X12_202 Cx hW (k := 231) (by decide) rfl (v := 11) rfl dX12_lay_22 ?_
  refine lv_iconst (v := 1) hx hb dX12_lay_25 (by decide) ?_
  refine lv_iadd hx hb dX12_lay_26 ?_
  refine sCi (v := 12) (by decide) ?_
  refine p_X12_202 Cx hW hL (k := 231) (by decide) rfl dX12_lay_27 (fun H locs hW hL => ?_)
  refine lv_iinc (v := (-8)) (lv' := [(2, .int ((-8))), (0, .ref (G.2.2.1 + 231)), (1, .int p1)]) hx hb dX12_lay_30 hl (k := 0) rfl (by decide) (by decide) rfl (fun ls hl => ?_)
  refine lv_goto (tgt := 3) hx hb dX12_lay_33 (by decide) ?_
  refine lv_iload_n hx hb dX12_lay_3 rfl (lv_at hl 0 rfl) ?_
  refine lv_if_lt (tgt := 36) hx hb dX12_lay_4 (by decide) (fun _ => ?_) (fun c => absurd (by decide) c)
  exact sVret Cx hr hlk hW hL rfl dX12_lay_36

set_option maxRecDepth 100000 in
set_option maxHeartbeats 4000000 in
theorem t119_X12_lay (l : Launch) (G : sG) (S : sS) (p1 : Int32) (hR_231_0 : S.2.2 231 0 = .ref (G.2.2.1 + 232)) (hI_231_1 : S.1 231 1 = 12) : Met l yX12_lay (.code yX12_lay cX12_lay 3 none :: tb) (rmk 1 0 0) (sPc G 294 S [.ref (G.2.2.1 + 231), .int p1]) (sQv G 294 (fun u => u = (sI (sI (sI (sI (sI (sI (sI (sI S 232 12 (vp_nar .byte (i2bI (shrI p1 24)))) 231 1 13) 232 13 (vp_nar .byte (i2bI (shrI p1 16)))) 231 1 14) 232 14 (vp_nar .byte (i2bI (shrI p1 8)))) 231 1 15) 232 15 (vp_nar .byte (i2bI (shrI p1 0)))) 231 1 16))) 0 0 (sF G) := by
  refine sEnter (by decide) (Nat.le_of_ble_eq_true rfl) ?_
  intro p e s m args below meth c Cx hr hlk hnm hW ls hl
  have Cx : sC G p m c cX12_lay 3 s args RX12 := Cx
  obtain ⟨hx, hb, hml, hown, hts⟩ := id Cx.1
  have hL : sL G [] := sL_nil
  have hl : lv_has ls 3 [(0, .ref (G.2.2.1 + 231)), (1, .int p1)] := hl
  refine lv_bipush (v := 24) hx hb dX12_lay_0 (by decide) ?_
  refine lv_istore_n (lv' := [(2, .int 24), (0, .ref (G.2.2.1 + 231)), (1, .int p1)]) hx hb dX12_lay_2 rfl hl (by decide) rfl (fun ls hl => ?_)
  refine lv_iload_n hx hb dX12_lay_3 rfl (lv_at hl 0 rfl) ?_
  refine lv_if_lt (tgt := 36) hx hb dX12_lay_4 (by decide) (fun c => absurd c (by decide)) (fun _ => ?_)
  refine lv_aload_n hx hb dX12_lay_7 rfl (lv_at hl 1 rfl) ?_
  refine g_X12_9 Cx hW (k := 231) (by decide) rfl (v := .ref (G.2.2.1 + 232)) hR_231_0 dX12_lay_8 ?_
  refine lv_aload_n hx hb dX12_lay_11 rfl (lv_at hl 1 rfl) ?_
  refine g_X12_202 Cx hW (k := 231) (by decide) rfl (v := 12) hI_231_1 dX12_lay_12 ?_
  refine lv_iload_n hx hb dX12_lay_15 rfl (lv_at hl 2 rfl) ?_
  refine lv_iload_n hx hb dX12_lay_16 rfl (lv_at hl 0 rfl) ?_
  refine lv_ishr hx hb dX12_lay_17 ?_
  refine sCi (v := shrI p1 24) rfl ?_
  refine lv_i2b (v := i2bI (shrI p1 24)) hx hb dX12_lay_18 rfl ?_
  refine sBast Cx hW hL (k := 232) (N := 30000) (by decide) rfl (j := 12) (by decide) (vp_c (by decide)) (y := vp_nar .byte (i2bI (shrI p1 24))) rfl dX12_lay_19 (fun H locs hW hL => ?_)
  refine lv_aload_n hx hb dX12_lay_20 rfl (lv_at hl 1 rfl) ?_
  refine lv_dup hx hb dX12_lay_21 rfl ?_
  refine g_X12_202 Cx hW (k := 231) (by decide) rfl (v := 12) hI_231_1 dX12_lay_22 ?_
  refine lv_iconst (v := 1) hx hb dX12_lay_25 (by decide) ?_
  refine lv_iadd hx hb dX12_lay_26 ?_
  refine sCi (v := 13) (by decide) ?_
  refine p_X12_202 Cx hW hL (k := 231) (by decide) rfl dX12_lay_27 (fun H locs hW hL => ?_)
  refine lv_iinc (v := 16) (lv' := [(2, .int 16), (0, .ref (G.2.2.1 + 231)), (1, .int p1)]) hx hb dX12_lay_30 hl (k := 0) rfl (by decide) (by decide) rfl (fun ls hl => ?_)
  refine lv_goto (tgt := 3) hx hb dX12_lay_33 (by decide) ?_
  refine lv_iload_n hx hb dX12_lay_3 rfl (lv_at hl 0 rfl) ?_
  refine lv_if_lt (tgt := 36) hx hb dX12_lay_4 (by decide) (fun c => absurd c (by decide)) (fun _ => ?_)
  refine lv_aload_n hx hb dX12_lay_7 rfl (lv_at hl 1 rfl) ?_
  refine g_X12_9 Cx hW (k := 231) (by decide) rfl (v := .ref (G.2.2.1 + 232)) hR_231_0 dX12_lay_8 ?_
  refine lv_aload_n hx hb dX12_lay_11 rfl (lv_at hl 1 rfl) ?_
  refine g_X12_202 Cx hW (k := 231) (by decide) rfl (v := 13) rfl dX12_lay_12 ?_
  refine lv_iload_n hx hb dX12_lay_15 rfl (lv_at hl 2 rfl) ?_
  refine lv_iload_n hx hb dX12_lay_16 rfl (lv_at hl 0 rfl) ?_
  refine lv_ishr hx hb dX12_lay_17 ?_
  refine sCi (v := shrI p1 16) rfl ?_
  refine lv_i2b (v := i2bI (shrI p1 16)) hx hb dX12_lay_18 rfl ?_
  refine sBast Cx hW hL (k := 232) (N := 30000) (by decide) rfl (j := 13) (by decide) (vp_c (by decide)) (y := vp_nar .byte (i2bI (shrI p1 16))) rfl dX12_lay_19 (fun H locs hW hL => ?_)
  refine lv_aload_n hx hb dX12_lay_20 rfl (lv_at hl 1 rfl) ?_
  refine lv_dup hx hb dX12_lay_21 rfl ?_
  refine g_X12_202 Cx hW (k := 231) (by decide) rfl (v := 13) rfl dX12_lay_22 ?_
  refine lv_iconst (v := 1) hx hb dX12_lay_25 (by decide) ?_
  refine lv_iadd hx hb dX12_lay_26 ?_
  refine sCi (v := 14) (by decide) ?_
  refine p_X12_202 Cx hW hL (k := 231) (by decide) rfl dX12_lay_27 (fun H locs hW hL => ?_)
  refine lv_iinc (v := 8) (lv' := [(2, .int 8), (0, .ref (G.2.2.1 + 231)), (1, .int p1)]) hx hb dX12_lay_30 hl (k := 0) rfl (by decide) (by decide) rfl (fun ls hl => ?_)
  refine lv_goto (tgt := 3) hx hb dX12_lay_33 (by decide) ?_
  refine lv_iload_n hx hb dX12_lay_3 rfl (lv_at hl 0 rfl) ?_
  refine lv_if_lt (tgt := 36) hx hb dX12_lay_4 (by decide) (fun c => absurd c (by decide)) (fun _ => ?_)
  refine lv_aload_n hx hb dX12_lay_7 rfl (lv_at hl 1 rfl) ?_
  refine g_X12_9 Cx hW (k := 231) (by decide) rfl (v := .ref (G.2.2.1 + 232)) hR_231_0 dX12_lay_8 ?_
  refine lv_aload_n hx hb dX12_lay_11 rfl (lv_at hl 1 rfl) ?_
  refine g_X12_202 Cx hW (k := 231) (by decide) rfl (v := 14) rfl dX12_lay_12 ?_
  refine lv_iload_n hx hb dX12_lay_15 rfl (lv_at hl 2 rfl) ?_
  refine lv_iload_n hx hb dX12_lay_16 rfl (lv_at hl 0 rfl) ?_
  refine lv_ishr hx hb dX12_lay_17 ?_
  refine sCi (v := shrI p1 8) rfl ?_
  refine lv_i2b (v := i2bI (shrI p1 8)) hx hb dX12_lay_18 rfl ?_
  refine sBast Cx hW hL (k := 232) (N := 30000) (by decide) rfl (j := 14) (by decide) (vp_c (by decide)) (y := vp_nar .byte (i2bI (shrI p1 8))) rfl dX12_lay_19 (fun H locs hW hL => ?_)
  refine lv_aload_n hx hb dX12_lay_20 rfl (lv_at hl 1 rfl) ?_
  refine lv_dup hx hb dX12_lay_21 rfl ?_
  refine g_X12_202 Cx hW (k := 231) (by decide) rfl (v := 14) rfl dX12_lay_22 ?_
  refine lv_iconst (v := 1) hx hb dX12_lay_25 (by decide) ?_
  refine lv_iadd hx hb dX12_lay_26 ?_
  refine sCi (v := 15) (by decide) ?_
  refine p_X12_202 Cx hW hL (k := 231) (by decide) rfl dX12_lay_27 (fun H locs hW hL => ?_)
  refine lv_iinc (v := 0) (lv' := [(2, .int 0), (0, .ref (G.2.2.1 + 231)), (1, .int p1)]) hx hb dX12_lay_30 hl (k := 0) rfl (by decide) (by decide) rfl (fun ls hl => ?_)
  refine lv_goto (tgt := 3) hx hb dX12_lay_33 (by decide) ?_
  refine lv_iload_n hx hb dX12_lay_3 rfl (lv_at hl 0 rfl) ?_
  refine lv_if_lt (tgt := 36) hx hb dX12_lay_4 (by decide) (fun c => absurd c (by decide)) (fun _ => ?_)
  refine lv_aload_n hx hb dX12_lay_7 rfl (lv_at hl 1 rfl) ?_
  refine g_X12_9 Cx hW (k := 231) (by decide) rfl (v := .ref (G.2.2.1 + 232)) hR_231_0 dX12_lay_8 ?_
  refine lv_aload_n hx hb dX12_lay_11 rfl (lv_at hl 1 rfl) ?_
  refine g_X12_202 Cx hW (k := 231) (by decide) rfl (v := 15) rfl dX12_lay_12 ?_
  refine lv_iload_n hx hb dX12_lay_15 rfl (lv_at hl 2 rfl) ?_
  refine lv_iload_n hx hb dX12_lay_16 rfl (lv_at hl 0 rfl) ?_
  refine lv_ishr hx hb dX12_lay_17 ?_
  refine sCi (v := shrI p1 0) rfl ?_
  refine lv_i2b (v := i2bI (shrI p1 0)) hx hb dX12_lay_18 rfl ?_
  refine sBast Cx hW hL (k := 232) (N := 30000) (by decide) rfl (j := 15) (by decide) (vp_c (by decide)) (y := vp_nar .byte (i2bI (shrI p1 0))) rfl dX12_lay_19 (fun H locs hW hL => ?_)
  refine lv_aload_n hx hb dX12_lay_20 rfl (lv_at hl 1 rfl) ?_
  refine lv_dup hx hb dX12_lay_21 rfl ?_
  refine g_X12_202 Cx hW (k := 231) (by decide) rfl (v := 15) rfl dX12_lay_22 ?_
  refine lv_iconst (v := 1) hx hb dX12_lay_25 (by decide) ?_
  refine lv_iadd hx hb dX12_lay_26 ?_
  refine sCi (v := 16) (by decide) ?_
  refine p_X12_202 Cx hW hL (k := 231) (by decide) rfl dX12_lay_27 (fun H locs hW hL => ?_)
  refine lv_iinc (v := (-8)) (lv' := [(2, .int ((-8))), (0, .ref (G.2.2.1 + 231)), (1, .int p1)]) hx hb dX12_lay_30 hl (k := 0) rfl (by decide) (by decide) rfl (fun ls hl => ?_)
  refine lv_goto (tgt := 3) hx hb dX12_lay_33 (by decide) ?_
  refine lv_iload_n hx hb dX12_lay_3 rfl (lv_at hl 0 rfl) ?_
  refine lv_if_lt (tgt := 36) hx hb dX12_lay_4 (by decide) (fun _ => ?_) (fun c => absurd (by decide) c)
  exact sVret Cx hr hlk hW hL rfl dX12_lay_36

set_option maxRecDepth 100000 in
set_option maxHeartbeats 4000000 in
theorem t120_X12_lay (l : Launch) (G : sG) (S : sS) (p1 : Int32) (hR_231_0 : S.2.2 231 0 = .ref (G.2.2.1 + 232)) (hI_231_1 : S.1 231 1 = 16) : Met l yX12_lay (.code yX12_lay cX12_lay 3 none :: tb) (rmk 1 0 0) (sPc G 294 S [.ref (G.2.2.1 + 231), .int p1]) (sQv G 294 (fun u => u = (sI (sI (sI (sI (sI (sI (sI (sI S 232 16 (vp_nar .byte (i2bI (shrI p1 24)))) 231 1 17) 232 17 (vp_nar .byte (i2bI (shrI p1 16)))) 231 1 18) 232 18 (vp_nar .byte (i2bI (shrI p1 8)))) 231 1 19) 232 19 (vp_nar .byte (i2bI (shrI p1 0)))) 231 1 20))) 0 0 (sF G) := by
  refine sEnter (by decide) (Nat.le_of_ble_eq_true rfl) ?_
  intro p e s m args below meth c Cx hr hlk hnm hW ls hl
  have Cx : sC G p m c cX12_lay 3 s args RX12 := Cx
  obtain ⟨hx, hb, hml, hown, hts⟩ := id Cx.1
  have hL : sL G [] := sL_nil
  have hl : lv_has ls 3 [(0, .ref (G.2.2.1 + 231)), (1, .int p1)] := hl
  refine lv_bipush (v := 24) hx hb dX12_lay_0 (by decide) ?_
  refine lv_istore_n (lv' := [(2, .int 24), (0, .ref (G.2.2.1 + 231)), (1, .int p1)]) hx hb dX12_lay_2 rfl hl (by decide) rfl (fun ls hl => ?_)
  refine lv_iload_n hx hb dX12_lay_3 rfl (lv_at hl 0 rfl) ?_
  refine lv_if_lt (tgt := 36) hx hb dX12_lay_4 (by decide) (fun c => absurd c (by decide)) (fun _ => ?_)
  refine lv_aload_n hx hb dX12_lay_7 rfl (lv_at hl 1 rfl) ?_
  refine g_X12_9 Cx hW (k := 231) (by decide) rfl (v := .ref (G.2.2.1 + 232)) hR_231_0 dX12_lay_8 ?_
  refine lv_aload_n hx hb dX12_lay_11 rfl (lv_at hl 1 rfl) ?_
  refine g_X12_202 Cx hW (k := 231) (by decide) rfl (v := 16) hI_231_1 dX12_lay_12 ?_
  refine lv_iload_n hx hb dX12_lay_15 rfl (lv_at hl 2 rfl) ?_
  refine lv_iload_n hx hb dX12_lay_16 rfl (lv_at hl 0 rfl) ?_
  refine lv_ishr hx hb dX12_lay_17 ?_
  refine sCi (v := shrI p1 24) rfl ?_
  refine lv_i2b (v := i2bI (shrI p1 24)) hx hb dX12_lay_18 rfl ?_
  refine sBast Cx hW hL (k := 232) (N := 30000) (by decide) rfl (j := 16) (by decide) (vp_c (by decide)) (y := vp_nar .byte (i2bI (shrI p1 24))) rfl dX12_lay_19 (fun H locs hW hL => ?_)
  refine lv_aload_n hx hb dX12_lay_20 rfl (lv_at hl 1 rfl) ?_
  refine lv_dup hx hb dX12_lay_21 rfl ?_
  refine g_X12_202 Cx hW (k := 231) (by decide) rfl (v := 16) hI_231_1 dX12_lay_22 ?_
  refine lv_iconst (v := 1) hx hb dX12_lay_25 (by decide) ?_
  refine lv_iadd hx hb dX12_lay_26 ?_
  refine sCi (v := 17) (by decide) ?_
  refine p_X12_202 Cx hW hL (k := 231) (by decide) rfl dX12_lay_27 (fun H locs hW hL => ?_)
  refine lv_iinc (v := 16) (lv' := [(2, .int 16), (0, .ref (G.2.2.1 + 231)), (1, .int p1)]) hx hb dX12_lay_30 hl (k := 0) rfl (by decide) (by decide) rfl (fun ls hl => ?_)
  refine lv_goto (tgt := 3) hx hb dX12_lay_33 (by decide) ?_
  refine lv_iload_n hx hb dX12_lay_3 rfl (lv_at hl 0 rfl) ?_
  refine lv_if_lt (tgt := 36) hx hb dX12_lay_4 (by decide) (fun c => absurd c (by decide)) (fun _ => ?_)
  refine lv_aload_n hx hb dX12_lay_7 rfl (lv_at hl 1 rfl) ?_
  refine g_X12_9 Cx hW (k := 231) (by decide) rfl (v := .ref (G.2.2.1 + 232)) hR_231_0 dX12_lay_8 ?_
  refine lv_aload_n hx hb dX12_lay_11 rfl (lv_at hl 1 rfl) ?_
  refine g_X12_202 Cx hW (k := 231) (by decide) rfl (v := 17) rfl dX12_lay_12 ?_
  refine lv_iload_n hx hb dX12_lay_15 rfl (lv_at hl 2 rfl) ?_
  refine lv_iload_n hx hb dX12_lay_16 rfl (lv_at hl 0 rfl) ?_
  refine lv_ishr hx hb dX12_lay_17 ?_
  refine sCi (v := shrI p1 16) rfl ?_
  refine lv_i2b (v := i2bI (shrI p1 16)) hx hb dX12_lay_18 rfl ?_
  refine sBast Cx hW hL (k := 232) (N := 30000) (by decide) rfl (j := 17) (by decide) (vp_c (by decide)) (y := vp_nar .byte (i2bI (shrI p1 16))) rfl dX12_lay_19 (fun H locs hW hL => ?_)
  refine lv_aload_n hx hb dX12_lay_20 rfl (lv_at hl 1 rfl) ?_
  refine lv_dup hx hb dX12_lay_21 rfl ?_
  refine g_X12_202 Cx hW (k := 231) (by decide) rfl (v := 17) rfl dX12_lay_22 ?_
  refine lv_iconst (v := 1) hx hb dX12_lay_25 (by decide) ?_
  refine lv_iadd hx hb dX12_lay_26 ?_
  refine sCi (v := 18) (by decide) ?_
  refine p_X12_202 Cx hW hL (k := 231) (by decide) rfl dX12_lay_27 (fun H locs hW hL => ?_)
  refine lv_iinc (v := 8) (lv' := [(2, .int 8), (0, .ref (G.2.2.1 + 231)), (1, .int p1)]) hx hb dX12_lay_30 hl (k := 0) rfl (by decide) (by decide) rfl (fun ls hl => ?_)
  refine lv_goto (tgt := 3) hx hb dX12_lay_33 (by decide) ?_
  refine lv_iload_n hx hb dX12_lay_3 rfl (lv_at hl 0 rfl) ?_
  refine lv_if_lt (tgt := 36) hx hb dX12_lay_4 (by decide) (fun c => absurd c (by decide)) (fun _ => ?_)
  refine lv_aload_n hx hb dX12_lay_7 rfl (lv_at hl 1 rfl) ?_
  refine g_X12_9 Cx hW (k := 231) (by decide) rfl (v := .ref (G.2.2.1 + 232)) hR_231_0 dX12_lay_8 ?_
  refine lv_aload_n hx hb dX12_lay_11 rfl (lv_at hl 1 rfl) ?_
  refine g_X12_202 Cx hW (k := 231) (by decide) rfl (v := 18) rfl dX12_lay_12 ?_
  refine lv_iload_n hx hb dX12_lay_15 rfl (lv_at hl 2 rfl) ?_
  refine lv_iload_n hx hb dX12_lay_16 rfl (lv_at hl 0 rfl) ?_
  refine lv_ishr hx hb dX12_lay_17 ?_
  refine sCi (v := shrI p1 8) rfl ?_
  refine lv_i2b (v := i2bI (shrI p1 8)) hx hb dX12_lay_18 rfl ?_
  refine sBast Cx hW hL (k := 232) (N := 30000) (by decide) rfl (j := 18) (by decide) (vp_c (by decide)) (y := vp_nar .byte (i2bI (shrI p1 8))) rfl dX12_lay_19 (fun H locs hW hL => ?_)
  refine lv_aload_n hx hb dX12_lay_20 rfl (lv_at hl 1 rfl) ?_
  refine lv_dup hx hb dX12_lay_21 rfl ?_
  refine g_X12_202 Cx hW (k := 231) (by decide) rfl (v := 18) rfl dX12_lay_22 ?_
  refine lv_iconst (v := 1) hx hb dX12_lay_25 (by decide) ?_
  refine lv_iadd hx hb dX12_lay_26 ?_
  refine sCi (v := 19) (by decide) ?_
  refine p_X12_202 Cx hW hL (k := 231) (by decide) rfl dX12_lay_27 (fun H locs hW hL => ?_)
  refine lv_iinc (v := 0) (lv' := [(2, .int 0), (0, .ref (G.2.2.1 + 231)), (1, .int p1)]) hx hb dX12_lay_30 hl (k := 0) rfl (by decide) (by decide) rfl (fun ls hl => ?_)
  refine lv_goto (tgt := 3) hx hb dX12_lay_33 (by decide) ?_
  refine lv_iload_n hx hb dX12_lay_3 rfl (lv_at hl 0 rfl) ?_
  refine lv_if_lt (tgt := 36) hx hb dX12_lay_4 (by decide) (fun c => absurd c (by decide)) (fun _ => ?_)
  refine lv_aload_n hx hb dX12_lay_7 rfl (lv_at hl 1 rfl) ?_
  refine g_X12_9 Cx hW (k := 231) (by decide) rfl (v := .ref (G.2.2.1 + 232)) hR_231_0 dX12_lay_8 ?_
  refine lv_aload_n hx hb dX12_lay_11 rfl (lv_at hl 1 rfl) ?_
  refine g_X12_202 Cx hW (k := 231) (by decide) rfl (v := 19) rfl dX12_lay_12 ?_
  refine lv_iload_n hx hb dX12_lay_15 rfl (lv_at hl 2 rfl) ?_
  refine lv_iload_n hx hb dX12_lay_16 rfl (lv_at hl 0 rfl) ?_
  refine lv_ishr hx hb dX12_lay_17 ?_
  refine sCi (v := shrI p1 0) rfl ?_
  refine lv_i2b (v := i2bI (shrI p1 0)) hx hb dX12_lay_18 rfl ?_
  refine sBast Cx hW hL (k := 232) (N := 30000) (by decide) rfl (j := 19) (by decide) (vp_c (by decide)) (y := vp_nar .byte (i2bI (shrI p1 0))) rfl dX12_lay_19 (fun H locs hW hL => ?_)
  refine lv_aload_n hx hb dX12_lay_20 rfl (lv_at hl 1 rfl) ?_
  refine lv_dup hx hb dX12_lay_21 rfl ?_
  refine g_X12_202 Cx hW (k := 231) (by decide) rfl (v := 19) rfl dX12_lay_22 ?_
  refine lv_iconst (v := 1) hx hb dX12_lay_25 (by decide) ?_
  refine lv_iadd hx hb dX12_lay_26 ?_
  refine sCi (v := 20) (by decide) ?_
  refine p_X12_202 Cx hW hL (k := 231) (by decide) rfl dX12_lay_27 (fun H locs hW hL => ?_)
  refine lv_iinc (v := (-8)) (lv' := [(2, .int ((-8))), (0, .ref (G.2.2.1 + 231)), (1, .int p1)]) hx hb dX12_lay_30 hl (k := 0) rfl (by decide) (by decide) rfl (fun ls hl => ?_)
  refine lv_goto (tgt := 3) hx hb dX12_lay_33 (by decide) ?_
  refine lv_iload_n hx hb dX12_lay_3 rfl (lv_at hl 0 rfl) ?_
  refine lv_if_lt (tgt := 36) hx hb dX12_lay_4 (by decide) (fun _ => ?_) (fun c => absurd (by decide) c)
  exact sVret Cx hr hlk hW hL rfl dX12_lay_36

set_option maxRecDepth 100000 in
set_option maxHeartbeats 4000000 in
theorem m_X12_feed (l : Launch) (G : sG) (S : sS) (p1 : Int32) (p2 : Int32) (p3 : Int32) (p4 : Int32) (p5 : Int32) (hI_231_1 : S.1 231 1 = 0) (hR_231_0 : S.2.2 231 0 = .ref (G.2.2.1 + 232)) : Met l yX12_feed (.code yX12_feed cX12_feed 6 (some .int) :: tb) (rmk 2 0 0) (sPc G 294 S [.ref (G.2.2.1 + 231), .int p1, .int p2, .int p3, .int p4, .int p5]) (sQi G 294 (fun r u => r = 20 ∧ u = (sI (sI (sI (sI (sI (sI (sI (sI (sI (sI (sI (sI (sI (sI (sI (sI (sI (sI (sI (sI (sI (sI (sI (sI (sI (sI (sI (sI (sI (sI (sI (sI (sI (sI (sI (sI (sI (sI (sI (sI S 232 0 (vp_nar .byte (i2bI (shrI p1 24)))) 231 1 1) 232 1 (vp_nar .byte (i2bI (shrI p1 16)))) 231 1 2) 232 2 (vp_nar .byte (i2bI (shrI p1 8)))) 231 1 3) 232 3 (vp_nar .byte (i2bI (shrI p1 0)))) 231 1 4) 232 4 (vp_nar .byte (i2bI (shrI p2 24)))) 231 1 5) 232 5 (vp_nar .byte (i2bI (shrI p2 16)))) 231 1 6) 232 6 (vp_nar .byte (i2bI (shrI p2 8)))) 231 1 7) 232 7 (vp_nar .byte (i2bI (shrI p2 0)))) 231 1 8) 232 8 (vp_nar .byte (i2bI (shrI p3 24)))) 231 1 9) 232 9 (vp_nar .byte (i2bI (shrI p3 16)))) 231 1 10) 232 10 (vp_nar .byte (i2bI (shrI p3 8)))) 231 1 11) 232 11 (vp_nar .byte (i2bI (shrI p3 0)))) 231 1 12) 232 12 (vp_nar .byte (i2bI (shrI p4 24)))) 231 1 13) 232 13 (vp_nar .byte (i2bI (shrI p4 16)))) 231 1 14) 232 14 (vp_nar .byte (i2bI (shrI p4 8)))) 231 1 15) 232 15 (vp_nar .byte (i2bI (shrI p4 0)))) 231 1 16) 232 16 (vp_nar .byte (i2bI (shrI p5 24)))) 231 1 17) 232 17 (vp_nar .byte (i2bI (shrI p5 16)))) 231 1 18) 232 18 (vp_nar .byte (i2bI (shrI p5 8)))) 231 1 19) 232 19 (vp_nar .byte (i2bI (shrI p5 0)))) 231 1 20))) 0 0 (sF G) := by
  refine sEnter (by decide) (Nat.le_of_ble_eq_true rfl) ?_
  intro p e s m args below meth c Cx hr hlk hnm hW ls hl
  have Cx : sC G p m c cX12_feed 6 s args RX12 := Cx
  obtain ⟨hx, hb, hml, hown, hts⟩ := id Cx.1
  have hL : sL G [] := sL_nil
  have hl : lv_has ls 6 [(0, .ref (G.2.2.1 + 231)), (1, .int p1), (2, .int p2), (3, .int p3), (4, .int p4), (5, .int p5)] := hl
  refine lv_aload_n hx hb dX12_feed_0 rfl (lv_at hl 0 rfl) ?_
  refine g_X12_202 Cx hW (k := 231) (by decide) rfl (v := 0) hI_231_1 dX12_feed_1 ?_
  refine lv_bipush (v := 20) hx hb dX12_feed_4 (by decide) ?_
  refine lv_iadd hx hb dX12_feed_6 ?_
  refine sCi (v := 20) (by decide) ?_
  refine lv_sipush (v := 30000) hx hb dX12_feed_7 (by decide) ?_
  refine lv_icmp_le (tgt := 15) hx hb dX12_feed_10 (by decide) (fun _ => ?_) (fun c => absurd (by decide) c)
  refine lv_aload_n hx hb dX12_feed_15 rfl (lv_at hl 0 rfl) ?_
  refine lv_iload_n hx hb dX12_feed_16 rfl (lv_at hl 1 rfl) ?_
  refine sBvE (sV (As := [.int p1]) (rest := []) (k := 231) Cx (t116_X12_lay l G S (p1) hR_231_0 hI_231_1) (c_X12_206 Cx rfl rfl ⟨Nat.le_of_ble_eq_true rfl, Nat.le_of_ble_eq_true rfl⟩) hW (by decide) rfl rfl rfl hl.1 rfl (Nat.le_of_ble_eq_true rfl) dX12_feed_17 ⟨Nat.le_of_ble_eq_true rfl, Nat.le_of_ble_eq_true rfl⟩) hL (fun H locs hW hL => ?_)
  refine lv_aload_n hx hb dX12_feed_20 rfl (lv_at hl 0 rfl) ?_
  refine lv_iload_n hx hb dX12_feed_21 rfl (lv_at hl 2 rfl) ?_
  refine sBvE (sV (As := [.int p2]) (rest := []) (k := 231) Cx (t117_X12_lay l G (sI (sI (sI (sI (sI (sI (sI (sI S 232 0 (vp_nar .byte (i2bI (shrI p1 24)))) 231 1 1) 232 1 (vp_nar .byte (i2bI (shrI p1 16)))) 231 1 2) 232 2 (vp_nar .byte (i2bI (shrI p1 8)))) 231 1 3) 232 3 (vp_nar .byte (i2bI (shrI p1 0)))) 231 1 4) (p2) hR_231_0 rfl) (c_X12_206 Cx rfl rfl ⟨Nat.le_of_ble_eq_true rfl, Nat.le_of_ble_eq_true rfl⟩) hW (by decide) rfl rfl rfl hl.1 rfl (Nat.le_of_ble_eq_true rfl) dX12_feed_22 ⟨Nat.le_of_ble_eq_true rfl, Nat.le_of_ble_eq_true rfl⟩) hL (fun H locs hW hL => ?_)
  refine lv_aload_n hx hb dX12_feed_25 rfl (lv_at hl 0 rfl) ?_
  refine lv_iload_n hx hb dX12_feed_26 rfl (lv_at hl 3 rfl) ?_
  refine sBvE (sV (As := [.int p3]) (rest := []) (k := 231) Cx (t118_X12_lay l G (sI (sI (sI (sI (sI (sI (sI (sI (sI (sI (sI (sI (sI (sI (sI (sI S 232 0 (vp_nar .byte (i2bI (shrI p1 24)))) 231 1 1) 232 1 (vp_nar .byte (i2bI (shrI p1 16)))) 231 1 2) 232 2 (vp_nar .byte (i2bI (shrI p1 8)))) 231 1 3) 232 3 (vp_nar .byte (i2bI (shrI p1 0)))) 231 1 4) 232 4 (vp_nar .byte (i2bI (shrI p2 24)))) 231 1 5) 232 5 (vp_nar .byte (i2bI (shrI p2 16)))) 231 1 6) 232 6 (vp_nar .byte (i2bI (shrI p2 8)))) 231 1 7) 232 7 (vp_nar .byte (i2bI (shrI p2 0)))) 231 1 8) (p3) hR_231_0 rfl) (c_X12_206 Cx rfl rfl ⟨Nat.le_of_ble_eq_true rfl, Nat.le_of_ble_eq_true rfl⟩) hW (by decide) rfl rfl rfl hl.1 rfl (Nat.le_of_ble_eq_true rfl) dX12_feed_27 ⟨Nat.le_of_ble_eq_true rfl, Nat.le_of_ble_eq_true rfl⟩) hL (fun H locs hW hL => ?_)
  refine lv_aload_n hx hb dX12_feed_30 rfl (lv_at hl 0 rfl) ?_
  refine lv_iload hx hb dX12_feed_31 (lv_at hl 4 rfl) ?_
  refine sBvE (sV (As := [.int p4]) (rest := []) (k := 231) Cx (t119_X12_lay l G (sI (sI (sI (sI (sI (sI (sI (sI (sI (sI (sI (sI (sI (sI (sI (sI (sI (sI (sI (sI (sI (sI (sI (sI S 232 0 (vp_nar .byte (i2bI (shrI p1 24)))) 231 1 1) 232 1 (vp_nar .byte (i2bI (shrI p1 16)))) 231 1 2) 232 2 (vp_nar .byte (i2bI (shrI p1 8)))) 231 1 3) 232 3 (vp_nar .byte (i2bI (shrI p1 0)))) 231 1 4) 232 4 (vp_nar .byte (i2bI (shrI p2 24)))) 231 1 5) 232 5 (vp_nar .byte (i2bI (shrI p2 16)))) 231 1 6) 232 6 (vp_nar .byte (i2bI (shrI p2 8)))) 231 1 7) 232 7 (vp_nar .byte (i2bI (shrI p2 0)))) 231 1 8) 232 8 (vp_nar .byte (i2bI (shrI p3 24)))) 231 1 9) 232 9 (vp_nar .byte (i2bI (shrI p3 16)))) 231 1 10) 232 10 (vp_nar .byte (i2bI (shrI p3 8)))) 231 1 11) 232 11 (vp_nar .byte (i2bI (shrI p3 0)))) 231 1 12) (p4) hR_231_0 rfl) (c_X12_206 Cx rfl rfl ⟨Nat.le_of_ble_eq_true rfl, Nat.le_of_ble_eq_true rfl⟩) hW (by decide) rfl rfl rfl hl.1 rfl (Nat.le_of_ble_eq_true rfl) dX12_feed_33 ⟨Nat.le_of_ble_eq_true rfl, Nat.le_of_ble_eq_true rfl⟩) hL (fun H locs hW hL => ?_)
  refine lv_aload_n hx hb dX12_feed_36 rfl (lv_at hl 0 rfl) ?_
  refine lv_iload hx hb dX12_feed_37 (lv_at hl 5 rfl) ?_
  refine sBvE (sV (As := [.int p5]) (rest := []) (k := 231) Cx (t120_X12_lay l G (sI (sI (sI (sI (sI (sI (sI (sI (sI (sI (sI (sI (sI (sI (sI (sI (sI (sI (sI (sI (sI (sI (sI (sI (sI (sI (sI (sI (sI (sI (sI (sI S 232 0 (vp_nar .byte (i2bI (shrI p1 24)))) 231 1 1) 232 1 (vp_nar .byte (i2bI (shrI p1 16)))) 231 1 2) 232 2 (vp_nar .byte (i2bI (shrI p1 8)))) 231 1 3) 232 3 (vp_nar .byte (i2bI (shrI p1 0)))) 231 1 4) 232 4 (vp_nar .byte (i2bI (shrI p2 24)))) 231 1 5) 232 5 (vp_nar .byte (i2bI (shrI p2 16)))) 231 1 6) 232 6 (vp_nar .byte (i2bI (shrI p2 8)))) 231 1 7) 232 7 (vp_nar .byte (i2bI (shrI p2 0)))) 231 1 8) 232 8 (vp_nar .byte (i2bI (shrI p3 24)))) 231 1 9) 232 9 (vp_nar .byte (i2bI (shrI p3 16)))) 231 1 10) 232 10 (vp_nar .byte (i2bI (shrI p3 8)))) 231 1 11) 232 11 (vp_nar .byte (i2bI (shrI p3 0)))) 231 1 12) 232 12 (vp_nar .byte (i2bI (shrI p4 24)))) 231 1 13) 232 13 (vp_nar .byte (i2bI (shrI p4 16)))) 231 1 14) 232 14 (vp_nar .byte (i2bI (shrI p4 8)))) 231 1 15) 232 15 (vp_nar .byte (i2bI (shrI p4 0)))) 231 1 16) (p5) hR_231_0 rfl) (c_X12_206 Cx rfl rfl ⟨Nat.le_of_ble_eq_true rfl, Nat.le_of_ble_eq_true rfl⟩) hW (by decide) rfl rfl rfl hl.1 rfl (Nat.le_of_ble_eq_true rfl) dX12_feed_39 ⟨Nat.le_of_ble_eq_true rfl, Nat.le_of_ble_eq_true rfl⟩) hL (fun H locs hW hL => ?_)
  refine lv_aload_n hx hb dX12_feed_42 rfl (lv_at hl 0 rfl) ?_
  refine g_X12_202 Cx hW (k := 231) (by decide) rfl (v := 20) rfl dX12_feed_43 ?_
  exact sIret Cx hr hlk hW hL ⟨rfl, rfl⟩ dX12_feed_46

set_option maxRecDepth 100000 in
set_option maxHeartbeats 4000000 in
theorem m_X12_end (l : Launch) (G : sG) (S : sS) (p1 : Int32) (hI_231_1 : S.1 231 1 = 0) : Met l yX12_end (.code yX12_end cX12_end 2 (some .boolean) :: tb) (rmk 1 0 0) (sPc G 294 S [.ref (G.2.2.1 + 231), .int p1]) (sQi G 294 (fun r u => r = endF p1 ∧ u = S)) 0 0 (sF G) := by
  refine sEnter (by decide) (Nat.le_of_ble_eq_true rfl) ?_
  intro p e s m args below meth c Cx hr hlk hnm hW ls hl
  have Cx : sC G p m c cX12_end 2 s args RX12 := Cx
  obtain ⟨hx, hb, hml, hown, hts⟩ := id Cx.1
  have hL : sL G [] := sL_nil
  have hl : lv_has ls 2 [(0, .ref (G.2.2.1 + 231)), (1, .int p1)] := hl
  refine lv_iload_n hx hb dX12_end_0 rfl (lv_at hl 1 rfl) ?_
  refine lv_if_lt (tgt := 12) hx hb dX12_end_1 (by decide) (fun c1 => ?_) (fun c1 => ?_)
  · refine lv_iconst (v := 0) hx hb dX12_end_12 (by decide) ?_
    exact sZret Cx hr hlk hW hL (by decide) ⟨(show _ = endF p1 from (if_pos (Or.inl c1)).symm), rfl⟩ dX12_end_13
  · refine lv_iload_n hx hb dX12_end_4 rfl (lv_at hl 1 rfl) ?_
    refine lv_aload_n hx hb dX12_end_5 rfl (lv_at hl 0 rfl) ?_
    refine g_X12_202 Cx hW (k := 231) (by decide) rfl (v := 0) hI_231_1 dX12_end_6 ?_
    refine lv_icmp_le (tgt := 14) hx hb dX12_end_9 (by decide) (fun c2 => ?_) (fun c2 => ?_)
    · refine lv_aload_n hx hb dX12_end_14 rfl (lv_at hl 0 rfl) ?_
      refine lv_iload_n hx hb dX12_end_15 rfl (lv_at hl 1 rfl) ?_
      refine p_X12_202 Cx hW hL (k := 231) (by decide) rfl dX12_end_16 (fun H locs hW hL => ?_)
      refine lv_iconst (v := 1) hx hb dX12_end_19 (by decide) ?_
      exact sZret Cx hr hlk hW hL (by decide) ⟨(show _ = endF p1 from (if_neg (fun h => h.elim c1 (Int32.not_lt.mpr c2))).symm), sI_self (hI_231_1.trans (Int32.le_antisymm (Int32.not_lt.mp c1) c2))⟩ dX12_end_20
    · refine lv_iconst (v := 0) hx hb dX12_end_12 (by decide) ?_
      exact sZret Cx hr hlk hW hL (by decide) ⟨(show _ = endF p1 from (if_pos (Or.inr (Int32.not_le.mp c2))).symm), rfl⟩ dX12_end_13

set_option maxRecDepth 100000 in
set_option maxHeartbeats 4000000 in
theorem t123_X12_token (l : Launch) (G : sG) (S : sS)  (hR_231_15 : S.2.2 231 15 = .ref (G.2.2.1 + 244)) (hI_231_19 : S.1 231 19 = 0) (hR_231_16 : S.2.2 231 16 = .ref (G.2.2.1 + 245)) (hR_231_17 : S.2.2 231 17 = .ref (G.2.2.1 + 246)) (hR_231_18 : S.2.2 231 18 = .ref (G.2.2.1 + 247)) : Met l yX12_token (.code yX12_token cX12_token 5 none :: tb) (rmk 1 0 0) (sPc G 294 S [.ref (G.2.2.1 + 231), .int 5, .int 0, .int 0, .int 0]) (sQv G 294 (fun u => u = (sI (sI (sI (sI (sI S 244 0 5) 245 0 0) 246 0 0) 247 0 0) 231 19 1))) 0 0 (sF G) := by
  refine sEnter (by decide) (Nat.le_of_ble_eq_true rfl) ?_
  intro p e s m args below meth c Cx hr hlk hnm hW ls hl
  have Cx : sC G p m c cX12_token 5 s args RX12 := Cx
  obtain ⟨hx, hb, hml, hown, hts⟩ := id Cx.1
  have hL : sL G [] := sL_nil
  have hl : lv_has ls 5 [(0, .ref (G.2.2.1 + 231)), (1, .int 5), (2, .int 0), (3, .int 0), (4, .int 0)] := hl
  refine lv_aload_n hx hb dX12_token_0 rfl (lv_at hl 0 rfl) ?_
  refine g_X12_47 Cx hW (k := 231) (by decide) rfl (v := .ref (G.2.2.1 + 244)) hR_231_15 dX12_token_1 ?_
  refine lv_aload_n hx hb dX12_token_4 rfl (lv_at hl 0 rfl) ?_
  refine g_X12_289 Cx hW (k := 231) (by decide) rfl (v := 0) hI_231_19 dX12_token_5 ?_
  refine lv_iload_n hx hb dX12_token_8 rfl (lv_at hl 1 rfl) ?_
  refine sIast Cx hW hL (k := 244) (N := 30004) (by decide) rfl (j := 0) (by decide) (vp_c (by decide)) dX12_token_9 (fun H locs hW hL => ?_)
  refine lv_aload_n hx hb dX12_token_10 rfl (lv_at hl 0 rfl) ?_
  refine g_X12_50 Cx hW (k := 231) (by decide) rfl (v := .ref (G.2.2.1 + 245)) hR_231_16 dX12_token_11 ?_
  refine lv_aload_n hx hb dX12_token_14 rfl (lv_at hl 0 rfl) ?_
  refine g_X12_289 Cx hW (k := 231) (by decide) rfl (v := 0) hI_231_19 dX12_token_15 ?_
  refine lv_iload_n hx hb dX12_token_18 rfl (lv_at hl 2 rfl) ?_
  refine sIast Cx hW hL (k := 245) (N := 30004) (by decide) rfl (j := 0) (by decide) (vp_c (by decide)) dX12_token_19 (fun H locs hW hL => ?_)
  refine lv_aload_n hx hb dX12_token_20 rfl (lv_at hl 0 rfl) ?_
  refine g_X12_53 Cx hW (k := 231) (by decide) rfl (v := .ref (G.2.2.1 + 246)) hR_231_17 dX12_token_21 ?_
  refine lv_aload_n hx hb dX12_token_24 rfl (lv_at hl 0 rfl) ?_
  refine g_X12_289 Cx hW (k := 231) (by decide) rfl (v := 0) hI_231_19 dX12_token_25 ?_
  refine lv_iload_n hx hb dX12_token_28 rfl (lv_at hl 3 rfl) ?_
  refine sIast Cx hW hL (k := 246) (N := 30004) (by decide) rfl (j := 0) (by decide) (vp_c (by decide)) dX12_token_29 (fun H locs hW hL => ?_)
  refine lv_aload_n hx hb dX12_token_30 rfl (lv_at hl 0 rfl) ?_
  refine g_X12_56 Cx hW (k := 231) (by decide) rfl (v := .ref (G.2.2.1 + 247)) hR_231_18 dX12_token_31 ?_
  refine lv_aload_n hx hb dX12_token_34 rfl (lv_at hl 0 rfl) ?_
  refine g_X12_289 Cx hW (k := 231) (by decide) rfl (v := 0) hI_231_19 dX12_token_35 ?_
  refine lv_iload hx hb dX12_token_38 (lv_at hl 4 rfl) ?_
  refine sIast Cx hW hL (k := 247) (N := 30004) (by decide) rfl (j := 0) (by decide) (vp_c (by decide)) dX12_token_40 (fun H locs hW hL => ?_)
  refine lv_aload_n hx hb dX12_token_41 rfl (lv_at hl 0 rfl) ?_
  refine lv_dup hx hb dX12_token_42 rfl ?_
  refine g_X12_289 Cx hW (k := 231) (by decide) rfl (v := 0) hI_231_19 dX12_token_43 ?_
  refine lv_iconst (v := 1) hx hb dX12_token_46 (by decide) ?_
  refine lv_iadd hx hb dX12_token_47 ?_
  refine sCi (v := 1) (by decide) ?_
  refine p_X12_289 Cx hW hL (k := 231) (by decide) rfl dX12_token_48 (fun H locs hW hL => ?_)
  exact sVret Cx hr hlk hW hL rfl dX12_token_51

set_option maxRecDepth 100000 in
set_option maxHeartbeats 4000000 in
theorem t124_X12_tokenize (l : Launch) (G : sG) (S : sS)  (hI_231_14 : S.1 231 14 = 0) (hR_231_15 : S.2.2 231 15 = .ref (G.2.2.1 + 244)) (hR_231_16 : S.2.2 231 16 = .ref (G.2.2.1 + 245)) (hR_231_17 : S.2.2 231 17 = .ref (G.2.2.1 + 246)) (hR_231_18 : S.2.2 231 18 = .ref (G.2.2.1 + 247)) : Met l yX12_tokenize (.code yX12_tokenize cX12_tokenize 5 none :: tb) (rmk 2 0 0) (sPc G 294 S [.ref (G.2.2.1 + 231)]) (sQv G 294 (fun u => u = (sI (sI (sI (sI (sI (sI (sI (sI (sI S 231 19 0) 244 0 5) 245 0 0) 246 0 0) 247 0 0) 231 19 1) 244 1 5) 244 2 5) 244 3 5))) 0 0 (sF G) := by
  refine sEnter (by decide) (Nat.le_of_ble_eq_true rfl) ?_
  intro p e s m args below meth c Cx hr hlk hnm hW ls hl
  have Cx : sC G p m c cX12_tokenize 5 s args RX12 := Cx
  obtain ⟨hx, hb, hml, hown, hts⟩ := id Cx.1
  have hL : sL G [] := sL_nil
  have hl : lv_has ls 5 [(0, .ref (G.2.2.1 + 231))] := hl
  refine lv_aload_n hx hb dX12_tokenize_0 rfl (lv_at hl 0 rfl) ?_
  refine lv_iconst (v := 0) hx hb dX12_tokenize_1 (by decide) ?_
  refine p_X12_289 Cx hW hL (k := 231) (by decide) rfl dX12_tokenize_2 (fun H locs hW hL => ?_)
  refine lv_iconst (v := 0) hx hb dX12_tokenize_5 (by decide) ?_
  refine lv_istore_n (lv' := [(1, .int 0), (0, .ref (G.2.2.1 + 231))]) hx hb dX12_tokenize_6 rfl hl (by decide) rfl (fun ls hl => ?_)
  refine lv_iload_n hx hb dX12_tokenize_7 rfl (lv_at hl 0 rfl) ?_
  refine lv_aload_n hx hb dX12_tokenize_8 rfl (lv_at hl 1 rfl) ?_
  refine g_X12_276 Cx hW (k := 231) (by decide) rfl (v := 0) hI_231_14 dX12_tokenize_9 ?_
  refine lv_icmp_ge (tgt := 289) hx hb dX12_tokenize_12 (by decide) (fun _ => ?_) (fun c => absurd (by decide) c)
  refine lv_aload_n hx hb dX12_tokenize_289 rfl (lv_at hl 1 rfl) ?_
  refine g_X12_289 Cx hW (k := 231) (by decide) rfl (v := 0) rfl dX12_tokenize_290 ?_
  refine lv_if_eq (tgt := 312) hx hb dX12_tokenize_293 (by decide) (fun _ => ?_) (fun c => absurd (by decide) c)
  refine lv_aload_n hx hb dX12_tokenize_312 rfl (lv_at hl 1 rfl) ?_
  refine lv_iconst (v := 5) hx hb dX12_tokenize_313 (by decide) ?_
  refine lv_aload_n hx hb dX12_tokenize_314 rfl (lv_at hl 1 rfl) ?_
  refine g_X12_276 Cx hW (k := 231) (by decide) rfl (v := 0) hI_231_14 dX12_tokenize_315 ?_
  refine lv_iconst (v := 0) hx hb dX12_tokenize_318 (by decide) ?_
  refine lv_iconst (v := 0) hx hb dX12_tokenize_319 (by decide) ?_
  refine sBvE (sV (As := [.int 5, .int 0, .int 0, .int 0]) (rest := []) (k := 231) Cx (t123_X12_token l G (sI S 231 19 0) hR_231_15 rfl hR_231_16 hR_231_17 hR_231_18) (c_X12_308 Cx rfl rfl ⟨Nat.le_of_ble_eq_true rfl, Nat.le_of_ble_eq_true rfl⟩) hW (by decide) rfl rfl rfl hl.1 rfl (Nat.le_of_ble_eq_true rfl) dX12_tokenize_320 ⟨Nat.le_of_ble_eq_true rfl, Nat.le_of_ble_eq_true rfl⟩) hL (fun H locs hW hL => ?_)
  refine lv_aload_n hx hb dX12_tokenize_323 rfl (lv_at hl 1 rfl) ?_
  refine g_X12_289 Cx hW (k := 231) (by decide) rfl (v := 1) rfl dX12_tokenize_324 ?_
  refine lv_istore_n (lv' := [(2, .int 1), (1, .int 0), (0, .ref (G.2.2.1 + 231))]) hx hb dX12_tokenize_327 rfl hl (by decide) rfl (fun ls hl => ?_)
  refine lv_iload_n hx hb dX12_tokenize_328 rfl (lv_at hl 0 rfl) ?_
  refine lv_aload_n hx hb dX12_tokenize_329 rfl (lv_at hl 2 rfl) ?_
  refine g_X12_289 Cx hW (k := 231) (by decide) rfl (v := 1) rfl dX12_tokenize_330 ?_
  refine lv_iconst (v := 3) hx hb dX12_tokenize_333 (by decide) ?_
  refine lv_iadd hx hb dX12_tokenize_334 ?_
  refine sCi (v := 4) (by decide) ?_
  refine lv_icmp_ge (tgt := 351) hx hb dX12_tokenize_335 (by decide) (fun c => absurd c (by decide)) (fun _ => ?_)
  refine lv_aload_n hx hb dX12_tokenize_338 rfl (lv_at hl 2 rfl) ?_
  refine g_X12_47 Cx hW (k := 231) (by decide) rfl (v := .ref (G.2.2.1 + 244)) hR_231_15 dX12_tokenize_339 ?_
  refine lv_iload_n hx hb dX12_tokenize_342 rfl (lv_at hl 0 rfl) ?_
  refine lv_iconst (v := 5) hx hb dX12_tokenize_343 (by decide) ?_
  refine sIast Cx hW hL (k := 244) (N := 30004) (by decide) rfl (j := 1) (by decide) (vp_c (by decide)) dX12_tokenize_344 (fun H locs hW hL => ?_)
  refine lv_iinc (v := 2) (lv' := [(2, .int 2), (1, .int 0), (0, .ref (G.2.2.1 + 231))]) hx hb dX12_tokenize_345 hl (k := 0) rfl (by decide) (by decide) rfl (fun ls hl => ?_)
  refine lv_goto (tgt := 328) hx hb dX12_tokenize_348 (by decide) ?_
  refine lv_iload_n hx hb dX12_tokenize_328 rfl (lv_at hl 0 rfl) ?_
  refine lv_aload_n hx hb dX12_tokenize_329 rfl (lv_at hl 2 rfl) ?_
  refine g_X12_289 Cx hW (k := 231) (by decide) rfl (v := 1) rfl dX12_tokenize_330 ?_
  refine lv_iconst (v := 3) hx hb dX12_tokenize_333 (by decide) ?_
  refine lv_iadd hx hb dX12_tokenize_334 ?_
  refine sCi (v := 4) (by decide) ?_
  refine lv_icmp_ge (tgt := 351) hx hb dX12_tokenize_335 (by decide) (fun c => absurd c (by decide)) (fun _ => ?_)
  refine lv_aload_n hx hb dX12_tokenize_338 rfl (lv_at hl 2 rfl) ?_
  refine g_X12_47 Cx hW (k := 231) (by decide) rfl (v := .ref (G.2.2.1 + 244)) hR_231_15 dX12_tokenize_339 ?_
  refine lv_iload_n hx hb dX12_tokenize_342 rfl (lv_at hl 0 rfl) ?_
  refine lv_iconst (v := 5) hx hb dX12_tokenize_343 (by decide) ?_
  refine sIast Cx hW hL (k := 244) (N := 30004) (by decide) rfl (j := 2) (by decide) (vp_c (by decide)) dX12_tokenize_344 (fun H locs hW hL => ?_)
  refine lv_iinc (v := 3) (lv' := [(2, .int 3), (1, .int 0), (0, .ref (G.2.2.1 + 231))]) hx hb dX12_tokenize_345 hl (k := 0) rfl (by decide) (by decide) rfl (fun ls hl => ?_)
  refine lv_goto (tgt := 328) hx hb dX12_tokenize_348 (by decide) ?_
  refine lv_iload_n hx hb dX12_tokenize_328 rfl (lv_at hl 0 rfl) ?_
  refine lv_aload_n hx hb dX12_tokenize_329 rfl (lv_at hl 2 rfl) ?_
  refine g_X12_289 Cx hW (k := 231) (by decide) rfl (v := 1) rfl dX12_tokenize_330 ?_
  refine lv_iconst (v := 3) hx hb dX12_tokenize_333 (by decide) ?_
  refine lv_iadd hx hb dX12_tokenize_334 ?_
  refine sCi (v := 4) (by decide) ?_
  refine lv_icmp_ge (tgt := 351) hx hb dX12_tokenize_335 (by decide) (fun c => absurd c (by decide)) (fun _ => ?_)
  refine lv_aload_n hx hb dX12_tokenize_338 rfl (lv_at hl 2 rfl) ?_
  refine g_X12_47 Cx hW (k := 231) (by decide) rfl (v := .ref (G.2.2.1 + 244)) hR_231_15 dX12_tokenize_339 ?_
  refine lv_iload_n hx hb dX12_tokenize_342 rfl (lv_at hl 0 rfl) ?_
  refine lv_iconst (v := 5) hx hb dX12_tokenize_343 (by decide) ?_
  refine sIast Cx hW hL (k := 244) (N := 30004) (by decide) rfl (j := 3) (by decide) (vp_c (by decide)) dX12_tokenize_344 (fun H locs hW hL => ?_)
  refine lv_iinc (v := 4) (lv' := [(2, .int 4), (1, .int 0), (0, .ref (G.2.2.1 + 231))]) hx hb dX12_tokenize_345 hl (k := 0) rfl (by decide) (by decide) rfl (fun ls hl => ?_)
  refine lv_goto (tgt := 328) hx hb dX12_tokenize_348 (by decide) ?_
  refine lv_iload_n hx hb dX12_tokenize_328 rfl (lv_at hl 0 rfl) ?_
  refine lv_aload_n hx hb dX12_tokenize_329 rfl (lv_at hl 2 rfl) ?_
  refine g_X12_289 Cx hW (k := 231) (by decide) rfl (v := 1) rfl dX12_tokenize_330 ?_
  refine lv_iconst (v := 3) hx hb dX12_tokenize_333 (by decide) ?_
  refine lv_iadd hx hb dX12_tokenize_334 ?_
  refine sCi (v := 4) (by decide) ?_
  refine lv_icmp_ge (tgt := 351) hx hb dX12_tokenize_335 (by decide) (fun _ => ?_) (fun c => absurd (by decide) c)
  exact sVret Cx hr hlk hW hL rfl dX12_tokenize_351

set_option maxRecDepth 100000 in
set_option maxHeartbeats 4000000 in
theorem t125_X12_isWord (l : Launch) (G : sG) (S : sS)  (hR_231_15 : S.2.2 231 15 = .ref (G.2.2.1 + 244)) (hI_231_24 : S.1 231 24 = 0) (hI_244_0 : S.1 244 0 = 5) : Met l yX12_isWord (.code yX12_isWord cX12_isWord 2 (some .boolean) :: tb) (rmk 1 0 0) (sPc G 294 S [.ref (G.2.2.1 + 231), .int 2]) (sQi G 294 (fun r u => r = 0 ∧ u = S)) 0 0 (sF G) := by
  refine sEnter (by decide) (Nat.le_of_ble_eq_true rfl) ?_
  intro p e s m args below meth c Cx hr hlk hnm hW ls hl
  have Cx : sC G p m c cX12_isWord 2 s args RX12 := Cx
  obtain ⟨hx, hb, hml, hown, hts⟩ := id Cx.1
  have hL : sL G [] := sL_nil
  have hl : lv_has ls 2 [(0, .ref (G.2.2.1 + 231)), (1, .int 2)] := hl
  refine lv_aload_n hx hb dX12_isWord_0 rfl (lv_at hl 0 rfl) ?_
  refine g_X12_47 Cx hW (k := 231) (by decide) rfl (v := .ref (G.2.2.1 + 244)) hR_231_15 dX12_isWord_1 ?_
  refine lv_aload_n hx hb dX12_isWord_4 rfl (lv_at hl 0 rfl) ?_
  refine g_X12_315 Cx hW (k := 231) (by decide) rfl (v := 0) hI_231_24 dX12_isWord_5 ?_
  refine sIald Cx hW (k := 244) (N := 30004) (by decide) rfl (j := 0) (by decide) (vp_c (by decide)) (v := 5) hI_244_0 dX12_isWord_8 ?_
  refine lv_iconst (v := 3) hx hb dX12_isWord_9 (by decide) ?_
  refine lv_icmp_ne (tgt := 30) hx hb dX12_isWord_10 (by decide) (fun _ => ?_) (fun c => absurd c (by decide))
  refine lv_iconst (v := 0) hx hb dX12_isWord_30 (by decide) ?_
  exact sZret Cx hr hlk hW hL (by decide) ⟨rfl, rfl⟩ dX12_isWord_31

set_option maxRecDepth 100000 in
set_option maxHeartbeats 4000000 in
theorem t126_X12_isWord (l : Launch) (G : sG) (S : sS)  (hR_231_15 : S.2.2 231 15 = .ref (G.2.2.1 + 244)) (hI_231_24 : S.1 231 24 = 0) (hI_244_0 : S.1 244 0 = 5) : Met l yX12_isWord (.code yX12_isWord cX12_isWord 2 (some .boolean) :: tb) (rmk 1 0 0) (sPc G 294 S [.ref (G.2.2.1 + 231), .int 3]) (sQi G 294 (fun r u => r = 0 ∧ u = S)) 0 0 (sF G) := by
  refine sEnter (by decide) (Nat.le_of_ble_eq_true rfl) ?_
  intro p e s m args below meth c Cx hr hlk hnm hW ls hl
  have Cx : sC G p m c cX12_isWord 2 s args RX12 := Cx
  obtain ⟨hx, hb, hml, hown, hts⟩ := id Cx.1
  have hL : sL G [] := sL_nil
  have hl : lv_has ls 2 [(0, .ref (G.2.2.1 + 231)), (1, .int 3)] := hl
  refine lv_aload_n hx hb dX12_isWord_0 rfl (lv_at hl 0 rfl) ?_
  refine g_X12_47 Cx hW (k := 231) (by decide) rfl (v := .ref (G.2.2.1 + 244)) hR_231_15 dX12_isWord_1 ?_
  refine lv_aload_n hx hb dX12_isWord_4 rfl (lv_at hl 0 rfl) ?_
  refine g_X12_315 Cx hW (k := 231) (by decide) rfl (v := 0) hI_231_24 dX12_isWord_5 ?_
  refine sIald Cx hW (k := 244) (N := 30004) (by decide) rfl (j := 0) (by decide) (vp_c (by decide)) (v := 5) hI_244_0 dX12_isWord_8 ?_
  refine lv_iconst (v := 3) hx hb dX12_isWord_9 (by decide) ?_
  refine lv_icmp_ne (tgt := 30) hx hb dX12_isWord_10 (by decide) (fun _ => ?_) (fun c => absurd c (by decide))
  refine lv_iconst (v := 0) hx hb dX12_isWord_30 (by decide) ?_
  exact sZret Cx hr hlk hW hL (by decide) ⟨rfl, rfl⟩ dX12_isWord_31

set_option maxRecDepth 100000 in
set_option maxHeartbeats 4000000 in
theorem t127_X12_isWord (l : Launch) (G : sG) (S : sS)  (hR_231_15 : S.2.2 231 15 = .ref (G.2.2.1 + 244)) (hI_231_24 : S.1 231 24 = 0) (hI_244_0 : S.1 244 0 = 5) : Met l yX12_isWord (.code yX12_isWord cX12_isWord 2 (some .boolean) :: tb) (rmk 1 0 0) (sPc G 294 S [.ref (G.2.2.1 + 231), .int 4]) (sQi G 294 (fun r u => r = 0 ∧ u = S)) 0 0 (sF G) := by
  refine sEnter (by decide) (Nat.le_of_ble_eq_true rfl) ?_
  intro p e s m args below meth c Cx hr hlk hnm hW ls hl
  have Cx : sC G p m c cX12_isWord 2 s args RX12 := Cx
  obtain ⟨hx, hb, hml, hown, hts⟩ := id Cx.1
  have hL : sL G [] := sL_nil
  have hl : lv_has ls 2 [(0, .ref (G.2.2.1 + 231)), (1, .int 4)] := hl
  refine lv_aload_n hx hb dX12_isWord_0 rfl (lv_at hl 0 rfl) ?_
  refine g_X12_47 Cx hW (k := 231) (by decide) rfl (v := .ref (G.2.2.1 + 244)) hR_231_15 dX12_isWord_1 ?_
  refine lv_aload_n hx hb dX12_isWord_4 rfl (lv_at hl 0 rfl) ?_
  refine g_X12_315 Cx hW (k := 231) (by decide) rfl (v := 0) hI_231_24 dX12_isWord_5 ?_
  refine sIald Cx hW (k := 244) (N := 30004) (by decide) rfl (j := 0) (by decide) (vp_c (by decide)) (v := 5) hI_244_0 dX12_isWord_8 ?_
  refine lv_iconst (v := 3) hx hb dX12_isWord_9 (by decide) ?_
  refine lv_icmp_ne (tgt := 30) hx hb dX12_isWord_10 (by decide) (fun _ => ?_) (fun c => absurd c (by decide))
  refine lv_iconst (v := 0) hx hb dX12_isWord_30 (by decide) ?_
  exact sZret Cx hr hlk hW hL (by decide) ⟨rfl, rfl⟩ dX12_isWord_31

set_option maxRecDepth 100000 in
set_option maxHeartbeats 4000000 in
theorem t128_X12_isWord (l : Launch) (G : sG) (S : sS)  (hR_231_15 : S.2.2 231 15 = .ref (G.2.2.1 + 244)) (hI_231_24 : S.1 231 24 = 0) (hI_244_0 : S.1 244 0 = 5) : Met l yX12_isWord (.code yX12_isWord cX12_isWord 2 (some .boolean) :: tb) (rmk 1 0 0) (sPc G 294 S [.ref (G.2.2.1 + 231), .int 0]) (sQi G 294 (fun r u => r = 0 ∧ u = S)) 0 0 (sF G) := by
  refine sEnter (by decide) (Nat.le_of_ble_eq_true rfl) ?_
  intro p e s m args below meth c Cx hr hlk hnm hW ls hl
  have Cx : sC G p m c cX12_isWord 2 s args RX12 := Cx
  obtain ⟨hx, hb, hml, hown, hts⟩ := id Cx.1
  have hL : sL G [] := sL_nil
  have hl : lv_has ls 2 [(0, .ref (G.2.2.1 + 231)), (1, .int 0)] := hl
  refine lv_aload_n hx hb dX12_isWord_0 rfl (lv_at hl 0 rfl) ?_
  refine g_X12_47 Cx hW (k := 231) (by decide) rfl (v := .ref (G.2.2.1 + 244)) hR_231_15 dX12_isWord_1 ?_
  refine lv_aload_n hx hb dX12_isWord_4 rfl (lv_at hl 0 rfl) ?_
  refine g_X12_315 Cx hW (k := 231) (by decide) rfl (v := 0) hI_231_24 dX12_isWord_5 ?_
  refine sIald Cx hW (k := 244) (N := 30004) (by decide) rfl (j := 0) (by decide) (vp_c (by decide)) (v := 5) hI_244_0 dX12_isWord_8 ?_
  refine lv_iconst (v := 3) hx hb dX12_isWord_9 (by decide) ?_
  refine lv_icmp_ne (tgt := 30) hx hb dX12_isWord_10 (by decide) (fun _ => ?_) (fun c => absurd c (by decide))
  refine lv_iconst (v := 0) hx hb dX12_isWord_30 (by decide) ?_
  exact sZret Cx hr hlk hW hL (by decide) ⟨rfl, rfl⟩ dX12_isWord_31

set_option maxRecDepth 100000 in
set_option maxHeartbeats 4000000 in
theorem t129_X12_isWord (l : Launch) (G : sG) (S : sS)  (hR_231_15 : S.2.2 231 15 = .ref (G.2.2.1 + 244)) (hI_231_24 : S.1 231 24 = 0) (hI_244_0 : S.1 244 0 = 5) : Met l yX12_isWord (.code yX12_isWord cX12_isWord 2 (some .boolean) :: tb) (rmk 1 0 0) (sPc G 294 S [.ref (G.2.2.1 + 231), .int 1]) (sQi G 294 (fun r u => r = 0 ∧ u = S)) 0 0 (sF G) := by
  refine sEnter (by decide) (Nat.le_of_ble_eq_true rfl) ?_
  intro p e s m args below meth c Cx hr hlk hnm hW ls hl
  have Cx : sC G p m c cX12_isWord 2 s args RX12 := Cx
  obtain ⟨hx, hb, hml, hown, hts⟩ := id Cx.1
  have hL : sL G [] := sL_nil
  have hl : lv_has ls 2 [(0, .ref (G.2.2.1 + 231)), (1, .int 1)] := hl
  refine lv_aload_n hx hb dX12_isWord_0 rfl (lv_at hl 0 rfl) ?_
  refine g_X12_47 Cx hW (k := 231) (by decide) rfl (v := .ref (G.2.2.1 + 244)) hR_231_15 dX12_isWord_1 ?_
  refine lv_aload_n hx hb dX12_isWord_4 rfl (lv_at hl 0 rfl) ?_
  refine g_X12_315 Cx hW (k := 231) (by decide) rfl (v := 0) hI_231_24 dX12_isWord_5 ?_
  refine sIald Cx hW (k := 244) (N := 30004) (by decide) rfl (j := 0) (by decide) (vp_c (by decide)) (v := 5) hI_244_0 dX12_isWord_8 ?_
  refine lv_iconst (v := 3) hx hb dX12_isWord_9 (by decide) ?_
  refine lv_icmp_ne (tgt := 30) hx hb dX12_isWord_10 (by decide) (fun _ => ?_) (fun c => absurd c (by decide))
  refine lv_iconst (v := 0) hx hb dX12_isWord_30 (by decide) ?_
  exact sZret Cx hr hlk hW hL (by decide) ⟨rfl, rfl⟩ dX12_isWord_31

set_option maxRecDepth 100000 in
set_option maxHeartbeats 4000000 in
theorem t130_X12_wrong (l : Launch) (G : sG) (S : sS)  (hI_231_20 : S.1 231 20 = 0) (hR_231_16 : S.2.2 231 16 = .ref (G.2.2.1 + 245)) (hI_245_0 : S.1 245 0 = 0) : Met l yX12_wrong (.code yX12_wrong cX12_wrong 3 none :: tb) (rmk 1 0 0) (sPc G 294 S [.ref (G.2.2.1 + 231), .int 1, .int 0]) (sQv G 294 (fun u => u = (sI (sI S 231 20 1) 231 21 0))) 0 0 (sF G) := by
  refine sEnter (by decide) (Nat.le_of_ble_eq_true rfl) ?_
  intro p e s m args below meth c Cx hr hlk hnm hW ls hl
  have Cx : sC G p m c cX12_wrong 3 s args RX12 := Cx
  obtain ⟨hx, hb, hml, hown, hts⟩ := id Cx.1
  have hL : sL G [] := sL_nil
  have hl : lv_has ls 3 [(0, .ref (G.2.2.1 + 231)), (1, .int 1), (2, .int 0)] := hl
  refine lv_aload_n hx hb dX12_wrong_0 rfl (lv_at hl 0 rfl) ?_
  refine g_X12_270 Cx hW (k := 231) (by decide) rfl (v := 0) hI_231_20 dX12_wrong_1 ?_
  refine lv_if_eq (tgt := 8) hx hb dX12_wrong_4 (by decide) (fun _ => ?_) (fun c => absurd (by decide) c)
  refine lv_aload_n hx hb dX12_wrong_8 rfl (lv_at hl 0 rfl) ?_
  refine lv_iload_n hx hb dX12_wrong_9 rfl (lv_at hl 1 rfl) ?_
  refine p_X12_270 Cx hW hL (k := 231) (by decide) rfl dX12_wrong_10 (fun H locs hW hL => ?_)
  refine lv_aload_n hx hb dX12_wrong_13 rfl (lv_at hl 0 rfl) ?_
  refine lv_aload_n hx hb dX12_wrong_14 rfl (lv_at hl 0 rfl) ?_
  refine g_X12_50 Cx hW (k := 231) (by decide) rfl (v := .ref (G.2.2.1 + 245)) hR_231_16 dX12_wrong_15 ?_
  refine lv_iload_n hx hb dX12_wrong_18 rfl (lv_at hl 2 rfl) ?_
  refine sIald Cx hW (k := 245) (N := 30004) (by decide) rfl (j := 0) (by decide) (vp_c (by decide)) (v := 0) hI_245_0 dX12_wrong_19 ?_
  refine p_X12_273 Cx hW hL (k := 231) (by decide) rfl dX12_wrong_20 (fun H locs hW hL => ?_)
  exact sVret Cx hr hlk hW hL rfl dX12_wrong_23

set_option maxRecDepth 100000 in
set_option maxHeartbeats 4000000 in
theorem t131_X12_factorRead (l : Launch) (G : sG) (S : sS)  (hI_231_20 : S.1 231 20 = 1) : Met l yX12_factorRead (.code yX12_factorRead cX12_factorRead 2 none :: tb) (rmk 1 0 0) (sPc G 294 S [.ref (G.2.2.1 + 231), .int 0]) (sQv G 294 (fun u => u = S)) 0 0 (sF G) := by
  refine sEnter (by decide) (Nat.le_of_ble_eq_true rfl) ?_
  intro p e s m args below meth c Cx hr hlk hnm hW ls hl
  have Cx : sC G p m c cX12_factorRead 2 s args RX12 := Cx
  obtain ⟨hx, hb, hml, hown, hts⟩ := id Cx.1
  have hL : sL G [] := sL_nil
  have hl : lv_has ls 2 [(0, .ref (G.2.2.1 + 231)), (1, .int 0)] := hl
  refine lv_aload_n hx hb dX12_factorRead_0 rfl (lv_at hl 0 rfl) ?_
  refine g_X12_270 Cx hW (k := 231) (by decide) rfl (v := 1) hI_231_20 dX12_factorRead_1 ?_
  refine lv_if_eq (tgt := 8) hx hb dX12_factorRead_4 (by decide) (fun c => absurd c (by decide)) (fun _ => ?_)
  exact sVret Cx hr hlk hW hL rfl dX12_factorRead_7

set_option maxRecDepth 100000 in
set_option maxHeartbeats 4000000 in
theorem t132_X12_productRead (l : Launch) (G : sG) (S : sS)  (hI_231_20 : S.1 231 20 = 1) : Met l yX12_productRead (.code yX12_productRead cX12_productRead 2 none :: tb) (rmk 2 0 0) (sPc G 294 S [.ref (G.2.2.1 + 231), .int 0]) (sQv G 294 (fun u => u = S)) 0 0 (sF G) := by
  refine sEnter (by decide) (Nat.le_of_ble_eq_true rfl) ?_
  intro p e s m args below meth c Cx hr hlk hnm hW ls hl
  have Cx : sC G p m c cX12_productRead 2 s args RX12 := Cx
  obtain ⟨hx, hb, hml, hown, hts⟩ := id Cx.1
  have hL : sL G [] := sL_nil
  have hl : lv_has ls 2 [(0, .ref (G.2.2.1 + 231)), (1, .int 0)] := hl
  refine lv_aload_n hx hb dX12_productRead_0 rfl (lv_at hl 0 rfl) ?_
  refine lv_iload_n hx hb dX12_productRead_1 rfl (lv_at hl 1 rfl) ?_
  refine sBvE (sV (As := [.int 0]) (rest := []) (k := 231) Cx (t131_X12_factorRead l G S hI_231_20) (c_X12_352 Cx rfl rfl ⟨Nat.le_of_ble_eq_true rfl, Nat.le_of_ble_eq_true rfl⟩) hW (by decide) rfl rfl rfl hl.1 rfl (Nat.le_of_ble_eq_true rfl) dX12_productRead_2 ⟨Nat.le_of_ble_eq_true rfl, Nat.le_of_ble_eq_true rfl⟩) hL (fun H locs hW hL => ?_)
  refine lv_aload_n hx hb dX12_productRead_5 rfl (lv_at hl 0 rfl) ?_
  refine g_X12_270 Cx hW (k := 231) (by decide) rfl (v := 1) hI_231_20 dX12_productRead_6 ?_
  refine lv_if_ne (tgt := 39) hx hb dX12_productRead_9 (by decide) (fun _ => ?_) (fun c => absurd c (by decide))
  exact sVret Cx hr hlk hW hL rfl dX12_productRead_39

set_option maxRecDepth 100000 in
set_option maxHeartbeats 4000000 in
theorem t133_X12_sumRead (l : Launch) (G : sG) (S : sS)  (hI_231_20 : S.1 231 20 = 1) : Met l yX12_sumRead (.code yX12_sumRead cX12_sumRead 2 none :: tb) (rmk 3 0 0) (sPc G 294 S [.ref (G.2.2.1 + 231), .int 0]) (sQv G 294 (fun u => u = S)) 0 0 (sF G) := by
  refine sEnter (by decide) (Nat.le_of_ble_eq_true rfl) ?_
  intro p e s m args below meth c Cx hr hlk hnm hW ls hl
  have Cx : sC G p m c cX12_sumRead 2 s args RX12 := Cx
  obtain ⟨hx, hb, hml, hown, hts⟩ := id Cx.1
  have hL : sL G [] := sL_nil
  have hl : lv_has ls 2 [(0, .ref (G.2.2.1 + 231)), (1, .int 0)] := hl
  refine lv_aload_n hx hb dX12_sumRead_0 rfl (lv_at hl 0 rfl) ?_
  refine lv_iload_n hx hb dX12_sumRead_1 rfl (lv_at hl 1 rfl) ?_
  refine sBvE (sV (As := [.int 0]) (rest := []) (k := 231) Cx (t132_X12_productRead l G S hI_231_20) (c_X12_349 Cx rfl rfl ⟨Nat.le_of_ble_eq_true rfl, Nat.le_of_ble_eq_true rfl⟩) hW (by decide) rfl rfl rfl hl.1 rfl (Nat.le_of_ble_eq_true rfl) dX12_sumRead_2 ⟨Nat.le_of_ble_eq_true rfl, Nat.le_of_ble_eq_true rfl⟩) hL (fun H locs hW hL => ?_)
  refine lv_aload_n hx hb dX12_sumRead_5 rfl (lv_at hl 0 rfl) ?_
  refine g_X12_270 Cx hW (k := 231) (by decide) rfl (v := 1) hI_231_20 dX12_sumRead_6 ?_
  refine lv_if_ne (tgt := 48) hx hb dX12_sumRead_9 (by decide) (fun _ => ?_) (fun c => absurd c (by decide))
  exact sVret Cx hr hlk hW hL rfl dX12_sumRead_48

set_option maxRecDepth 100000 in
set_option maxHeartbeats 4000000 in
theorem t134_X12_want (l : Launch) (G : sG) (S : sS)  (hI_231_20 : S.1 231 20 = 1) (hI_231_24 : S.1 231 24 = 1) : Met l yX12_want (.code yX12_want cX12_want 2 none :: tb) (rmk 1 0 0) (sPc G 294 S [.ref (G.2.2.1 + 231), .int 59]) (sQv G 294 (fun u => u = (sI S 231 24 2))) 0 0 (sF G) := by
  refine sEnter (by decide) (Nat.le_of_ble_eq_true rfl) ?_
  intro p e s m args below meth c Cx hr hlk hnm hW ls hl
  have Cx : sC G p m c cX12_want 2 s args RX12 := Cx
  obtain ⟨hx, hb, hml, hown, hts⟩ := id Cx.1
  have hL : sL G [] := sL_nil
  have hl : lv_has ls 2 [(0, .ref (G.2.2.1 + 231)), (1, .int 59)] := hl
  refine lv_aload_n hx hb dX12_want_0 rfl (lv_at hl 0 rfl) ?_
  refine g_X12_270 Cx hW (k := 231) (by decide) rfl (v := 1) hI_231_20 dX12_want_1 ?_
  refine lv_if_ne (tgt := 24) hx hb dX12_want_4 (by decide) (fun _ => ?_) (fun c => absurd c (by decide))
  refine lv_aload_n hx hb dX12_want_24 rfl (lv_at hl 0 rfl) ?_
  refine lv_dup hx hb dX12_want_25 rfl ?_
  refine g_X12_315 Cx hW (k := 231) (by decide) rfl (v := 1) hI_231_24 dX12_want_26 ?_
  refine lv_iconst (v := 1) hx hb dX12_want_29 (by decide) ?_
  refine lv_iadd hx hb dX12_want_30 ?_
  refine sCi (v := 2) (by decide) ?_
  refine p_X12_315 Cx hW hL (k := 231) (by decide) rfl dX12_want_31 (fun H locs hW hL => ?_)
  exact sVret Cx hr hlk hW hL rfl dX12_want_34

set_option maxRecDepth 100000 in
set_option maxHeartbeats 4000000 in
theorem t135_X12_read (l : Launch) (G : sG) (S : sS)  (hI_231_20 : S.1 231 20 = 0) (hR_231_15 : S.2.2 231 15 = .ref (G.2.2.1 + 244)) (hI_244_0 : S.1 244 0 = 5) (hR_231_16 : S.2.2 231 16 = .ref (G.2.2.1 + 245)) (hI_245_0 : S.1 245 0 = 0) : Met l yX12_read (.code yX12_read cX12_read 1 none :: tb) (rmk 4 0 0) (sPc G 294 S [.ref (G.2.2.1 + 231)]) (sQv G 294 (fun u => u = (sI (sI (sI (sI (sI S 231 24 0) 231 20 1) 231 21 0) 231 24 1) 231 24 2))) 0 0 (sF G) := by
  refine sEnter (by decide) (Nat.le_of_ble_eq_true rfl) ?_
  intro p e s m args below meth c Cx hr hlk hnm hW ls hl
  have Cx : sC G p m c cX12_read 1 s args RX12 := Cx
  obtain ⟨hx, hb, hml, hown, hts⟩ := id Cx.1
  have hL : sL G [] := sL_nil
  have hl : lv_has ls 1 [(0, .ref (G.2.2.1 + 231))] := hl
  refine lv_aload_n hx hb dX12_read_0 rfl (lv_at hl 0 rfl) ?_
  refine lv_iconst (v := 0) hx hb dX12_read_1 (by decide) ?_
  refine p_X12_315 Cx hW hL (k := 231) (by decide) rfl dX12_read_2 (fun H locs hW hL => ?_)
  refine lv_aload_n hx hb dX12_read_5 rfl (lv_at hl 0 rfl) ?_
  refine g_X12_270 Cx hW (k := 231) (by decide) rfl (v := 0) hI_231_20 dX12_read_6 ?_
  refine lv_if_ne (tgt := 43) hx hb dX12_read_9 (by decide) (fun c => absurd (by decide) c) (fun _ => ?_)
  refine lv_aload_n hx hb dX12_read_12 rfl (lv_at hl 0 rfl) ?_
  refine lv_iconst (v := 2) hx hb dX12_read_13 (by decide) ?_
  refine sBiE (sV (As := [.int 2]) (rest := []) (k := 231) Cx (t125_X12_isWord l G (sI S 231 24 0) hR_231_15 rfl hI_244_0) (c_X12_325 Cx rfl rfl ⟨Nat.le_of_ble_eq_true rfl, Nat.le_of_ble_eq_true rfl⟩) hW (by decide) rfl rfl rfl hl.1 rfl (Nat.le_of_ble_eq_true rfl) dX12_read_14 ⟨Nat.le_of_ble_eq_true rfl, Nat.le_of_ble_eq_true rfl⟩) hL (fun H locs hW hL => ?_)
  refine lv_if_ne (tgt := 36) hx hb dX12_read_17 (by decide) (fun c => absurd (by decide) c) (fun _ => ?_)
  refine lv_aload_n hx hb dX12_read_20 rfl (lv_at hl 0 rfl) ?_
  refine lv_iconst (v := 3) hx hb dX12_read_21 (by decide) ?_
  refine sBiE (sV (As := [.int 3]) (rest := []) (k := 231) Cx (t126_X12_isWord l G (sI S 231 24 0) hR_231_15 rfl hI_244_0) (c_X12_325 Cx rfl rfl ⟨Nat.le_of_ble_eq_true rfl, Nat.le_of_ble_eq_true rfl⟩) hW (by decide) rfl rfl rfl hl.1 rfl (Nat.le_of_ble_eq_true rfl) dX12_read_22 ⟨Nat.le_of_ble_eq_true rfl, Nat.le_of_ble_eq_true rfl⟩) hL (fun H locs hW hL => ?_)
  refine lv_if_ne (tgt := 36) hx hb dX12_read_25 (by decide) (fun c => absurd (by decide) c) (fun _ => ?_)
  refine lv_aload_n hx hb dX12_read_28 rfl (lv_at hl 0 rfl) ?_
  refine lv_iconst (v := 4) hx hb dX12_read_29 (by decide) ?_
  refine sBiE (sV (As := [.int 4]) (rest := []) (k := 231) Cx (t127_X12_isWord l G (sI S 231 24 0) hR_231_15 rfl hI_244_0) (c_X12_325 Cx rfl rfl ⟨Nat.le_of_ble_eq_true rfl, Nat.le_of_ble_eq_true rfl⟩) hW (by decide) rfl rfl rfl hl.1 rfl (Nat.le_of_ble_eq_true rfl) dX12_read_30 ⟨Nat.le_of_ble_eq_true rfl, Nat.le_of_ble_eq_true rfl⟩) hL (fun H locs hW hL => ?_)
  refine lv_if_eq (tgt := 43) hx hb dX12_read_33 (by decide) (fun _ => ?_) (fun c => absurd (by decide) c)
  refine lv_aload_n hx hb dX12_read_43 rfl (lv_at hl 0 rfl) ?_
  refine g_X12_270 Cx hW (k := 231) (by decide) rfl (v := 0) hI_231_20 dX12_read_44 ?_
  refine lv_if_ne (tgt := 75) hx hb dX12_read_47 (by decide) (fun c => absurd (by decide) c) (fun _ => ?_)
  refine lv_aload_n hx hb dX12_read_50 rfl (lv_at hl 0 rfl) ?_
  refine lv_iconst (v := 0) hx hb dX12_read_51 (by decide) ?_
  refine sBiE (sV (As := [.int 0]) (rest := []) (k := 231) Cx (t128_X12_isWord l G (sI S 231 24 0) hR_231_15 rfl hI_244_0) (c_X12_325 Cx rfl rfl ⟨Nat.le_of_ble_eq_true rfl, Nat.le_of_ble_eq_true rfl⟩) hW (by decide) rfl rfl rfl hl.1 rfl (Nat.le_of_ble_eq_true rfl) dX12_read_52 ⟨Nat.le_of_ble_eq_true rfl, Nat.le_of_ble_eq_true rfl⟩) hL (fun H locs hW hL => ?_)
  refine lv_if_ne (tgt := 75) hx hb dX12_read_55 (by decide) (fun c => absurd (by decide) c) (fun _ => ?_)
  refine lv_aload_n hx hb dX12_read_58 rfl (lv_at hl 0 rfl) ?_
  refine lv_iconst (v := 1) hx hb dX12_read_59 (by decide) ?_
  refine sBiE (sV (As := [.int 1]) (rest := []) (k := 231) Cx (t129_X12_isWord l G (sI S 231 24 0) hR_231_15 rfl hI_244_0) (c_X12_325 Cx rfl rfl ⟨Nat.le_of_ble_eq_true rfl, Nat.le_of_ble_eq_true rfl⟩) hW (by decide) rfl rfl rfl hl.1 rfl (Nat.le_of_ble_eq_true rfl) dX12_read_60 ⟨Nat.le_of_ble_eq_true rfl, Nat.le_of_ble_eq_true rfl⟩) hL (fun H locs hW hL => ?_)
  refine lv_if_ne (tgt := 75) hx hb dX12_read_63 (by decide) (fun c => absurd (by decide) c) (fun _ => ?_)
  refine lv_aload_n hx hb dX12_read_66 rfl (lv_at hl 0 rfl) ?_
  refine lv_iconst (v := 1) hx hb dX12_read_67 (by decide) ?_
  refine lv_aload_n hx hb dX12_read_68 rfl (lv_at hl 0 rfl) ?_
  refine g_X12_315 Cx hW (k := 231) (by decide) rfl (v := 0) rfl dX12_read_69 ?_
  refine sBvE (sV (As := [.int 1, .int 0]) (rest := []) (k := 231) Cx (t130_X12_wrong l G (sI S 231 24 0) hI_231_20 hR_231_16 hI_245_0) (c_X12_321 Cx rfl rfl ⟨Nat.le_of_ble_eq_true rfl, Nat.le_of_ble_eq_true rfl⟩) hW (by decide) rfl rfl rfl hl.1 rfl (Nat.le_of_ble_eq_true rfl) dX12_read_72 ⟨Nat.le_of_ble_eq_true rfl, Nat.le_of_ble_eq_true rfl⟩) hL (fun H locs hW hL => ?_)
  refine lv_aload_n hx hb dX12_read_75 rfl (lv_at hl 0 rfl) ?_
  refine lv_dup hx hb dX12_read_76 rfl ?_
  refine g_X12_315 Cx hW (k := 231) (by decide) rfl (v := 0) rfl dX12_read_77 ?_
  refine lv_iconst (v := 1) hx hb dX12_read_80 (by decide) ?_
  refine lv_iadd hx hb dX12_read_81 ?_
  refine sCi (v := 1) (by decide) ?_
  refine p_X12_315 Cx hW hL (k := 231) (by decide) rfl dX12_read_82 (fun H locs hW hL => ?_)
  refine lv_aload_n hx hb dX12_read_85 rfl (lv_at hl 0 rfl) ?_
  refine lv_iconst (v := 0) hx hb dX12_read_86 (by decide) ?_
  refine sBvE (sV (As := [.int 0]) (rest := []) (k := 231) Cx (t133_X12_sumRead l G (sI (sI (sI (sI S 231 24 0) 231 20 1) 231 21 0) 231 24 1) rfl) (c_X12_337 Cx rfl rfl ⟨Nat.le_of_ble_eq_true rfl, Nat.le_of_ble_eq_true rfl⟩) hW (by decide) rfl rfl rfl hl.1 rfl (Nat.le_of_ble_eq_true rfl) dX12_read_87 ⟨Nat.le_of_ble_eq_true rfl, Nat.le_of_ble_eq_true rfl⟩) hL (fun H locs hW hL => ?_)
  refine lv_aload_n hx hb dX12_read_90 rfl (lv_at hl 0 rfl) ?_
  refine lv_bipush (v := 59) hx hb dX12_read_91 (by decide) ?_
  refine sBvE (sV (As := [.int 59]) (rest := []) (k := 231) Cx (t134_X12_want l G (sI (sI (sI (sI S 231 24 0) 231 20 1) 231 21 0) 231 24 1) rfl rfl) (c_X12_331 Cx rfl rfl ⟨Nat.le_of_ble_eq_true rfl, Nat.le_of_ble_eq_true rfl⟩) hW (by decide) rfl rfl rfl hl.1 rfl (Nat.le_of_ble_eq_true rfl) dX12_read_93 ⟨Nat.le_of_ble_eq_true rfl, Nat.le_of_ble_eq_true rfl⟩) hL (fun H locs hW hL => ?_)
  refine lv_aload_n hx hb dX12_read_96 rfl (lv_at hl 0 rfl) ?_
  refine g_X12_270 Cx hW (k := 231) (by decide) rfl (v := 1) rfl dX12_read_97 ?_
  refine lv_if_ne (tgt := 251) hx hb dX12_read_100 (by decide) (fun _ => ?_) (fun c => absurd c (by decide))
  refine lv_aload_n hx hb dX12_read_251 rfl (lv_at hl 0 rfl) ?_
  refine g_X12_270 Cx hW (k := 231) (by decide) rfl (v := 1) rfl dX12_read_252 ?_
  refine lv_if_ne (tgt := 280) hx hb dX12_read_255 (by decide) (fun _ => ?_) (fun c => absurd c (by decide))
  exact sVret Cx hr hlk hW hL rfl dX12_read_280

set_option maxRecDepth 100000 in
set_option maxHeartbeats 4000000 in
theorem m_X12_tell (l : Launch) (G : sG) (S : sS)  (hI_231_1 : S.1 231 1 = 0) (hR_231_15 : S.2.2 231 15 = .ref (G.2.2.1 + 244)) (hR_231_16 : S.2.2 231 16 = .ref (G.2.2.1 + 245)) (hR_231_17 : S.2.2 231 17 = .ref (G.2.2.1 + 246)) (hR_231_18 : S.2.2 231 18 = .ref (G.2.2.1 + 247)) : Met l yX12_tell (.code yX12_tell cX12_tell 2 (some .int) :: tb) (rmk 5 0 0) (sPc G 294 S [.ref (G.2.2.1 + 231)]) (sQi G 294 (fun r u => r = 1 ∧ u = (sI (sI (sI (sI (sI (sI (sI (sI (sI (sI (sI (sI (sI (sI (sI (sI (sI (sI (sI (sI S 231 14 0) 231 1 0) 231 20 0) 231 21 ((-1))) 231 19 0) 244 0 5) 245 0 0) 246 0 0) 247 0 0) 231 19 1) 244 1 5) 244 2 5) 244 3 5) 231 24 0) 231 20 1) 231 21 0) 231 24 1) 231 24 2) 231 22 1) 231 23 0))) 0 0 (sF G) := by
  refine sEnter (by decide) (Nat.le_of_ble_eq_true rfl) ?_
  intro p e s m args below meth c Cx hr hlk hnm hW ls hl
  have Cx : sC G p m c cX12_tell 2 s args RX12 := Cx
  obtain ⟨hx, hb, hml, hown, hts⟩ := id Cx.1
  have hL : sL G [] := sL_nil
  have hl : lv_has ls 2 [(0, .ref (G.2.2.1 + 231))] := hl
  refine lv_aload_n hx hb dX12_tell_0 rfl (lv_at hl 0 rfl) ?_
  refine lv_aload_n hx hb dX12_tell_1 rfl (lv_at hl 0 rfl) ?_
  refine g_X12_202 Cx hW (k := 231) (by decide) rfl (v := 0) hI_231_1 dX12_tell_2 ?_
  refine p_X12_276 Cx hW hL (k := 231) (by decide) rfl dX12_tell_5 (fun H locs hW hL => ?_)
  refine lv_aload_n hx hb dX12_tell_8 rfl (lv_at hl 0 rfl) ?_
  refine lv_iconst (v := 0) hx hb dX12_tell_9 (by decide) ?_
  refine p_X12_202 Cx hW hL (k := 231) (by decide) rfl dX12_tell_10 (fun H locs hW hL => ?_)
  refine lv_aload_n hx hb dX12_tell_13 rfl (lv_at hl 0 rfl) ?_
  refine lv_iconst (v := 0) hx hb dX12_tell_14 (by decide) ?_
  refine p_X12_270 Cx hW hL (k := 231) (by decide) rfl dX12_tell_15 (fun H locs hW hL => ?_)
  refine lv_aload_n hx hb dX12_tell_18 rfl (lv_at hl 0 rfl) ?_
  refine lv_iconst (v := (-1)) hx hb dX12_tell_19 (by decide) ?_
  refine p_X12_273 Cx hW hL (k := 231) (by decide) rfl dX12_tell_20 (fun H locs hW hL => ?_)
  refine lv_aload_n hx hb dX12_tell_23 rfl (lv_at hl 0 rfl) ?_
  refine g_X12_276 Cx hW (k := 231) (by decide) rfl (v := 0) rfl dX12_tell_24 ?_
  refine lv_sipush (v := 2000) hx hb dX12_tell_27 (by decide) ?_
  refine lv_icmp_le (tgt := 47) hx hb dX12_tell_30 (by decide) (fun _ => ?_) (fun c => absurd (by decide) c)
  refine lv_iconst (v := 0) hx hb dX12_tell_47 (by decide) ?_
  refine lv_istore_n (lv' := [(1, .int 0), (0, .ref (G.2.2.1 + 231))]) hx hb dX12_tell_48 rfl hl (by decide) rfl (fun ls hl => ?_)
  refine lv_iload_n hx hb dX12_tell_49 rfl (lv_at hl 0 rfl) ?_
  refine lv_aload_n hx hb dX12_tell_50 rfl (lv_at hl 1 rfl) ?_
  refine g_X12_276 Cx hW (k := 231) (by decide) rfl (v := 0) rfl dX12_tell_51 ?_
  refine lv_icmp_ge (tgt := 75) hx hb dX12_tell_54 (by decide) (fun _ => ?_) (fun c => absurd (by decide) c)
  refine lv_aload_n hx hb dX12_tell_75 rfl (lv_at hl 1 rfl) ?_
  refine sBvE (sV (As := []) (rest := []) (k := 231) Cx (t124_X12_tokenize l G (sI (sI (sI (sI S 231 14 0) 231 1 0) 231 20 0) 231 21 ((-1))) rfl hR_231_15 hR_231_16 hR_231_17 hR_231_18) (c_X12_453 Cx rfl rfl ⟨Nat.le_of_ble_eq_true rfl, Nat.le_of_ble_eq_true rfl⟩) hW (by decide) rfl rfl rfl hl.1 rfl (Nat.le_of_ble_eq_true rfl) dX12_tell_76 ⟨Nat.le_of_ble_eq_true rfl, Nat.le_of_ble_eq_true rfl⟩) hL (fun H locs hW hL => ?_)
  refine lv_aload_n hx hb dX12_tell_79 rfl (lv_at hl 1 rfl) ?_
  refine sBvE (sV (As := []) (rest := []) (k := 231) Cx (t135_X12_read l G (sI (sI (sI (sI (sI (sI (sI (sI (sI (sI (sI (sI (sI S 231 14 0) 231 1 0) 231 20 0) 231 21 ((-1))) 231 19 0) 244 0 5) 245 0 0) 246 0 0) 247 0 0) 231 19 1) 244 1 5) 244 2 5) 244 3 5) rfl hR_231_15 rfl hR_231_16 rfl) (c_X12_456 Cx rfl rfl ⟨Nat.le_of_ble_eq_true rfl, Nat.le_of_ble_eq_true rfl⟩) hW (by decide) rfl rfl rfl hl.1 rfl (Nat.le_of_ble_eq_true rfl) dX12_tell_80 ⟨Nat.le_of_ble_eq_true rfl, Nat.le_of_ble_eq_true rfl⟩) hL (fun H locs hW hL => ?_)
  refine lv_aload_n hx hb dX12_tell_83 rfl (lv_at hl 1 rfl) ?_
  refine g_X12_270 Cx hW (k := 231) (by decide) rfl (v := 1) rfl dX12_tell_84 ?_
  refine lv_if_ne (tgt := 94) hx hb dX12_tell_87 (by decide) (fun _ => ?_) (fun c => absurd c (by decide))
  refine lv_aload_n hx hb dX12_tell_94 rfl (lv_at hl 1 rfl) ?_
  refine lv_aload_n hx hb dX12_tell_95 rfl (lv_at hl 1 rfl) ?_
  refine g_X12_270 Cx hW (k := 231) (by decide) rfl (v := 1) rfl dX12_tell_96 ?_
  refine p_X12_447 Cx hW hL (k := 231) (by decide) rfl dX12_tell_99 (fun H locs hW hL => ?_)
  refine lv_aload_n hx hb dX12_tell_102 rfl (lv_at hl 1 rfl) ?_
  refine lv_aload_n hx hb dX12_tell_103 rfl (lv_at hl 1 rfl) ?_
  refine g_X12_273 Cx hW (k := 231) (by decide) rfl (v := 0) rfl dX12_tell_104 ?_
  refine p_X12_450 Cx hW hL (k := 231) (by decide) rfl dX12_tell_107 (fun H locs hW hL => ?_)
  refine lv_aload_n hx hb dX12_tell_110 rfl (lv_at hl 1 rfl) ?_
  refine g_X12_270 Cx hW (k := 231) (by decide) rfl (v := 1) rfl dX12_tell_111 ?_
  refine lv_if_eq (tgt := 122) hx hb dX12_tell_114 (by decide) (fun c => absurd c (by decide)) (fun _ => ?_)
  refine lv_aload_n hx hb dX12_tell_117 rfl (lv_at hl 1 rfl) ?_
  refine g_X12_270 Cx hW (k := 231) (by decide) rfl (v := 1) rfl dX12_tell_118 ?_
  exact sIret Cx hr hlk hW hL ⟨rfl, rfl⟩ dX12_tell_121

set_option maxRecDepth 100000 in
set_option maxHeartbeats 4000000 in
theorem m_X12_fault (l : Launch) (G : sG) (S : sS) (p1 : Int32) (hI_231_22 : S.1 231 22 = 0) : Met l yX12_fault (.code yX12_fault cX12_fault 2 (some .int) :: tb) (rmk 1 0 0) (sPc G 294 S [.ref (G.2.2.1 + 231), .int p1]) (sQi G 294 (fun r u => r = faultF p1 ∧ u = S)) 0 0 (sF G) := by
  refine sEnter (by decide) (Nat.le_of_ble_eq_true rfl) ?_
  intro p e s m args below meth c Cx hr hlk hnm hW ls hl
  have Cx : sC G p m c cX12_fault 2 s args RX12 := Cx
  obtain ⟨hx, hb, hml, hown, hts⟩ := id Cx.1
  have hL : sL G [] := sL_nil
  have hl : lv_has ls 2 [(0, .ref (G.2.2.1 + 231)), (1, .int p1)] := hl
  refine lv_iload_n hx hb dX12_fault_0 rfl (lv_at hl 1 rfl) ?_
  refine lv_if_ne (tgt := 11) hx hb dX12_fault_1 (by decide) (fun c1 => ?_) (fun c1 => ?_)
  · refine lv_iload_n hx hb dX12_fault_11 rfl (lv_at hl 1 rfl) ?_
    refine lv_iconst (v := 1) hx hb dX12_fault_12 (by decide) ?_
    refine lv_icmp_ne (tgt := 30) hx hb dX12_fault_13 (by decide) (fun c2 => ?_) (fun c2 => ?_)
    · refine lv_iconst (v := (-1)) hx hb dX12_fault_30 (by decide) ?_
      exact sIret Cx hr hlk hW hL ⟨(show _ = faultF p1 from (if_neg c1).symm), rfl⟩ dX12_fault_31
    · refine lv_aload_n hx hb dX12_fault_16 rfl (lv_at hl 0 rfl) ?_
      refine g_X12_447 Cx hW (k := 231) (by decide) rfl (v := 0) hI_231_22 dX12_fault_17 ?_
      refine lv_if_le (tgt := 30) hx hb dX12_fault_20 (by decide) (fun _ => ?_) (fun c => absurd (by decide) c)
      refine lv_iconst (v := (-1)) hx hb dX12_fault_30 (by decide) ?_
      exact sIret Cx hr hlk hW hL ⟨(show _ = faultF p1 from (if_neg c1).symm), rfl⟩ dX12_fault_31
  · refine lv_aload_n hx hb dX12_fault_4 rfl (lv_at hl 0 rfl) ?_
    refine g_X12_447 Cx hW (k := 231) (by decide) rfl (v := 0) hI_231_22 dX12_fault_5 ?_
    refine lv_goto (tgt := 31) hx hb dX12_fault_8 (by decide) ?_
    exact sIret Cx hr hlk hW hL ⟨(show _ = faultF p1 from (if_pos c1).symm), rfl⟩ dX12_fault_31

set_option maxRecDepth 100000 in
set_option maxHeartbeats 4000000 in
theorem m_X12_size (l : Launch) (G : sG) (S : sS) (p1 : Int32) (hI_231_45 : S.1 231 45 = 0) : Met l yX12_size (.code yX12_size cX12_size 2 (some .int) :: tb) (rmk 1 0 0) (sPc G 294 S [.ref (G.2.2.1 + 231), .int p1]) (sQi G 294 (fun r u => r = sizeF p1 ∧ u = S)) 0 0 (sF G) := by
  refine sEnter (by decide) (Nat.le_of_ble_eq_true rfl) ?_
  intro p e s m args below meth c Cx hr hlk hnm hW ls hl
  have Cx : sC G p m c cX12_size 2 s args RX12 := Cx
  obtain ⟨hx, hb, hml, hown, hts⟩ := id Cx.1
  have hL : sL G [] := sL_nil
  have hl : lv_has ls 2 [(0, .ref (G.2.2.1 + 231)), (1, .int p1)] := hl
  refine lv_iload_n hx hb dX12_size_0 rfl (lv_at hl 1 rfl) ?_
  by_cases c1 : p1 = 0
  · refine lv_tableIn (off := 31) (tgt := 32) hx hb dX12_size_1 (by rw [c1]; decide) (by rw [c1]; decide) (by rw [c1]; decide) (by decide) ?_
    refine lv_aload_n hx hb dX12_size_32 rfl (lv_at hl 0 rfl) ?_
    refine g_X12_462 Cx hW (k := 231) (by decide) rfl (v := 0) hI_231_45 dX12_size_33 ?_
    refine lv_if_eq (tgt := 46) hx hb dX12_size_36 (by decide) (fun _ => ?_) (fun c => absurd (by decide) c)
    refine lv_iconst (v := 0) hx hb dX12_size_46 (by decide) ?_
    exact sIret Cx hr hlk hW hL ⟨(by rw [c1]; decide), rfl⟩ dX12_size_47
  by_cases c2 : p1 = 1
  · refine lv_tableIn (off := 47) (tgt := 48) hx hb dX12_size_1 (by rw [c2]; decide) (by rw [c2]; decide) (by rw [c2]; decide) (by decide) ?_
    refine lv_aload_n hx hb dX12_size_48 rfl (lv_at hl 0 rfl) ?_
    refine g_X12_462 Cx hW (k := 231) (by decide) rfl (v := 0) hI_231_45 dX12_size_49 ?_
    refine lv_if_eq (tgt := 62) hx hb dX12_size_52 (by decide) (fun _ => ?_) (fun c => absurd (by decide) c)
    refine lv_iconst (v := 0) hx hb dX12_size_62 (by decide) ?_
    exact sIret Cx hr hlk hW hL ⟨(by rw [c2]; decide), rfl⟩ dX12_size_63
  by_cases c3 : p1 = 2
  · refine lv_tableIn (off := 63) (tgt := 64) hx hb dX12_size_1 (by rw [c3]; decide) (by rw [c3]; decide) (by rw [c3]; decide) (by decide) ?_
    refine lv_aload_n hx hb dX12_size_64 rfl (lv_at hl 0 rfl) ?_
    refine g_X12_462 Cx hW (k := 231) (by decide) rfl (v := 0) hI_231_45 dX12_size_65 ?_
    refine lv_if_eq (tgt := 78) hx hb dX12_size_68 (by decide) (fun _ => ?_) (fun c => absurd (by decide) c)
    refine lv_iconst (v := 0) hx hb dX12_size_78 (by decide) ?_
    exact sIret Cx hr hlk hW hL ⟨(by rw [c3]; decide), rfl⟩ dX12_size_79
  by_cases c4 : p1 = 3
  · refine lv_tableIn (off := 79) (tgt := 80) hx hb dX12_size_1 (by rw [c4]; decide) (by rw [c4]; decide) (by rw [c4]; decide) (by decide) ?_
    refine lv_aload_n hx hb dX12_size_80 rfl (lv_at hl 0 rfl) ?_
    refine g_X12_462 Cx hW (k := 231) (by decide) rfl (v := 0) hI_231_45 dX12_size_81 ?_
    refine lv_if_eq (tgt := 98) hx hb dX12_size_84 (by decide) (fun _ => ?_) (fun c => absurd (by decide) c)
    refine lv_iconst (v := 0) hx hb dX12_size_98 (by decide) ?_
    exact sIret Cx hr hlk hW hL ⟨(by rw [c4]; decide), rfl⟩ dX12_size_99
  refine lv_tableOut (tgt := 100) hx hb dX12_size_1 (tabOut4 c1 c2 c3 c4) (by decide) ?_
  refine lv_iconst (v := (-1)) hx hb dX12_size_100 (by decide) ?_
  exact sIret Cx hr hlk hW hL ⟨(show _ = sizeF p1 from (if_pos (tabF4 c1 c2 c3 c4)).symm), rfl⟩ dX12_size_101

set_option maxRecDepth 100000 in
set_option maxHeartbeats 4000000 in
theorem m_X12_coefficient (l : Launch) (G : sG) (S : sS) (p1 : Int32) (p2 : Int32) (hI_231_45 : S.1 231 45 = 0) : Met l yX12_coefficient (.code yX12_coefficient cX12_coefficient 3 (some .long) :: tb) (rmk 1 0 0) (sPc G 294 S [.ref (G.2.2.1 + 231), .int p1, .int p2]) (sQl G 294 (fun r u => r = 0 ∧ u = S)) 0 0 (sF G) := by
  refine sEnter (by decide) (Nat.le_of_ble_eq_true rfl) ?_
  intro p e s m args below meth c Cx hr hlk hnm hW ls hl
  have Cx : sC G p m c cX12_coefficient 3 s args RX12 := Cx
  obtain ⟨hx, hb, hml, hown, hts⟩ := id Cx.1
  have hL : sL G [] := sL_nil
  have hl : lv_has ls 3 [(0, .ref (G.2.2.1 + 231)), (1, .int p1), (2, .int p2)] := hl
  refine lv_aload_n hx hb dX12_coefficient_0 rfl (lv_at hl 0 rfl) ?_
  refine g_X12_462 Cx hW (k := 231) (by decide) rfl (v := 0) hI_231_45 dX12_coefficient_1 ?_
  refine lv_if_eq (tgt := 31) hx hb dX12_coefficient_4 (by decide) (fun _ => ?_) (fun c => absurd (by decide) c)
  refine lv_lconst (v := 0) hx hb dX12_coefficient_31 (by decide) ?_
  exact sLret Cx hr hlk hW hL ⟨rfl, rfl⟩ dX12_coefficient_32

set_option maxRecDepth 100000 in
set_option maxHeartbeats 4000000 in
theorem m_X12_begin (l : Launch) (G : sG) (S : sS) (p1 : Int32) (hI_231_45 : S.1 231 45 = 0) : Met l yX12_begin (.code yX12_begin cX12_begin 5 (some .boolean) :: tb) (rmk 1 0 0) (sPc G 294 S [.ref (G.2.2.1 + 231), .int p1]) (sQi G 294 (fun r u => r = 0 ∧ u = S)) 0 0 (sF G) := by
  refine sEnter (by decide) (Nat.le_of_ble_eq_true rfl) ?_
  intro p e s m args below meth c Cx hr hlk hnm hW ls hl
  have Cx : sC G p m c cX12_begin 5 s args RX12 := Cx
  obtain ⟨hx, hb, hml, hown, hts⟩ := id Cx.1
  have hL : sL G [] := sL_nil
  have hl : lv_has ls 5 [(0, .ref (G.2.2.1 + 231)), (1, .int p1)] := hl
  refine lv_aload_n hx hb dX12_begin_0 rfl (lv_at hl 0 rfl) ?_
  refine g_X12_462 Cx hW (k := 231) (by decide) rfl (v := 0) hI_231_45 dX12_begin_1 ?_
  refine lv_if_eq (tgt := 17) hx hb dX12_begin_4 (by decide) (fun _ => ?_) (fun c => absurd (by decide) c)
  refine lv_iconst (v := 0) hx hb dX12_begin_17 (by decide) ?_
  exact sZret Cx hr hlk hW hL (by decide) ⟨rfl, rfl⟩ dX12_begin_18

set_option maxRecDepth 100000 in
set_option maxHeartbeats 4000000 in
theorem m_X12_work (l : Launch) (G : sG) (S : sS) (p1 : Int32) (hI_231_61 : S.1 231 61 = 0) : Met l yX12_work (.code yX12_work cX12_work 3 (some .int) :: tb) (rmk 1 0 0) (sPc G 294 S [.ref (G.2.2.1 + 231), .int p1]) (sQi G 294 (fun r u => r = workF p1 ∧ u = S)) 0 0 (sF G) := by
  refine sEnter (by decide) (Nat.le_of_ble_eq_true rfl) ?_
  intro p e s m args below meth c Cx hr hlk hnm hW ls hl
  have Cx : sC G p m c cX12_work 3 s args RX12 := Cx
  obtain ⟨hx, hb, hml, hown, hts⟩ := id Cx.1
  have hL : sL G [] := sL_nil
  have hl : lv_has ls 3 [(0, .ref (G.2.2.1 + 231)), (1, .int p1)] := hl
  refine lv_iload_n hx hb dX12_work_0 rfl (lv_at hl 1 rfl) ?_
  refine lv_iconst (v := 1) hx hb dX12_work_1 (by decide) ?_
  refine lv_icmp_lt (tgt := 12) hx hb dX12_work_2 (by decide) (fun c1 => ?_) (fun c1 => ?_)
  · refine lv_iconst (v := (-1)) hx hb dX12_work_12 (by decide) ?_
    exact sIret Cx hr hlk hW hL ⟨(show _ = workF p1 from (if_pos (Or.inl c1)).symm), rfl⟩ dX12_work_13
  · refine lv_iload_n hx hb dX12_work_5 rfl (lv_at hl 1 rfl) ?_
    refine lv_sipush (v := 500) hx hb dX12_work_6 (by decide) ?_
    refine lv_icmp_le (tgt := 14) hx hb dX12_work_9 (by decide) (fun c2 => ?_) (fun c2 => ?_)
    · refine lv_aload_n hx hb dX12_work_14 rfl (lv_at hl 0 rfl) ?_
      refine g_X12_477 Cx hW (k := 231) (by decide) rfl (v := 0) hI_231_61 dX12_work_15 ?_
      refine lv_iconst (v := 1) hx hb dX12_work_18 (by decide) ?_
      refine lv_icmp_eq (tgt := 24) hx hb dX12_work_19 (by decide) (fun c => absurd c (by decide)) (fun _ => ?_)
      refine lv_iconst (v := 0) hx hb dX12_work_22 (by decide) ?_
      exact sIret Cx hr hlk hW hL ⟨(show _ = workF p1 from (if_neg (fun h => h.elim c1 (Int32.not_lt.mpr c2))).symm), rfl⟩ dX12_work_23
    · refine lv_iconst (v := (-1)) hx hb dX12_work_12 (by decide) ?_
      exact sIret Cx hr hlk hW hL ⟨(show _ = workF p1 from (if_pos (Or.inr (Int32.not_le.mp c2))).symm), rfl⟩ dX12_work_13

set_option maxRecDepth 100000 in
set_option maxHeartbeats 4000000 in
theorem m_X12_look (l : Launch) (G : sG) (S : sS) (p1 : Int32) (hI_231_61 : S.1 231 61 = 0) (hI_231_1 : S.1 231 1 = 0) : Met l yX12_look (.code yX12_look cX12_look 3 (some .int) :: tb) (rmk 1 0 0) (sPc G 294 S [.ref (G.2.2.1 + 231), .int p1]) (sQi G 294 (fun r u => r = lookF p1 ∧ u = S)) 0 0 (sF G) := by
  refine sEnter (by decide) (Nat.le_of_ble_eq_true rfl) ?_
  intro p e s m args below meth c Cx hr hlk hnm hW ls hl
  have Cx : sC G p m c cX12_look 3 s args RX12 := Cx
  obtain ⟨hx, hb, hml, hown, hts⟩ := id Cx.1
  have hL : sL G [] := sL_nil
  have hl : lv_has ls 3 [(0, .ref (G.2.2.1 + 231)), (1, .int p1)] := hl
  refine lv_aload_n hx hb dX12_look_0 rfl (lv_at hl 0 rfl) ?_
  refine g_X12_477 Cx hW (k := 231) (by decide) rfl (v := 0) hI_231_61 dX12_look_1 ?_
  refine lv_if_le (tgt := 11) hx hb dX12_look_4 (by decide) (fun _ => ?_) (fun c => absurd (by decide) c)
  refine lv_iconst (v := 0) hx hb dX12_look_11 (by decide) ?_
  refine lv_istore_n (lv' := [(2, .int 0), (0, .ref (G.2.2.1 + 231)), (1, .int p1)]) hx hb dX12_look_12 rfl hl (by decide) rfl (fun ls hl => ?_)
  refine lv_iload_n hx hb dX12_look_13 rfl (lv_at hl 2 rfl) ?_
  by_cases c1 : p1 = 0
  · refine lv_tableIn (off := 54) (tgt := 68) hx hb dX12_look_14 (by rw [c1]; decide) (by rw [c1]; decide) (by rw [c1]; decide) (by decide) ?_
    refine lv_aload_n hx hb dX12_look_68 rfl (lv_at hl 1 rfl) ?_
    refine g_X12_477 Cx hW (k := 231) (by decide) rfl (v := 0) hI_231_61 dX12_look_69 ?_
    exact sIret Cx hr hlk hW hL ⟨(by rw [c1]; decide), rfl⟩ dX12_look_72
  by_cases c2 : p1 = 1
  · refine lv_tableIn (off := 59) (tgt := 73) hx hb dX12_look_14 (by rw [c2]; decide) (by rw [c2]; decide) (by rw [c2]; decide) (by decide) ?_
    refine lv_iload_n hx hb dX12_look_73 rfl (lv_at hl 0 rfl) ?_
    refine lv_if_eq (tgt := 84) hx hb dX12_look_74 (by decide) (fun _ => ?_) (fun c => absurd (by decide) c)
    refine lv_iconst (v := 0) hx hb dX12_look_84 (by decide) ?_
    exact sIret Cx hr hlk hW hL ⟨(by rw [c2]; decide), rfl⟩ dX12_look_85
  by_cases c3 : p1 = 2
  · refine lv_tableIn (off := 72) (tgt := 86) hx hb dX12_look_14 (by rw [c3]; decide) (by rw [c3]; decide) (by rw [c3]; decide) (by decide) ?_
    refine lv_iload_n hx hb dX12_look_86 rfl (lv_at hl 0 rfl) ?_
    refine lv_if_eq (tgt := 97) hx hb dX12_look_87 (by decide) (fun _ => ?_) (fun c => absurd (by decide) c)
    refine lv_iconst (v := 0) hx hb dX12_look_97 (by decide) ?_
    exact sIret Cx hr hlk hW hL ⟨(by rw [c3]; decide), rfl⟩ dX12_look_98
  by_cases c4 : p1 = 3
  · refine lv_tableIn (off := 85) (tgt := 99) hx hb dX12_look_14 (by rw [c4]; decide) (by rw [c4]; decide) (by rw [c4]; decide) (by decide) ?_
    refine lv_iload_n hx hb dX12_look_99 rfl (lv_at hl 0 rfl) ?_
    refine lv_if_eq (tgt := 110) hx hb dX12_look_100 (by decide) (fun _ => ?_) (fun c => absurd (by decide) c)
    refine lv_iconst (v := 0) hx hb dX12_look_110 (by decide) ?_
    exact sIret Cx hr hlk hW hL ⟨(by rw [c4]; decide), rfl⟩ dX12_look_111
  by_cases c5 : p1 = 4
  · refine lv_tableIn (off := 98) (tgt := 112) hx hb dX12_look_14 (by rw [c5]; decide) (by rw [c5]; decide) (by rw [c5]; decide) (by decide) ?_
    refine lv_iload_n hx hb dX12_look_112 rfl (lv_at hl 0 rfl) ?_
    refine lv_if_eq (tgt := 123) hx hb dX12_look_113 (by decide) (fun _ => ?_) (fun c => absurd (by decide) c)
    refine lv_iconst (v := 0) hx hb dX12_look_123 (by decide) ?_
    exact sIret Cx hr hlk hW hL ⟨(by rw [c5]; decide), rfl⟩ dX12_look_124
  by_cases c6 : p1 = 5
  · refine lv_tableIn (off := 111) (tgt := 125) hx hb dX12_look_14 (by rw [c6]; decide) (by rw [c6]; decide) (by rw [c6]; decide) (by decide) ?_
    refine lv_iload_n hx hb dX12_look_125 rfl (lv_at hl 0 rfl) ?_
    refine lv_if_eq (tgt := 136) hx hb dX12_look_126 (by decide) (fun _ => ?_) (fun c => absurd (by decide) c)
    refine lv_iconst (v := 0) hx hb dX12_look_136 (by decide) ?_
    exact sIret Cx hr hlk hW hL ⟨(by rw [c6]; decide), rfl⟩ dX12_look_137
  by_cases c7 : p1 = 6
  · refine lv_tableIn (off := 124) (tgt := 138) hx hb dX12_look_14 (by rw [c7]; decide) (by rw [c7]; decide) (by rw [c7]; decide) (by decide) ?_
    refine lv_iload_n hx hb dX12_look_138 rfl (lv_at hl 0 rfl) ?_
    refine lv_if_eq (tgt := 154) hx hb dX12_look_139 (by decide) (fun _ => ?_) (fun c => absurd (by decide) c)
    refine lv_iconst (v := 0) hx hb dX12_look_154 (by decide) ?_
    exact sIret Cx hr hlk hW hL ⟨(by rw [c7]; decide), rfl⟩ dX12_look_155
  by_cases c8 : p1 = 7
  · refine lv_tableIn (off := 142) (tgt := 156) hx hb dX12_look_14 (by rw [c8]; decide) (by rw [c8]; decide) (by rw [c8]; decide) (by decide) ?_
    refine lv_iload_n hx hb dX12_look_156 rfl (lv_at hl 0 rfl) ?_
    refine lv_if_ne (tgt := 164) hx hb dX12_look_157 (by decide) (fun c => absurd (by decide) c) (fun _ => ?_)
    refine lv_iconst (v := 0) hx hb dX12_look_160 (by decide) ?_
    refine lv_goto (tgt := 189) hx hb dX12_look_161 (by decide) ?_
    exact sIret Cx hr hlk hW hL ⟨(by rw [c8]; decide), rfl⟩ dX12_look_189
  by_cases c9 : p1 = 8
  · refine lv_tableIn (off := 176) (tgt := 190) hx hb dX12_look_14 (by rw [c9]; decide) (by rw [c9]; decide) (by rw [c9]; decide) (by decide) ?_
    refine lv_aload_n hx hb dX12_look_190 rfl (lv_at hl 1 rfl) ?_
    refine g_X12_477 Cx hW (k := 231) (by decide) rfl (v := 0) hI_231_61 dX12_look_191 ?_
    refine lv_iconst (v := 2) hx hb dX12_look_194 (by decide) ?_
    refine lv_icmp_lt (tgt := 213) hx hb dX12_look_195 (by decide) (fun _ => ?_) (fun c => absurd (by decide) c)
    refine lv_iconst (v := 0) hx hb dX12_look_213 (by decide) ?_
    exact sIret Cx hr hlk hW hL ⟨(by rw [c9]; decide), rfl⟩ dX12_look_214
  by_cases c10 : p1 = 9
  · refine lv_tableIn (off := 201) (tgt := 215) hx hb dX12_look_14 (by rw [c10]; decide) (by rw [c10]; decide) (by rw [c10]; decide) (by decide) ?_
    refine lv_aload_n hx hb dX12_look_215 rfl (lv_at hl 1 rfl) ?_
    refine g_X12_202 Cx hW (k := 231) (by decide) rfl (v := 0) hI_231_1 dX12_look_216 ?_
    exact sIret Cx hr hlk hW hL ⟨(by rw [c10]; decide), rfl⟩ dX12_look_219
  refine lv_tableOut (tgt := 220) hx hb dX12_look_14 (tabOut10 c1 c2 c3 c4 c5 c6 c7 c8 c9 c10) (by decide) ?_
  refine lv_iconst (v := (-1)) hx hb dX12_look_220 (by decide) ?_
  exact sIret Cx hr hlk hW hL ⟨(show _ = lookF p1 from (if_pos (tabF10 c1 c2 c3 c4 c5 c6 c7 c8 c9 c10)).symm), rfl⟩ dX12_look_221

set_option maxRecDepth 100000 in
set_option maxHeartbeats 4000000 in
theorem m_X12_place (l : Launch) (G : sG) (S : sS) (p1 : Int32) (hI_231_61 : S.1 231 61 = 0) : Met l yX12_place (.code yX12_place cX12_place 2 (some .int) :: tb) (rmk 1 0 0) (sPc G 294 S [.ref (G.2.2.1 + 231), .int p1]) (sQi G 294 (fun r u => r = (-1) ∧ u = S)) 0 0 (sF G) := by
  refine sEnter (by decide) (Nat.le_of_ble_eq_true rfl) ?_
  intro p e s m args below meth c Cx hr hlk hnm hW ls hl
  have Cx : sC G p m c cX12_place 2 s args RX12 := Cx
  obtain ⟨hx, hb, hml, hown, hts⟩ := id Cx.1
  have hL : sL G [] := sL_nil
  have hl : lv_has ls 2 [(0, .ref (G.2.2.1 + 231)), (1, .int p1)] := hl
  refine lv_aload_n hx hb dX12_place_0 rfl (lv_at hl 0 rfl) ?_
  refine g_X12_477 Cx hW (k := 231) (by decide) rfl (v := 0) hI_231_61 dX12_place_1 ?_
  refine lv_if_ne (tgt := 9) hx hb dX12_place_4 (by decide) (fun c => absurd (by decide) c) (fun _ => ?_)
  refine lv_iconst (v := (-1)) hx hb dX12_place_7 (by decide) ?_
  exact sIret Cx hr hlk hW hL ⟨rfl, rfl⟩ dX12_place_8

set_option maxRecDepth 100000 in
set_option maxHeartbeats 4000000 in
theorem m_X12_entry (l : Launch) (G : sG) (S : sS) (p1 : Int32) (p2 : Int32) (p3 : Int32) (hI_231_61 : S.1 231 61 = 0) : Met l yX12_entry (.code yX12_entry cX12_entry 4 (some .int) :: tb) (rmk 1 0 0) (sPc G 294 S [.ref (G.2.2.1 + 231), .int p1, .int p2, .int p3]) (sQi G 294 (fun r u => r = (-1) ∧ u = S)) 0 0 (sF G) := by
  refine sEnter (by decide) (Nat.le_of_ble_eq_true rfl) ?_
  intro p e s m args below meth c Cx hr hlk hnm hW ls hl
  have Cx : sC G p m c cX12_entry 4 s args RX12 := Cx
  obtain ⟨hx, hb, hml, hown, hts⟩ := id Cx.1
  have hL : sL G [] := sL_nil
  have hl : lv_has ls 4 [(0, .ref (G.2.2.1 + 231)), (1, .int p1), (2, .int p2), (3, .int p3)] := hl
  refine lv_aload_n hx hb dX12_entry_0 rfl (lv_at hl 0 rfl) ?_
  refine g_X12_477 Cx hW (k := 231) (by decide) rfl (v := 0) hI_231_61 dX12_entry_1 ?_
  refine lv_if_eq (tgt := 55) hx hb dX12_entry_4 (by decide) (fun _ => ?_) (fun c => absurd (by decide) c)
  refine lv_iconst (v := (-1)) hx hb dX12_entry_55 (by decide) ?_
  exact sIret Cx hr hlk hW hL ⟨rfl, rfl⟩ dX12_entry_56

set_option maxRecDepth 100000 in
set_option maxHeartbeats 4000000 in
theorem m_X12_told (l : Launch) (G : sG) (S : sS) (p1 : Int32) (p2 : Int32) (hI_231_61 : S.1 231 61 = 0) : Met l yX12_told_ (.code yX12_told_ cX12_told_ 6 (some .int) :: tb) (rmk 1 0 0) (sPc G 294 S [.ref (G.2.2.1 + 231), .int p1, .int p2]) (sQi G 294 (fun r u => r = (-1) ∧ u = S)) 0 0 (sF G) := by
  refine sEnter (by decide) (Nat.le_of_ble_eq_true rfl) ?_
  intro p e s m args below meth c Cx hr hlk hnm hW ls hl
  have Cx : sC G p m c cX12_told_ 6 s args RX12 := Cx
  obtain ⟨hx, hb, hml, hown, hts⟩ := id Cx.1
  have hL : sL G [] := sL_nil
  have hl : lv_has ls 6 [(0, .ref (G.2.2.1 + 231)), (1, .int p1), (2, .int p2)] := hl
  refine lv_aload_n hx hb dX12_told__0 rfl (lv_at hl 0 rfl) ?_
  refine g_X12_477 Cx hW (k := 231) (by decide) rfl (v := 0) hI_231_61 dX12_told__1 ?_
  refine lv_if_eq (tgt := 35) hx hb dX12_told__4 (by decide) (fun _ => ?_) (fun c => absurd (by decide) c)
  refine lv_iconst (v := (-1)) hx hb dX12_told__35 (by decide) ?_
  exact sIret Cx hr hlk hW hL ⟨rfl, rfl⟩ dX12_told__36

set_option maxRecDepth 100000 in
set_option maxHeartbeats 4000000 in
theorem m_X12_proof (l : Launch) (G : sG) (S : sS) (p1 : Int32) (hI_231_61 : S.1 231 61 = 0) : Met l yX12_proof (.code yX12_proof cX12_proof 2 (some .int) :: tb) (rmk 1 0 0) (sPc G 294 S [.ref (G.2.2.1 + 231), .int p1]) (sQi G 294 (fun r u => r = (-1) ∧ u = S)) 0 0 (sF G) := by
  refine sEnter (by decide) (Nat.le_of_ble_eq_true rfl) ?_
  intro p e s m args below meth c Cx hr hlk hnm hW ls hl
  have Cx : sC G p m c cX12_proof 2 s args RX12 := Cx
  obtain ⟨hx, hb, hml, hown, hts⟩ := id Cx.1
  have hL : sL G [] := sL_nil
  have hl : lv_has ls 2 [(0, .ref (G.2.2.1 + 231)), (1, .int p1)] := hl
  refine lv_aload_n hx hb dX12_proof_0 rfl (lv_at hl 0 rfl) ?_
  refine g_X12_477 Cx hW (k := 231) (by decide) rfl (v := 0) hI_231_61 dX12_proof_1 ?_
  refine lv_iconst (v := 2) hx hb dX12_proof_4 (by decide) ?_
  refine lv_icmp_lt (tgt := 37) hx hb dX12_proof_5 (by decide) (fun _ => ?_) (fun c => absurd (by decide) c)
  refine lv_iconst (v := (-1)) hx hb dX12_proof_37 (by decide) ?_
  exact sIret Cx hr hlk hW hL ⟨rfl, rfl⟩ dX12_proof_38

set_option maxRecDepth 100000 in
set_option maxHeartbeats 4000000 in
theorem m_X12_check (l : Launch) (G : sG) (S : sS)  (hI_231_1 : S.1 231 1 = 0) (hI_231_45 : S.1 231 45 = 0) : Met l yX12_check (.code yX12_check cX12_check 2 (some .int) :: tb) (rmk 1 0 0) (sPc G 294 S [.ref (G.2.2.1 + 231)]) (sQi G 294 (fun r u => r = (-1) ∧ u = (sI (sI S 231 14 0) 231 1 0))) 0 0 (sF G) := by
  refine sEnter (by decide) (Nat.le_of_ble_eq_true rfl) ?_
  intro p e s m args below meth c Cx hr hlk hnm hW ls hl
  have Cx : sC G p m c cX12_check 2 s args RX12 := Cx
  obtain ⟨hx, hb, hml, hown, hts⟩ := id Cx.1
  have hL : sL G [] := sL_nil
  have hl : lv_has ls 2 [(0, .ref (G.2.2.1 + 231))] := hl
  refine lv_aload_n hx hb dX12_check_0 rfl (lv_at hl 0 rfl) ?_
  refine lv_aload_n hx hb dX12_check_1 rfl (lv_at hl 0 rfl) ?_
  refine g_X12_202 Cx hW (k := 231) (by decide) rfl (v := 0) hI_231_1 dX12_check_2 ?_
  refine p_X12_276 Cx hW hL (k := 231) (by decide) rfl dX12_check_5 (fun H locs hW hL => ?_)
  refine lv_aload_n hx hb dX12_check_8 rfl (lv_at hl 0 rfl) ?_
  refine lv_iconst (v := 0) hx hb dX12_check_9 (by decide) ?_
  refine p_X12_202 Cx hW hL (k := 231) (by decide) rfl dX12_check_10 (fun H locs hW hL => ?_)
  refine lv_aload_n hx hb dX12_check_13 rfl (lv_at hl 0 rfl) ?_
  refine g_X12_462 Cx hW (k := 231) (by decide) rfl (v := 0) hI_231_45 dX12_check_14 ?_
  refine lv_if_ne (tgt := 22) hx hb dX12_check_17 (by decide) (fun c => absurd (by decide) c) (fun _ => ?_)
  refine lv_iconst (v := (-1)) hx hb dX12_check_20 (by decide) ?_
  exact sIret Cx hr hlk hW hL ⟨rfl, rfl⟩ dX12_check_21
