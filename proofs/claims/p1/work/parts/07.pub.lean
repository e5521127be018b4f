set_option maxRecDepth 100000 in
set_option maxHeartbeats 4000000 in
theorem t61_X10_length (l : Launch) (G : sG) (S : sS)  (hI_1_1 : S.1 1 1 = 0) : Met l yX10_length (.code yX10_length cX10_length 1 (some .int) :: tb) (rmk 1 0 0) (sPc G 294 S [.ref (G.2.2.1 + 1)]) (sQi G 294 (fun r u => r = 0 ∧ u = S)) 0 0 (sF G) := by
  refine sEnter (by decide) (Nat.le_of_ble_eq_true rfl) ?_
  intro p e s m args below meth c Cx hr hlk hnm hW ls hl
  have Cx : sC G p m c cX10_length 1 s args RX10 := Cx
  obtain ⟨hx, hb, hml, hown, hts⟩ := id Cx.1
  have hL : sL G [] := sL_nil
  have hl : lv_has ls 1 [(0, .ref (G.2.2.1 + 1))] := hl
  refine lv_aload_n hx hb dX10_length_0 rfl (lv_at hl 0 rfl) ?_
  refine g_X10_21 Cx hW (k := 1) (by decide) rfl (v := 0) hI_1_1 dX10_length_1 ?_
  exact sIret Cx hr hlk hW hL ⟨rfl, rfl⟩ dX10_length_4

set_option maxRecDepth 100000 in
set_option maxHeartbeats 4000000 in
theorem t62_X10_put (l : Launch) (G : sG) (S : sS) (p1 : Int32) (hI_1_1 : S.1 1 1 = 0) (hR_1_0 : S.2.2 1 0 = .ref (G.2.2.1 + 2)) : Met l yX10_put (.code yX10_put cX10_put 2 none :: tb) (rmk 1 0 0) (sPc G 294 S [.ref (G.2.2.1 + 1), .int p1]) (sQv G 294 (fun u => u = (sI (sI S 2 0 (vp_nar .byte (i2bI p1))) 1 1 1))) 0 0 (sF G) := by
  refine sEnter (by decide) (Nat.le_of_ble_eq_true rfl) ?_
  intro p e s m args below meth c Cx hr hlk hnm hW ls hl
  have Cx : sC G p m c cX10_put 2 s args RX10 := Cx
  obtain ⟨hx, hb, hml, hown, hts⟩ := id Cx.1
  have hL : sL G [] := sL_nil
  have hl : lv_has ls 2 [(0, .ref (G.2.2.1 + 1)), (1, .int p1)] := hl
  refine lv_aload_n hx hb dX10_put_0 rfl (lv_at hl 0 rfl) ?_
  refine g_X10_21 Cx hW (k := 1) (by decide) rfl (v := 0) hI_1_1 dX10_put_1 ?_
  refine lv_aload_n hx hb dX10_put_4 rfl (lv_at hl 0 rfl) ?_
  refine g_X10_15 Cx hW (k := 1) (by decide) rfl (v := .ref (G.2.2.1 + 2)) hR_1_0 dX10_put_5 ?_
  refine sAlen Cx hW (k := 2) (N := 30000) (by decide) rfl 2 rfl (v := 30000) (by decide) dX10_put_8 ?_
  refine lv_icmp_lt (tgt := 18) hx hb dX10_put_9 (by decide) (fun _ => ?_) (fun c => absurd (by decide) c)
  refine lv_aload_n hx hb dX10_put_18 rfl (lv_at hl 0 rfl) ?_
  refine g_X10_15 Cx hW (k := 1) (by decide) rfl (v := .ref (G.2.2.1 + 2)) hR_1_0 dX10_put_19 ?_
  refine lv_aload_n hx hb dX10_put_22 rfl (lv_at hl 0 rfl) ?_
  refine g_X10_21 Cx hW (k := 1) (by decide) rfl (v := 0) hI_1_1 dX10_put_23 ?_
  refine lv_iload_n hx hb dX10_put_26 rfl (lv_at hl 1 rfl) ?_
  refine lv_i2b (v := i2bI p1) hx hb dX10_put_27 rfl ?_
  refine sBast Cx hW hL (k := 2) (N := 30000) (by decide) rfl (j := 0) (by decide) (vp_c (by decide)) (y := vp_nar .byte (i2bI p1)) rfl dX10_put_28 (fun H locs hW hL => ?_)
  refine lv_aload_n hx hb dX10_put_29 rfl (lv_at hl 0 rfl) ?_
  refine lv_dup hx hb dX10_put_30 rfl ?_
  refine g_X10_21 Cx hW (k := 1) (by decide) rfl (v := 0) hI_1_1 dX10_put_31 ?_
  refine lv_iconst (v := 1) hx hb dX10_put_34 (by decide) ?_
  refine lv_iadd hx hb dX10_put_35 ?_
  refine sCi (v := 1) (by decide) ?_
  refine p_X10_21 Cx hW hL (k := 1) (by decide) rfl dX10_put_36 (fun H locs hW hL => ?_)
  exact sVret Cx hr hlk hW hL rfl dX10_put_39

set_option maxRecDepth 100000 in
set_option maxHeartbeats 4000000 in
theorem t63_X10_put (l : Launch) (G : sG) (S : sS) (p1 : Int32) (hI_1_1 : S.1 1 1 = 1) (hR_1_0 : S.2.2 1 0 = .ref (G.2.2.1 + 2)) : Met l yX10_put (.code yX10_put cX10_put 2 none :: tb) (rmk 1 0 0) (sPc G 294 S [.ref (G.2.2.1 + 1), .int p1]) (sQv G 294 (fun u => u = (sI (sI S 2 1 (vp_nar .byte (i2bI p1))) 1 1 2))) 0 0 (sF G) := by
  refine sEnter (by decide) (Nat.le_of_ble_eq_true rfl) ?_
  intro p e s m args below meth c Cx hr hlk hnm hW ls hl
  have Cx : sC G p m c cX10_put 2 s args RX10 := Cx
  obtain ⟨hx, hb, hml, hown, hts⟩ := id Cx.1
  have hL : sL G [] := sL_nil
  have hl : lv_has ls 2 [(0, .ref (G.2.2.1 + 1)), (1, .int p1)] := hl
  refine lv_aload_n hx hb dX10_put_0 rfl (lv_at hl 0 rfl) ?_
  refine g_X10_21 Cx hW (k := 1) (by decide) rfl (v := 1) hI_1_1 dX10_put_1 ?_
  refine lv_aload_n hx hb dX10_put_4 rfl (lv_at hl 0 rfl) ?_
  refine g_X10_15 Cx hW (k := 1) (by decide) rfl (v := .ref (G.2.2.1 + 2)) hR_1_0 dX10_put_5 ?_
  refine sAlen Cx hW (k := 2) (N := 30000) (by decide) rfl 2 rfl (v := 30000) (by decide) dX10_put_8 ?_
  refine lv_icmp_lt (tgt := 18) hx hb dX10_put_9 (by decide) (fun _ => ?_) (fun c => absurd (by decide) c)
  refine lv_aload_n hx hb dX10_put_18 rfl (lv_at hl 0 rfl) ?_
  refine g_X10_15 Cx hW (k := 1) (by decide) rfl (v := .ref (G.2.2.1 + 2)) hR_1_0 dX10_put_19 ?_
  refine lv_aload_n hx hb dX10_put_22 rfl (lv_at hl 0 rfl) ?_
  refine g_X10_21 Cx hW (k := 1) (by decide) rfl (v := 1) hI_1_1 dX10_put_23 ?_
  refine lv_iload_n hx hb dX10_put_26 rfl (lv_at hl 1 rfl) ?_
  refine lv_i2b (v := i2bI p1) hx hb dX10_put_27 rfl ?_
  refine sBast Cx hW hL (k := 2) (N := 30000) (by decide) rfl (j := 1) (by decide) (vp_c (by decide)) (y := vp_nar .byte (i2bI p1)) rfl dX10_put_28 (fun H locs hW hL => ?_)
  refine lv_aload_n hx hb dX10_put_29 rfl (lv_at hl 0 rfl) ?_
  refine lv_dup hx hb dX10_put_30 rfl ?_
  refine g_X10_21 Cx hW (k := 1) (by decide) rfl (v := 1) hI_1_1 dX10_put_31 ?_
  refine lv_iconst (v := 1) hx hb dX10_put_34 (by decide) ?_
  refine lv_iadd hx hb dX10_put_35 ?_
  refine sCi (v := 2) (by decide) ?_
  refine p_X10_21 Cx hW hL (k := 1) (by decide) rfl dX10_put_36 (fun H locs hW hL => ?_)
  exact sVret Cx hr hlk hW hL rfl dX10_put_39

set_option maxRecDepth 100000 in
set_option maxHeartbeats 4000000 in
theorem t64_X10_put (l : Launch) (G : sG) (S : sS) (p1 : Int32) (hI_1_1 : S.1 1 1 = 2) (hR_1_0 : S.2.2 1 0 = .ref (G.2.2.1 + 2)) : Met l yX10_put (.code yX10_put cX10_put 2 none :: tb) (rmk 1 0 0) (sPc G 294 S [.ref (G.2.2.1 + 1), .int p1]) (sQv G 294 (fun u => u = (sI (sI S 2 2 (vp_nar .byte (i2bI p1))) 1 1 3))) 0 0 (sF G) := by
  refine sEnter (by decide) (Nat.le_of_ble_eq_true rfl) ?_
  intro p e s m args below meth c Cx hr hlk hnm hW ls hl
  have Cx : sC G p m c cX10_put 2 s args RX10 := Cx
  obtain ⟨hx, hb, hml, hown, hts⟩ := id Cx.1
  have hL : sL G [] := sL_nil
  have hl : lv_has ls 2 [(0, .ref (G.2.2.1 + 1)), (1, .int p1)] := hl
  refine lv_aload_n hx hb dX10_put_0 rfl (lv_at hl 0 rfl) ?_
  refine g_X10_21 Cx hW (k := 1) (by decide) rfl (v := 2) hI_1_1 dX10_put_1 ?_
  refine lv_aload_n hx hb dX10_put_4 rfl (lv_at hl 0 rfl) ?_
  refine g_X10_15 Cx hW (k := 1) (by decide) rfl (v := .ref (G.2.2.1 + 2)) hR_1_0 dX10_put_5 ?_
  refine sAlen Cx hW (k := 2) (N := 30000) (by decide) rfl 2 rfl (v := 30000) (by decide) dX10_put_8 ?_
  refine lv_icmp_lt (tgt := 18) hx hb dX10_put_9 (by decide) (fun _ => ?_) (fun c => absurd (by decide) c)
  refine lv_aload_n hx hb dX10_put_18 rfl (lv_at hl 0 rfl) ?_
  refine g_X10_15 Cx hW (k := 1) (by decide) rfl (v := .ref (G.2.2.1 + 2)) hR_1_0 dX10_put_19 ?_
  refine lv_aload_n hx hb dX10_put_22 rfl (lv_at hl 0 rfl) ?_
  refine g_X10_21 Cx hW (k := 1) (by decide) rfl (v := 2) hI_1_1 dX10_put_23 ?_
  refine lv_iload_n hx hb dX10_put_26 rfl (lv_at hl 1 rfl) ?_
  refine lv_i2b (v := i2bI p1) hx hb dX10_put_27 rfl ?_
  refine sBast Cx hW hL (k := 2) (N := 30000) (by decide) rfl (j := 2) (by decide) (vp_c (by decide)) (y := vp_nar .byte (i2bI p1)) rfl dX10_put_28 (fun H locs hW hL => ?_)
  refine lv_aload_n hx hb dX10_put_29 rfl (lv_at hl 0 rfl) ?_
  refine lv_dup hx hb dX10_put_30 rfl ?_
  refine g_X10_21 Cx hW (k := 1) (by decide) rfl (v := 2) hI_1_1 dX10_put_31 ?_
  refine lv_iconst (v := 1) hx hb dX10_put_34 (by decide) ?_
  refine lv_iadd hx hb dX10_put_35 ?_
  refine sCi (v := 3) (by decide) ?_
  refine p_X10_21 Cx hW hL (k := 1) (by decide) rfl dX10_put_36 (fun H locs hW hL => ?_)
  exact sVret Cx hr hlk hW hL rfl dX10_put_39

set_option maxRecDepth 100000 in
set_option maxHeartbeats 4000000 in
theorem t65_X10_put (l : Launch) (G : sG) (S : sS) (p1 : Int32) (hI_1_1 : S.1 1 1 = 3) (hR_1_0 : S.2.2 1 0 = .ref (G.2.2.1 + 2)) : Met l yX10_put (.code yX10_put cX10_put 2 none :: tb) (rmk 1 0 0) (sPc G 294 S [.ref (G.2.2.1 + 1), .int p1]) (sQv G 294 (fun u => u = (sI (sI S 2 3 (vp_nar .byte (i2bI p1))) 1 1 4))) 0 0 (sF G) := by
  refine sEnter (by decide) (Nat.le_of_ble_eq_true rfl) ?_
  intro p e s m args below meth c Cx hr hlk hnm hW ls hl
  have Cx : sC G p m c cX10_put 2 s args RX10 := Cx
  obtain ⟨hx, hb, hml, hown, hts⟩ := id Cx.1
  have hL : sL G [] := sL_nil
  have hl : lv_has ls 2 [(0, .ref (G.2.2.1 + 1)), (1, .int p1)] := hl
  refine lv_aload_n hx hb dX10_put_0 rfl (lv_at hl 0 rfl) ?_
  refine g_X10_21 Cx hW (k := 1) (by decide) rfl (v := 3) hI_1_1 dX10_put_1 ?_
  refine lv_aload_n hx hb dX10_put_4 rfl (lv_at hl 0 rfl) ?_
  refine g_X10_15 Cx hW (k := 1) (by decide) rfl (v := .ref (G.2.2.1 + 2)) hR_1_0 dX10_put_5 ?_
  refine sAlen Cx hW (k := 2) (N := 30000) (by decide) rfl 2 rfl (v := 30000) (by decide) dX10_put_8 ?_
  refine lv_icmp_lt (tgt := 18) hx hb dX10_put_9 (by decide) (fun _ => ?_) (fun c => absurd (by decide) c)
  refine lv_aload_n hx hb dX10_put_18 rfl (lv_at hl 0 rfl) ?_
  refine g_X10_15 Cx hW (k := 1) (by decide) rfl (v := .ref (G.2.2.1 + 2)) hR_1_0 dX10_put_19 ?_
  refine lv_aload_n hx hb dX10_put_22 rfl (lv_at hl 0 rfl) ?_
  refine g_X10_21 Cx hW (k := 1) (by decide) rfl (v := 3) hI_1_1 dX10_put_23 ?_
  refine lv_iload_n hx hb dX10_put_26 rfl (lv_at hl 1 rfl) ?_
  refine lv_i2b (v := i2bI p1) hx hb dX10_put_27 rfl ?_
  refine sBast Cx hW hL (k := 2) (N := 30000) (by decide) rfl (j := 3) (by decide) (vp_c (by decide)) (y := vp_nar .byte (i2bI p1)) rfl dX10_put_28 (fun H locs hW hL => ?_)
  refine lv_aload_n hx hb dX10_put_29 rfl (lv_at hl 0 rfl) ?_
  refine lv_dup hx hb dX10_put_30 rfl ?_
  refine g_X10_21 Cx hW (k := 1) (by decide) rfl (v := 3) hI_1_1 dX10_put_31 ?_
  refine lv_iconst (v := 1) hx hb dX10_put_34 (by decide) ?_
  refine lv_iadd hx hb dX10_put_35 ?_
  refine sCi (v := 4) (by decide) ?_
  refine p_X10_21 Cx hW hL (k := 1) (by decide) rfl dX10_put_36 (fun H locs hW hL => ?_)
  exact sVret Cx hr hlk hW hL rfl dX10_put_39

set_option maxRecDepth 100000 in
set_option maxHeartbeats 4000000 in
theorem t66_X10_putFour (l : Launch) (G : sG) (S : sS) (p1 : Int32) (hI_1_1 : S.1 1 1 = 0) (hR_1_0 : S.2.2 1 0 = .ref (G.2.2.1 + 2)) : Met l yX10_putFour (.code yX10_putFour cX10_putFour 2 none :: tb) (rmk 2 0 0) (sPc G 294 S [.ref (G.2.2.1 + 1), .int p1]) (sQv G 294 (fun u => u = (sI (sI (sI (sI (sI (sI (sI (sI S 2 0 (vp_nar .byte (i2bI (ushrI p1 24)))) 1 1 1) 2 1 (vp_nar .byte (i2bI (ushrI p1 16)))) 1 1 2) 2 2 (vp_nar .byte (i2bI (ushrI p1 8)))) 1 1 3) 2 3 (vp_nar .byte (i2bI p1))) 1 1 4))) 0 0 (sF G) := by
  refine sEnter (by decide) (Nat.le_of_ble_eq_true rfl) ?_
  intro p e s m args below meth c Cx hr hlk hnm hW ls hl
  have Cx : sC G p m c cX10_putFour 2 s args RX10 := Cx
  obtain ⟨hx, hb, hml, hown, hts⟩ := id Cx.1
  have hL : sL G [] := sL_nil
  have hl : lv_has ls 2 [(0, .ref (G.2.2.1 + 1)), (1, .int p1)] := hl
  refine lv_aload_n hx hb dX10_putFour_0 rfl (lv_at hl 0 rfl) ?_
  refine lv_iload_n hx hb dX10_putFour_1 rfl (lv_at hl 1 rfl) ?_
  refine lv_bipush (v := 24) hx hb dX10_putFour_2 (by decide) ?_
  refine lv_iushr (v := ushrI p1 24) hx hb dX10_putFour_4 rfl ?_
  refine sBvE (sV (As := [.int (ushrI p1 24)]) (rest := []) (k := 1) Cx (t62_X10_put l G S (ushrI p1 24) hI_1_1 hR_1_0) (c_X10_29 Cx rfl rfl ⟨Nat.le_of_ble_eq_true rfl, Nat.le_of_ble_eq_true rfl⟩) hW (by decide) rfl rfl rfl hl.1 rfl (Nat.le_of_ble_eq_true rfl) dX10_putFour_5 ⟨Nat.le_of_ble_eq_true rfl, Nat.le_of_ble_eq_true rfl⟩) hL (fun H locs hW hL => ?_)
  refine lv_aload_n hx hb dX10_putFour_8 rfl (lv_at hl 0 rfl) ?_
  refine lv_iload_n hx hb dX10_putFour_9 rfl (lv_at hl 1 rfl) ?_
  refine lv_bipush (v := 16) hx hb dX10_putFour_10 (by decide) ?_
  refine lv_iushr (v := ushrI p1 16) hx hb dX10_putFour_12 rfl ?_
  refine sBvE (sV (As := [.int (ushrI p1 16)]) (rest := []) (k := 1) Cx (t63_X10_put l G (sI (sI S 2 0 (vp_nar .byte (i2bI (ushrI p1 24)))) 1 1 1) (ushrI p1 16) rfl hR_1_0) (c_X10_29 Cx rfl rfl ⟨Nat.le_of_ble_eq_true rfl, Nat.le_of_ble_eq_true rfl⟩) hW (by decide) rfl rfl rfl hl.1 rfl (Nat.le_of_ble_eq_true rfl) dX10_putFour_13 ⟨Nat.le_of_ble_eq_true rfl, Nat.le_of_ble_eq_true rfl⟩) hL (fun H locs hW hL => ?_)
  refine lv_aload_n hx hb dX10_putFour_16 rfl (lv_at hl 0 rfl) ?_
  refine lv_iload_n hx hb dX10_putFour_17 rfl (lv_at hl 1 rfl) ?_
  refine lv_bipush (v := 8) hx hb dX10_putFour_18 (by decide) ?_
  refine lv_iushr (v := ushrI p1 8) hx hb dX10_putFour_20 rfl ?_
  refine sBvE (sV (As := [.int (ushrI p1 8)]) (rest := []) (k := 1) Cx (t64_X10_put l G (sI (sI (sI (sI S 2 0 (vp_nar .byte (i2bI (ushrI p1 24)))) 1 1 1) 2 1 (vp_nar .byte (i2bI (ushrI p1 16)))) 1 1 2) (ushrI p1 8) rfl hR_1_0) (c_X10_29 Cx rfl rfl ⟨Nat.le_of_ble_eq_true rfl, Nat.le_of_ble_eq_true rfl⟩) hW (by decide) rfl rfl rfl hl.1 rfl (Nat.le_of_ble_eq_true rfl) dX10_putFour_21 ⟨Nat.le_of_ble_eq_true rfl, Nat.le_of_ble_eq_true rfl⟩) hL (fun H locs hW hL => ?_)
  refine lv_aload_n hx hb dX10_putFour_24 rfl (lv_at hl 0 rfl) ?_
  refine lv_iload_n hx hb dX10_putFour_25 rfl (lv_at hl 1 rfl) ?_
  refine sBvE (sV (As := [.int p1]) (rest := []) (k := 1) Cx (t65_X10_put l G (sI (sI (sI (sI (sI (sI S 2 0 (vp_nar .byte (i2bI (ushrI p1 24)))) 1 1 1) 2 1 (vp_nar .byte (i2bI (ushrI p1 16)))) 1 1 2) 2 2 (vp_nar .byte (i2bI (ushrI p1 8)))) 1 1 3) (p1) rfl hR_1_0) (c_X10_29 Cx rfl rfl ⟨Nat.le_of_ble_eq_true rfl, Nat.le_of_ble_eq_true rfl⟩) hW (by decide) rfl rfl rfl hl.1 rfl (Nat.le_of_ble_eq_true rfl) dX10_putFour_26 ⟨Nat.le_of_ble_eq_true rfl, Nat.le_of_ble_eq_true rfl⟩) hL (fun H locs hW hL => ?_)
  exact sVret Cx hr hlk hW hL rfl dX10_putFour_29

set_option maxRecDepth 100000 in
set_option maxHeartbeats 4000000 in
theorem t67_X10_put (l : Launch) (G : sG) (S : sS) (p1 : Int32) (hI_1_1 : S.1 1 1 = 4) (hR_1_0 : S.2.2 1 0 = .ref (G.2.2.1 + 2)) : Met l yX10_put (.code yX10_put cX10_put 2 none :: tb) (rmk 1 0 0) (sPc G 294 S [.ref (G.2.2.1 + 1), .int p1]) (sQv G 294 (fun u => u = (sI (sI S 2 4 (vp_nar .byte (i2bI p1))) 1 1 5))) 0 0 (sF G) := by
  refine sEnter (by decide) (Nat.le_of_ble_eq_true rfl) ?_
  intro p e s m args below meth c Cx hr hlk hnm hW ls hl
  have Cx : sC G p m c cX10_put 2 s args RX10 := Cx
  obtain ⟨hx, hb, hml, hown, hts⟩ := id Cx.1
  have hL : sL G [] := sL_nil
  have hl : lv_has ls 2 [(0, .ref (G.2.2.1 + 1)), (1, .int p1)] := hl
  refine lv_aload_n hx hb dX10_put_0 rfl (lv_at hl 0 rfl) ?_
  refine g_X10_21 Cx hW (k := 1) (by decide) rfl (v := 4) hI_1_1 dX10_put_1 ?_
  refine lv_aload_n hx hb dX10_put_4 rfl (lv_at hl 0 rfl) ?_
  refine g_X10_15 Cx hW (k := 1) (by decide) rfl (v := .ref (G.2.2.1 + 2)) hR_1_0 dX10_put_5 ?_
  refine sAlen Cx hW (k := 2) (N := 30000) (by decide) rfl 2 rfl (v := 30000) (by decide) dX10_put_8 ?_
  refine lv_icmp_lt (tgt := 18) hx hb dX10_put_9 (by decide) (fun _ => ?_) (fun c => absurd (by decide) c)
  refine lv_aload_n hx hb dX10_put_18 rfl (lv_at hl 0 rfl) ?_
  refine g_X10_15 Cx hW (k := 1) (by decide) rfl (v := .ref (G.2.2.1 + 2)) hR_1_0 dX10_put_19 ?_
  refine lv_aload_n hx hb dX10_put_22 rfl (lv_at hl 0 rfl) ?_
  refine g_X10_21 Cx hW (k := 1) (by decide) rfl (v := 4) hI_1_1 dX10_put_23 ?_
  refine lv_iload_n hx hb dX10_put_26 rfl (lv_at hl 1 rfl) ?_
  refine lv_i2b (v := i2bI p1) hx hb dX10_put_27 rfl ?_
  refine sBast Cx hW hL (k := 2) (N := 30000) (by decide) rfl (j := 4) (by decide) (vp_c (by decide)) (y := vp_nar .byte (i2bI p1)) rfl dX10_put_28 (fun H locs hW hL => ?_)
  refine lv_aload_n hx hb dX10_put_29 rfl (lv_at hl 0 rfl) ?_
  refine lv_dup hx hb dX10_put_30 rfl ?_
  refine g_X10_21 Cx hW (k := 1) (by decide) rfl (v := 4) hI_1_1 dX10_put_31 ?_
  refine lv_iconst (v := 1) hx hb dX10_put_34 (by decide) ?_
  refine lv_iadd hx hb dX10_put_35 ?_
  refine sCi (v := 5) (by decide) ?_
  refine p_X10_21 Cx hW hL (k := 1) (by decide) rfl dX10_put_36 (fun H locs hW hL => ?_)
  exact sVret Cx hr hlk hW hL rfl dX10_put_39

set_option maxRecDepth 100000 in
set_option maxHeartbeats 4000000 in
theorem t68_X10_put (l : Launch) (G : sG) (S : sS) (p1 : Int32) (hI_1_1 : S.1 1 1 = 5) (hR_1_0 : S.2.2 1 0 = .ref (G.2.2.1 + 2)) : Met l yX10_put (.code yX10_put cX10_put 2 none :: tb) (rmk 1 0 0) (sPc G 294 S [.ref (G.2.2.1 + 1), .int p1]) (sQv G 294 (fun u => u = (sI (sI S 2 5 (vp_nar .byte (i2bI p1))) 1 1 6))) 0 0 (sF G) := by
  refine sEnter (by decide) (Nat.le_of_ble_eq_true rfl) ?_
  intro p e s m args below meth c Cx hr hlk hnm hW ls hl
  have Cx : sC G p m c cX10_put 2 s args RX10 := Cx
  obtain ⟨hx, hb, hml, hown, hts⟩ := id Cx.1
  have hL : sL G [] := sL_nil
  have hl : lv_has ls 2 [(0, .ref (G.2.2.1 + 1)), (1, .int p1)] := hl
  refine lv_aload_n hx hb dX10_put_0 rfl (lv_at hl 0 rfl) ?_
  refine g_X10_21 Cx hW (k := 1) (by decide) rfl (v := 5) hI_1_1 dX10_put_1 ?_
  refine lv_aload_n hx hb dX10_put_4 rfl (lv_at hl 0 rfl) ?_
  refine g_X10_15 Cx hW (k := 1) (by decide) rfl (v := .ref (G.2.2.1 + 2)) hR_1_0 dX10_put_5 ?_
  refine sAlen Cx hW (k := 2) (N := 30000) (by decide) rfl 2 rfl (v := 30000) (by decide) dX10_put_8 ?_
  refine lv_icmp_lt (tgt := 18) hx hb dX10_put_9 (by decide) (fun _ => ?_) (fun c => absurd (by decide) c)
  refine lv_aload_n hx hb dX10_put_18 rfl (lv_at hl 0 rfl) ?_
  refine g_X10_15 Cx hW (k := 1) (by decide) rfl (v := .ref (G.2.2.1 + 2)) hR_1_0 dX10_put_19 ?_
  refine lv_aload_n hx hb dX10_put_22 rfl (lv_at hl 0 rfl) ?_
  refine g_X10_21 Cx hW (k := 1) (by decide) rfl (v := 5) hI_1_1 dX10_put_23 ?_
  refine lv_iload_n hx hb dX10_put_26 rfl (lv_at hl 1 rfl) ?_
  refine lv_i2b (v := i2bI p1) hx hb dX10_put_27 rfl ?_
  refine sBast Cx hW hL (k := 2) (N := 30000) (by decide) rfl (j := 5) (by decide) (vp_c (by decide)) (y := vp_nar .byte (i2bI p1)) rfl dX10_put_28 (fun H locs hW hL => ?_)
  refine lv_aload_n hx hb dX10_put_29 rfl (lv_at hl 0 rfl) ?_
  refine lv_dup hx hb dX10_put_30 rfl ?_
  refine g_X10_21 Cx hW (k := 1) (by decide) rfl (v := 5) hI_1_1 dX10_put_31 ?_
  refine lv_iconst (v := 1) hx hb dX10_put_34 (by decide) ?_
  refine lv_iadd hx hb dX10_put_35 ?_
  refine sCi (v := 6) (by decide) ?_
  refine p_X10_21 Cx hW hL (k := 1) (by decide) rfl dX10_put_36 (fun H locs hW hL => ?_)
  exact sVret Cx hr hlk hW hL rfl dX10_put_39

set_option maxRecDepth 100000 in
set_option maxHeartbeats 4000000 in
theorem t69_X10_put (l : Launch) (G : sG) (S : sS) (p1 : Int32) (hI_1_1 : S.1 1 1 = 6) (hR_1_0 : S.2.2 1 0 = .ref (G.2.2.1 + 2)) : Met l yX10_put (.code yX10_put cX10_put 2 none :: tb) (rmk 1 0 0) (sPc G 294 S [.ref (G.2.2.1 + 1), .int p1]) (sQv G 294 (fun u => u = (sI (sI S 2 6 (vp_nar .byte (i2bI p1))) 1 1 7))) 0 0 (sF G) := by
  refine sEnter (by decide) (Nat.le_of_ble_eq_true rfl) ?_
  intro p e s m args below meth c Cx hr hlk hnm hW ls hl
  have Cx : sC G p m c cX10_put 2 s args RX10 := Cx
  obtain ⟨hx, hb, hml, hown, hts⟩ := id Cx.1
  have hL : sL G [] := sL_nil
  have hl : lv_has ls 2 [(0, .ref (G.2.2.1 + 1)), (1, .int p1)] := hl
  refine lv_aload_n hx hb dX10_put_0 rfl (lv_at hl 0 rfl) ?_
  refine g_X10_21 Cx hW (k := 1) (by decide) rfl (v := 6) hI_1_1 dX10_put_1 ?_
  refine lv_aload_n hx hb dX10_put_4 rfl (lv_at hl 0 rfl) ?_
  refine g_X10_15 Cx hW (k := 1) (by decide) rfl (v := .ref (G.2.2.1 + 2)) hR_1_0 dX10_put_5 ?_
  refine sAlen Cx hW (k := 2) (N := 30000) (by decide) rfl 2 rfl (v := 30000) (by decide) dX10_put_8 ?_
  refine lv_icmp_lt (tgt := 18) hx hb dX10_put_9 (by decide) (fun _ => ?_) (fun c => absurd (by decide) c)
  refine lv_aload_n hx hb dX10_put_18 rfl (lv_at hl 0 rfl) ?_
  refine g_X10_15 Cx hW (k := 1) (by decide) rfl (v := .ref (G.2.2.1 + 2)) hR_1_0 dX10_put_19 ?_
  refine lv_aload_n hx hb dX10_put_22 rfl (lv_at hl 0 rfl) ?_
  refine g_X10_21 Cx hW (k := 1) (by decide) rfl (v := 6) hI_1_1 dX10_put_23 ?_
  refine lv_iload_n hx hb dX10_put_26 rfl (lv_at hl 1 rfl) ?_
  refine lv_i2b (v := i2bI p1) hx hb dX10_put_27 rfl ?_
  refine sBast Cx hW hL (k := 2) (N := 30000) (by decide) rfl (j := 6) (by decide) (vp_c (by decide)) (y := vp_nar .byte (i2bI p1)) rfl dX10_put_28 (fun H locs hW hL => ?_)
  refine lv_aload_n hx hb dX10_put_29 rfl (lv_at hl 0 rfl) ?_
  refine lv_dup hx hb dX10_put_30 rfl ?_
  refine g_X10_21 Cx hW (k := 1) (by decide) rfl (v := 6) hI_1_1 dX10_put_31 ?_
  refine lv_iconst (v := 1) hx hb dX10_put_34 (by decide) ?_
  refine lv_iadd hx hb dX10_put_35 ?_
  refine sCi (v := 7) (by decide) ?_
  refine p_X10_21 Cx hW hL (k := 1) (by decide) rfl dX10_put_36 (fun H locs hW hL => ?_)
  exact sVret Cx hr hlk hW hL rfl dX10_put_39

set_option maxRecDepth 100000 in
set_option maxHeartbeats 4000000 in
theorem t70_X10_put (l : Launch) (G : sG) (S : sS) (p1 : Int32) (hI_1_1 : S.1 1 1 = 7) (hR_1_0 : S.2.2 1 0 = .ref (G.2.2.1 + 2)) : Met l yX10_put (.code yX10_put cX10_put 2 none :: tb) (rmk 1 0 0) (sPc G 294 S [.ref (G.2.2.1 + 1), .int p1]) (sQv G 294 (fun u => u = (sI (sI S 2 7 (vp_nar .byte (i2bI p1))) 1 1 8))) 0 0 (sF G) := by
  refine sEnter (by decide) (Nat.le_of_ble_eq_true rfl) ?_
  intro p e s m args below meth c Cx hr hlk hnm hW ls hl
  have Cx : sC G p m c cX10_put 2 s args RX10 := Cx
  obtain ⟨hx, hb, hml, hown, hts⟩ := id Cx.1
  have hL : sL G [] := sL_nil
  have hl : lv_has ls 2 [(0, .ref (G.2.2.1 + 1)), (1, .int p1)] := hl
  refine lv_aload_n hx hb dX10_put_0 rfl (lv_at hl 0 rfl) ?_
  refine g_X10_21 Cx hW (k := 1) (by decide) rfl (v := 7) hI_1_1 dX10_put_1 ?_
  refine lv_aload_n hx hb dX10_put_4 rfl (lv_at hl 0 rfl) ?_
  refine g_X10_15 Cx hW (k := 1) (by decide) rfl (v := .ref (G.2.2.1 + 2)) hR_1_0 dX10_put_5 ?_
  refine sAlen Cx hW (k := 2) (N := 30000) (by decide) rfl 2 rfl (v := 30000) (by decide) dX10_put_8 ?_
  refine lv_icmp_lt (tgt := 18) hx hb dX10_put_9 (by decide) (fun _ => ?_) (fun c => absurd (by decide) c)
  refine lv_aload_n hx hb dX10_put_18 rfl (lv_at hl 0 rfl) ?_
  refine g_X10_15 Cx hW (k := 1) (by decide) rfl (v := .ref (G.2.2.1 + 2)) hR_1_0 dX10_put_19 ?_
  refine lv_aload_n hx hb dX10_put_22 rfl (lv_at hl 0 rfl) ?_
  refine g_X10_21 Cx hW (k := 1) (by decide) rfl (v := 7) hI_1_1 dX10_put_23 ?_
  refine lv_iload_n hx hb dX10_put_26 rfl (lv_at hl 1 rfl) ?_
  refine lv_i2b (v := i2bI p1) hx hb dX10_put_27 rfl ?_
  refine sBast Cx hW hL (k := 2) (N := 30000) (by decide) rfl (j := 7) (by decide) (vp_c (by decide)) (y := vp_nar .byte (i2bI p1)) rfl dX10_put_28 (fun H locs hW hL => ?_)
  refine lv_aload_n hx hb dX10_put_29 rfl (lv_at hl 0 rfl) ?_
  refine lv_dup hx hb dX10_put_30 rfl ?_
  refine g_X10_21 Cx hW (k := 1) (by decide) rfl (v := 7) hI_1_1 dX10_put_31 ?_
  refine lv_iconst (v := 1) hx hb dX10_put_34 (by decide) ?_
  refine lv_iadd hx hb dX10_put_35 ?_
  refine sCi (v := 8) (by decide) ?_
  refine p_X10_21 Cx hW hL (k := 1) (by decide) rfl dX10_put_36 (fun H locs hW hL => ?_)
  exact sVret Cx hr hlk hW hL rfl dX10_put_39

set_option maxRecDepth 100000 in
set_option maxHeartbeats 4000000 in
theorem t71_X10_putFour (l : Launch) (G : sG) (S : sS) (p1 : Int32) (hI_1_1 : S.1 1 1 = 4) (hR_1_0 : S.2.2 1 0 = .ref (G.2.2.1 + 2)) : Met l yX10_putFour (.code yX10_putFour cX10_putFour 2 none :: tb) (rmk 2 0 0) (sPc G 294 S [.ref (G.2.2.1 + 1), .int p1]) (sQv G 294 (fun u => u = (sI (sI (sI (sI (sI (sI (sI (sI S 2 4 (vp_nar .byte (i2bI (ushrI p1 24)))) 1 1 5) 2 5 (vp_nar .byte (i2bI (ushrI p1 16)))) 1 1 6) 2 6 (vp_nar .byte (i2bI (ushrI p1 8)))) 1 1 7) 2 7 (vp_nar .byte (i2bI p1))) 1 1 8))) 0 0 (sF G) := by
  refine sEnter (by decide) (Nat.le_of_ble_eq_true rfl) ?_
  intro p e s m args below meth c Cx hr hlk hnm hW ls hl
  have Cx : sC G p m c cX10_putFour 2 s args RX10 := Cx
  obtain ⟨hx, hb, hml, hown, hts⟩ := id Cx.1
  have hL : sL G [] := sL_nil
  have hl : lv_has ls 2 [(0, .ref (G.2.2.1 + 1)), (1, .int p1)] := hl
  refine lv_aload_n hx hb dX10_putFour_0 rfl (lv_at hl 0 rfl) ?_
  refine lv_iload_n hx hb dX10_putFour_1 rfl (lv_at hl 1 rfl) ?_
  refine lv_bipush (v := 24) hx hb dX10_putFour_2 (by decide) ?_
  refine lv_iushr (v := ushrI p1 24) hx hb dX10_putFour_4 rfl ?_
  refine sBvE (sV (As := [.int (ushrI p1 24)]) (rest := []) (k := 1) Cx (t67_X10_put l G S (ushrI p1 24) hI_1_1 hR_1_0) (c_X10_29 Cx rfl rfl ⟨Nat.le_of_ble_eq_true rfl, Nat.le_of_ble_eq_true rfl⟩) hW (by decide) rfl rfl rfl hl.1 rfl (Nat.le_of_ble_eq_true rfl) dX10_putFour_5 ⟨Nat.le_of_ble_eq_true rfl, Nat.le_of_ble_eq_true rfl⟩) hL (fun H locs hW hL => ?_)
  refine lv_aload_n hx hb dX10_putFour_8 rfl (lv_at hl 0 rfl) ?_
  refine lv_iload_n hx hb dX10_putFour_9 rfl (lv_at hl 1 rfl) ?_
  refine lv_bipush (v := 16) hx hb dX10_putFour_10 (by decide) ?_
  refine lv_iushr (v := ushrI p1 16) hx hb dX10_putFour_12 rfl ?_
  refine sBvE (sV (As := [.int (ushrI p1 16)]) (rest := []) (k := 1) Cx (t68_X10_put l G (sI (sI S 2 4 (vp_nar .byte (i2bI (ushrI p1 24)))) 1 1 5) (ushrI p1 16) rfl hR_1_0) (c_X10_29 Cx rfl rfl ⟨Nat.le_of_ble_eq_true rfl, Nat.le_of_ble_eq_true rfl⟩) hW (by decide) rfl rfl rfl hl.1 rfl (Nat.le_of_ble_eq_true rfl) dX10_putFour_13 ⟨Nat.le_of_ble_eq_true rfl, Nat.le_of_ble_eq_true rfl⟩) hL (fun H locs hW hL => ?_)
  refine lv_aload_n hx hb dX10_putFour_16 rfl (lv_at hl 0 rfl) ?_
  refine lv_iload_n hx hb dX10_putFour_17 rfl (lv_at hl 1 rfl) ?_
  refine lv_bipush (v := 8) hx hb dX10_putFour_18 (by decide) ?_
  refine lv_iushr (v := ushrI p1 8) hx hb dX10_putFour_20 rfl ?_
  refine sBvE (sV (As := [.int (ushrI p1 8)]) (rest := []) (k := 1) Cx (t69_X10_put l G (sI (sI (sI (sI S 2 4 (vp_nar .byte (i2bI (ushrI p1 24)))) 1 1 5) 2 5 (vp_nar .byte (i2bI (ushrI p1 16)))) 1 1 6) (ushrI p1 8) rfl hR_1_0) (c_X10_29 Cx rfl rfl ⟨Nat.le_of_ble_eq_true rfl, Nat.le_of_ble_eq_true rfl⟩) hW (by decide) rfl rfl rfl hl.1 rfl (Nat.le_of_ble_eq_true rfl) dX10_putFour_21 ⟨Nat.le_of_ble_eq_true rfl, Nat.le_of_ble_eq_true rfl⟩) hL (fun H locs hW hL => ?_)
  refine lv_aload_n hx hb dX10_putFour_24 rfl (lv_at hl 0 rfl) ?_
  refine lv_iload_n hx hb dX10_putFour_25 rfl (lv_at hl 1 rfl) ?_
  refine sBvE (sV (As := [.int p1]) (rest := []) (k := 1) Cx (t70_X10_put l G (sI (sI (sI (sI (sI (sI S 2 4 (vp_nar .byte (i2bI (ushrI p1 24)))) 1 1 5) 2 5 (vp_nar .byte (i2bI (ushrI p1 16)))) 1 1 6) 2 6 (vp_nar .byte (i2bI (ushrI p1 8)))) 1 1 7) (p1) rfl hR_1_0) (c_X10_29 Cx rfl rfl ⟨Nat.le_of_ble_eq_true rfl, Nat.le_of_ble_eq_true rfl⟩) hW (by decide) rfl rfl rfl hl.1 rfl (Nat.le_of_ble_eq_true rfl) dX10_putFour_26 ⟨Nat.le_of_ble_eq_true rfl, Nat.le_of_ble_eq_true rfl⟩) hL (fun H locs hW hL => ?_)
  exact sVret Cx hr hlk hW hL rfl dX10_putFour_29

set_option maxRecDepth 100000 in
set_option maxHeartbeats 4000000 in
theorem t72_X10_put (l : Launch) (G : sG) (S : sS) (p1 : Int32) (hI_1_1 : S.1 1 1 = 8) (hR_1_0 : S.2.2 1 0 = .ref (G.2.2.1 + 2)) : Met l yX10_put (.code yX10_put cX10_put 2 none :: tb) (rmk 1 0 0) (sPc G 294 S [.ref (G.2.2.1 + 1), .int p1]) (sQv G 294 (fun u => u = (sI (sI S 2 8 (vp_nar .byte (i2bI p1))) 1 1 9))) 0 0 (sF G) := by
  refine sEnter (by decide) (Nat.le_of_ble_eq_true rfl) ?_
  intro p e s m args below meth c Cx hr hlk hnm hW ls hl
  have Cx : sC G p m c cX10_put 2 s args RX10 := Cx
  obtain ⟨hx, hb, hml, hown, hts⟩ := id Cx.1
  have hL : sL G [] := sL_nil
  have hl : lv_has ls 2 [(0, .ref (G.2.2.1 + 1)), (1, .int p1)] := hl
  refine lv_aload_n hx hb dX10_put_0 rfl (lv_at hl 0 rfl) ?_
  refine g_X10_21 Cx hW (k := 1) (by decide) rfl (v := 8) hI_1_1 dX10_put_1 ?_
  refine lv_aload_n hx hb dX10_put_4 rfl (lv_at hl 0 rfl) ?_
  refine g_X10_15 Cx hW (k := 1) (by decide) rfl (v := .ref (G.2.2.1 + 2)) hR_1_0 dX10_put_5 ?_
  refine sAlen Cx hW (k := 2) (N := 30000) (by decide) rfl 2 rfl (v := 30000) (by decide) dX10_put_8 ?_
  refine lv_icmp_lt (tgt := 18) hx hb dX10_put_9 (by decide) (fun _ => ?_) (fun c => absurd (by decide) c)
  refine lv_aload_n hx hb dX10_put_18 rfl (lv_at hl 0 rfl) ?_
  refine g_X10_15 Cx hW (k := 1) (by decide) rfl (v := .ref (G.2.2.1 + 2)) hR_1_0 dX10_put_19 ?_
  refine lv_aload_n hx hb dX10_put_22 rfl (lv_at hl 0 rfl) ?_
  refine g_X10_21 Cx hW (k := 1) (by decide) rfl (v := 8) hI_1_1 dX10_put_23 ?_
  refine lv_iload_n hx hb dX10_put_26 rfl (lv_at hl 1 rfl) ?_
  refine lv_i2b (v := i2bI p1) hx hb dX10_put_27 rfl ?_
  refine sBast Cx hW hL (k := 2) (N := 30000) (by decide) rfl (j := 8) (by decide) (vp_c (by decide)) (y := vp_nar .byte (i2bI p1)) rfl dX10_put_28 (fun H locs hW hL => ?_)
  refine lv_aload_n hx hb dX10_put_29 rfl (lv_at hl 0 rfl) ?_
  refine lv_dup hx hb dX10_put_30 rfl ?_
  refine g_X10_21 Cx hW (k := 1) (by decide) rfl (v := 8) hI_1_1 dX10_put_31 ?_
  refine lv_iconst (v := 1) hx hb dX10_put_34 (by decide) ?_
  refine lv_iadd hx hb dX10_put_35 ?_
  refine sCi (v := 9) (by decide) ?_
  refine p_X10_21 Cx hW hL (k := 1) (by decide) rfl dX10_put_36 (fun H locs hW hL => ?_)
  exact sVret Cx hr hlk hW hL rfl dX10_put_39

set_option maxRecDepth 100000 in
set_option maxHeartbeats 4000000 in
theorem t73_X10_put (l : Launch) (G : sG) (S : sS) (p1 : Int32) (hI_1_1 : S.1 1 1 = 9) (hR_1_0 : S.2.2 1 0 = .ref (G.2.2.1 + 2)) : Met l yX10_put (.code yX10_put cX10_put 2 none :: tb) (rmk 1 0 0) (sPc G 294 S [.ref (G.2.2.1 + 1), .int p1]) (sQv G 294 (fun u => u = (sI (sI S 2 9 (vp_nar .byte (i2bI p1))) 1 1 10))) 0 0 (sF G) := by
  refine sEnter (by decide) (Nat.le_of_ble_eq_true rfl) ?_
  intro p e s m args below meth c Cx hr hlk hnm hW ls hl
  have Cx : sC G p m c cX10_put 2 s args RX10 := Cx
  obtain ⟨hx, hb, hml, hown, hts⟩ := id Cx.1
  have hL : sL G [] := sL_nil
  have hl : lv_has ls 2 [(0, .ref (G.2.2.1 + 1)), (1, .int p1)] := hl
  refine lv_aload_n hx hb dX10_put_0 rfl (lv_at hl 0 rfl) ?_
  refine g_X10_21 Cx hW (k := 1) (by decide) rfl (v := 9) hI_1_1 dX10_put_1 ?_
  refine lv_aload_n hx hb dX10_put_4 rfl (lv_at hl 0 rfl) ?_
  refine g_X10_15 Cx hW (k := 1) (by decide) rfl (v := .ref (G.2.2.1 + 2)) hR_1_0 dX10_put_5 ?_
  refine sAlen Cx hW (k := 2) (N := 30000) (by decide) rfl 2 rfl (v := 30000) (by decide) dX10_put_8 ?_
  refine lv_icmp_lt (tgt := 18) hx hb dX10_put_9 (by decide) (fun _ => ?_) (fun c => absurd (by decide) c)
  refine lv_aload_n hx hb dX10_put_18 rfl (lv_at hl 0 rfl) ?_
  refine g_X10_15 Cx hW (k := 1) (by decide) rfl (v := .ref (G.2.2.1 + 2)) hR_1_0 dX10_put_19 ?_
  refine lv_aload_n hx hb dX10_put_22 rfl (lv_at hl 0 rfl) ?_
  refine g_X10_21 Cx hW (k := 1) (by decide) rfl (v := 9) hI_1_1 dX10_put_23 ?_
  refine lv_iload_n hx hb dX10_put_26 rfl (lv_at hl 1 rfl) ?_
  refine lv_i2b (v := i2bI p1) hx hb dX10_put_27 rfl ?_
  refine sBast Cx hW hL (k := 2) (N := 30000) (by decide) rfl (j := 9) (by decide) (vp_c (by decide)) (y := vp_nar .byte (i2bI p1)) rfl dX10_put_28 (fun H locs hW hL => ?_)
  refine lv_aload_n hx hb dX10_put_29 rfl (lv_at hl 0 rfl) ?_
  refine lv_dup hx hb dX10_put_30 rfl ?_
  refine g_X10_21 Cx hW (k := 1) (by decide) rfl (v := 9) hI_1_1 dX10_put_31 ?_
  refine lv_iconst (v := 1) hx hb dX10_put_34 (by decide) ?_
  refine lv_iadd hx hb dX10_put_35 ?_
  refine sCi (v := 10) (by decide) ?_
  refine p_X10_21 Cx hW hL (k := 1) (by decide) rfl dX10_put_36 (fun H locs hW hL => ?_)
  exact sVret Cx hr hlk hW hL rfl dX10_put_39

set_option maxRecDepth 100000 in
set_option maxHeartbeats 4000000 in
theorem t74_X10_put (l : Launch) (G : sG) (S : sS) (p1 : Int32) (hI_1_1 : S.1 1 1 = 10) (hR_1_0 : S.2.2 1 0 = .ref (G.2.2.1 + 2)) : Met l yX10_put (.code yX10_put cX10_put 2 none :: tb) (rmk 1 0 0) (sPc G 294 S [.ref (G.2.2.1 + 1), .int p1]) (sQv G 294 (fun u => u = (sI (sI S 2 10 (vp_nar .byte (i2bI p1))) 1 1 11))) 0 0 (sF G) := by
  refine sEnter (by decide) (Nat.le_of_ble_eq_true rfl) ?_
  intro p e s m args below meth c Cx hr hlk hnm hW ls hl
  have Cx : sC G p m c cX10_put 2 s args RX10 := Cx
  obtain ⟨hx, hb, hml, hown, hts⟩ := id Cx.1
  have hL : sL G [] := sL_nil
  have hl : lv_has ls 2 [(0, .ref (G.2.2.1 + 1)), (1, .int p1)] := hl
  refine lv_aload_n hx hb dX10_put_0 rfl (lv_at hl 0 rfl) ?_
  refine g_X10_21 Cx hW (k := 1) (by decide) rfl (v := 10) hI_1_1 dX10_put_1 ?_
  refine lv_aload_n hx hb dX10_put_4 rfl (lv_at hl 0 rfl) ?_
  refine g_X10_15 Cx hW (k := 1) (by decide) rfl (v := .ref (G.2.2.1 + 2)) hR_1_0 dX10_put_5 ?_
  refine sAlen Cx hW (k := 2) (N := 30000) (by decide) rfl 2 rfl (v := 30000) (by decide) dX10_put_8 ?_
  refine lv_icmp_lt (tgt := 18) hx hb dX10_put_9 (by decide) (fun _ => ?_) (fun c => absurd (by decide) c)
  refine lv_aload_n hx hb dX10_put_18 rfl (lv_at hl 0 rfl) ?_
  refine g_X10_15 Cx hW (k := 1) (by decide) rfl (v := .ref (G.2.2.1 + 2)) hR_1_0 dX10_put_19 ?_
  refine lv_aload_n hx hb dX10_put_22 rfl (lv_at hl 0 rfl) ?_
  refine g_X10_21 Cx hW (k := 1) (by decide) rfl (v := 10) hI_1_1 dX10_put_23 ?_
  refine lv_iload_n hx hb dX10_put_26 rfl (lv_at hl 1 rfl) ?_
  refine lv_i2b (v := i2bI p1) hx hb dX10_put_27 rfl ?_
  refine sBast Cx hW hL (k := 2) (N := 30000) (by decide) rfl (j := 10) (by decide) (vp_c (by decide)) (y := vp_nar .byte (i2bI p1)) rfl dX10_put_28 (fun H locs hW hL => ?_)
  refine lv_aload_n hx hb dX10_put_29 rfl (lv_at hl 0 rfl) ?_
  refine lv_dup hx hb dX10_put_30 rfl ?_
  refine g_X10_21 Cx hW (k := 1) (by decide) rfl (v := 10) hI_1_1 dX10_put_31 ?_
  refine lv_iconst (v := 1) hx hb dX10_put_34 (by decide) ?_
  refine lv_iadd hx hb dX10_put_35 ?_
  refine sCi (v := 11) (by decide) ?_
  refine p_X10_21 Cx hW hL (k := 1) (by decide) rfl dX10_put_36 (fun H locs hW hL => ?_)
  exact sVret Cx hr hlk hW hL rfl dX10_put_39

set_option maxRecDepth 100000 in
set_option maxHeartbeats 4000000 in
theorem t75_X10_put (l : Launch) (G : sG) (S : sS) (p1 : Int32) (hI_1_1 : S.1 1 1 = 11) (hR_1_0 : S.2.2 1 0 = .ref (G.2.2.1 + 2)) : Met l yX10_put (.code yX10_put cX10_put 2 none :: tb) (rmk 1 0 0) (sPc G 294 S [.ref (G.2.2.1 + 1), .int p1]) (sQv G 294 (fun u => u = (sI (sI S 2 11 (vp_nar .byte (i2bI p1))) 1 1 12))) 0 0 (sF G) := by
  refine sEnter (by decide) (Nat.le_of_ble_eq_true rfl) ?_
  intro p e s m args below meth c Cx hr hlk hnm hW ls hl
  have Cx : sC G p m c cX10_put 2 s args RX10 := Cx
  obtain ⟨hx, hb, hml, hown, hts⟩ := id Cx.1
  have hL : sL G [] := sL_nil
  have hl : lv_has ls 2 [(0, .ref (G.2.2.1 + 1)), (1, .int p1)] := hl
  refine lv_aload_n hx hb dX10_put_0 rfl (lv_at hl 0 rfl) ?_
  refine g_X10_21 Cx hW (k := 1) (by decide) rfl (v := 11) hI_1_1 dX10_put_1 ?_
  refine lv_aload_n hx hb dX10_put_4 rfl (lv_at hl 0 rfl) ?_
  refine g_X10_15 Cx hW (k := 1) (by decide) rfl (v := .ref (G.2.2.1 + 2)) hR_1_0 dX10_put_5 ?_
  refine sAlen Cx hW (k := 2) (N := 30000) (by decide) rfl 2 rfl (v := 30000) (by decide) dX10_put_8 ?_
  refine lv_icmp_lt (tgt := 18) hx hb dX10_put_9 (by decide) (fun _ => ?_) (fun c => absurd (by decide) c)
  refine lv_aload_n hx hb dX10_put_18 rfl (lv_at hl 0 rfl) ?_
  refine g_X10_15 Cx hW (k := 1) (by decide) rfl (v := .ref (G.2.2.1 + 2)) hR_1_0 dX10_put_19 ?_
  refine lv_aload_n hx hb dX10_put_22 rfl (lv_at hl 0 rfl) ?_
  refine g_X10_21 Cx hW (k := 1) (by decide) rfl (v := 11) hI_1_1 dX10_put_23 ?_
  refine lv_iload_n hx hb dX10_put_26 rfl (lv_at hl 1 rfl) ?_
  refine lv_i2b (v := i2bI p1) hx hb dX10_put_27 rfl ?_
  refine sBast Cx hW hL (k := 2) (N := 30000) (by decide) rfl (j := 11) (by decide) (vp_c (by decide)) (y := vp_nar .byte (i2bI p1)) rfl dX10_put_28 (fun H locs hW hL => ?_)
  refine lv_aload_n hx hb dX10_put_29 rfl (lv_at hl 0 rfl) ?_
  refine lv_dup hx hb dX10_put_30 rfl ?_
  refine g_X10_21 Cx hW (k := 1) (by decide) rfl (v := 11) hI_1_1 dX10_put_31 ?_
  refine lv_iconst (v := 1) hx hb dX10_put_34 (by decide) ?_
  refine lv_iadd hx hb dX10_put_35 ?_
  refine sCi (v := 12) (by decide) ?_
  refine p_X10_21 Cx hW hL (k := 1) (by decide) rfl dX10_put_36 (fun H locs hW hL => ?_)
  exact sVret Cx hr hlk hW hL rfl dX10_put_39

set_option maxRecDepth 100000 in
set_option maxHeartbeats 4000000 in
theorem t76_X10_putFour (l : Launch) (G : sG) (S : sS) (p1 : Int32) (hI_1_1 : S.1 1 1 = 8) (hR_1_0 : S.2.2 1 0 = .ref (G.2.2.1 + 2)) : Met l yX10_putFour (.code yX10_putFour cX10_putFour 2 none :: tb) (rmk 2 0 0) (sPc G 294 S [.ref (G.2.2.1 + 1), .int p1]) (sQv G 294 (fun u => u = (sI (sI (sI (sI (sI (sI (sI (sI S 2 8 (vp_nar .byte (i2bI (ushrI p1 24)))) 1 1 9) 2 9 (vp_nar .byte (i2bI (ushrI p1 16)))) 1 1 10) 2 10 (vp_nar .byte (i2bI (ushrI p1 8)))) 1 1 11) 2 11 (vp_nar .byte (i2bI p1))) 1 1 12))) 0 0 (sF G) := by
  refine sEnter (by decide) (Nat.le_of_ble_eq_true rfl) ?_
  intro p e s m args below meth c Cx hr hlk hnm hW ls hl
  have Cx : sC G p m c cX10_putFour 2 s args RX10 := Cx
  obtain ⟨hx, hb, hml, hown, hts⟩ := id Cx.1
  have hL : sL G [] := sL_nil
  have hl : lv_has ls 2 [(0, .ref (G.2.2.1 + 1)), (1, .int p1)] := hl
  refine lv_aload_n hx hb dX10_putFour_0 rfl (lv_at hl 0 rfl) ?_
  refine lv_iload_n hx hb dX10_putFour_1 rfl (lv_at hl 1 rfl) ?_
  refine lv_bipush (v := 24) hx hb dX10_putFour_2 (by decide) ?_
  refine lv_iushr (v := ushrI p1 24) hx hb dX10_putFour_4 rfl ?_
  refine sBvE (sV (As := [.int (ushrI p1 24)]) (rest := []) (k := 1) Cx (t72_X10_put l G S (ushrI p1 24) hI_1_1 hR_1_0) (c_X10_29 Cx rfl rfl ⟨Nat.le_of_ble_eq_true rfl, Nat.le_of_ble_eq_true rfl⟩) hW (by decide) rfl rfl rfl hl.1 rfl (Nat.le_of_ble_eq_true rfl) dX10_putFour_5 ⟨Nat.le_of_ble_eq_true rfl, Nat.le_of_ble_eq_true rfl⟩) hL (fun H locs hW hL => ?_)
  refine lv_aload_n hx hb dX10_putFour_8 rfl (lv_at hl 0 rfl) ?_
  refine lv_iload_n hx hb dX10_putFour_9 rfl (lv_at hl 1 rfl) ?_
  refine lv_bipush (v := 16) hx hb dX10_putFour_10 (by decide) ?_
  refine lv_iushr (v := ushrI p1 16) hx hb dX10_putFour_12 rfl ?_
  refine sBvE (sV (As := [.int (ushrI p1 16)]) (rest := []) (k := 1) Cx (t73_X10_put l G (sI (sI S 2 8 (vp_nar .byte (i2bI (ushrI p1 24)))) 1 1 9) (ushrI p1 16) rfl hR_1_0) (c_X10_29 Cx rfl rfl ⟨Nat.le_of_ble_eq_true rfl, Nat.le_of_ble_eq_true rfl⟩) hW (by decide) rfl rfl rfl hl.1 rfl (Nat.le_of_ble_eq_true rfl) dX10_putFour_13 ⟨Nat.le_of_ble_eq_true rfl, Nat.le_of_ble_eq_true rfl⟩) hL (fun H locs hW hL => ?_)
  refine lv_aload_n hx hb dX10_putFour_16 rfl (lv_at hl 0 rfl) ?_
  refine lv_iload_n hx hb dX10_putFour_17 rfl (lv_at hl 1 rfl) ?_
  refine lv_bipush (v := 8) hx hb dX10_putFour_18 (by decide) ?_
  refine lv_iushr (v := ushrI p1 8) hx hb dX10_putFour_20 rfl ?_
  refine sBvE (sV (As := [.int (ushrI p1 8)]) (rest := []) (k := 1) Cx (t74_X10_put l G (sI (sI (sI (sI S 2 8 (vp_nar .byte (i2bI (ushrI p1 24)))) 1 1 9) 2 9 (vp_nar .byte (i2bI (ushrI p1 16)))) 1 1 10) (ushrI p1 8) rfl hR_1_0) (c_X10_29 Cx rfl rfl ⟨Nat.le_of_ble_eq_true rfl, Nat.le_of_ble_eq_true rfl⟩) hW (by decide) rfl rfl rfl hl.1 rfl (Nat.le_of_ble_eq_true rfl) dX10_putFour_21 ⟨Nat.le_of_ble_eq_true rfl, Nat.le_of_ble_eq_true rfl⟩) hL (fun H locs hW hL => ?_)
  refine lv_aload_n hx hb dX10_putFour_24 rfl (lv_at hl 0 rfl) ?_
  refine lv_iload_n hx hb dX10_putFour_25 rfl (lv_at hl 1 rfl) ?_
  refine sBvE (sV (As := [.int p1]) (rest := []) (k := 1) Cx (t75_X10_put l G (sI (sI (sI (sI (sI (sI S 2 8 (vp_nar .byte (i2bI (ushrI p1 24)))) 1 1 9) 2 9 (vp_nar .byte (i2bI (ushrI p1 16)))) 1 1 10) 2 10 (vp_nar .byte (i2bI (ushrI p1 8)))) 1 1 11) (p1) rfl hR_1_0) (c_X10_29 Cx rfl rfl ⟨Nat.le_of_ble_eq_true rfl, Nat.le_of_ble_eq_true rfl⟩) hW (by decide) rfl rfl rfl hl.1 rfl (Nat.le_of_ble_eq_true rfl) dX10_putFour_26 ⟨Nat.le_of_ble_eq_true rfl, Nat.le_of_ble_eq_true rfl⟩) hL (fun H locs hW hL => ?_)
  exact sVret Cx hr hlk hW hL rfl dX10_putFour_29

set_option maxRecDepth 100000 in
set_option maxHeartbeats 4000000 in
theorem t77_X10_put (l : Launch) (G : sG) (S : sS) (p1 : Int32) (hI_1_1 : S.1 1 1 = 12) (hR_1_0 : S.2.2 1 0 = .ref (G.2.2.1 + 2)) : Met l yX10_put (.code yX10_put cX10_put 2 none :: tb) (rmk 1 0 0) (sPc G 294 S [.ref (G.2.2.1 + 1), .int p1]) (sQv G 294 (fun u => u = (sI (sI S 2 12 (vp_nar .byte (i2bI p1))) 1 1 13))) 0 0 (sF G) := by
  refine sEnter (by decide) (Nat.le_of_ble_eq_true rfl) ?_
  intro p e s m args below meth c Cx hr hlk hnm hW ls hl
  have Cx : sC G p m c cX10_put 2 s args RX10 := Cx
  obtain ⟨hx, hb, hml, hown, hts⟩ := id Cx.1
  have hL : sL G [] := sL_nil
  have hl : lv_has ls 2 [(0, .ref (G.2.2.1 + 1)), (1, .int p1)] := hl
  refine lv_aload_n hx hb dX10_put_0 rfl (lv_at hl 0 rfl) ?_
  refine g_X10_21 Cx hW (k := 1) (by decide) rfl (v := 12) hI_1_1 dX10_put_1 ?_
  refine lv_aload_n hx hb dX10_put_4 rfl (lv_at hl 0 rfl) ?_
  refine g_X10_15 Cx hW (k := 1) (by decide) rfl (v := .ref (G.2.2.1 + 2)) hR_1_0 dX10_put_5 ?_
  refine sAlen Cx hW (k := 2) (N := 30000) (by decide) rfl 2 rfl (v := 30000) (by decide) dX10_put_8 ?_
  refine lv_icmp_lt (tgt := 18) hx hb dX10_put_9 (by decide) (fun _ => ?_) (fun c => absurd (by decide) c)
  refine lv_aload_n hx hb dX10_put_18 rfl (lv_at hl 0 rfl) ?_
  refine g_X10_15 Cx hW (k := 1) (by decide) rfl (v := .ref (G.2.2.1 + 2)) hR_1_0 dX10_put_19 ?_
  refine lv_aload_n hx hb dX10_put_22 rfl (lv_at hl 0 rfl) ?_
  refine g_X10_21 Cx hW (k := 1) (by decide) rfl (v := 12) hI_1_1 dX10_put_23 ?_
  refine lv_iload_n hx hb dX10_put_26 rfl (lv_at hl 1 rfl) ?_
  refine lv_i2b (v := i2bI p1) hx hb dX10_put_27 rfl ?_
  refine sBast Cx hW hL (k := 2) (N := 30000) (by decide) rfl (j := 12) (by decide) (vp_c (by decide)) (y := vp_nar .byte (i2bI p1)) rfl dX10_put_28 (fun H locs hW hL => ?_)
  refine lv_aload_n hx hb dX10_put_29 rfl (lv_at hl 0 rfl) ?_
  refine lv_dup hx hb dX10_put_30 rfl ?_
  refine g_X10_21 Cx hW (k := 1) (by decide) rfl (v := 12) hI_1_1 dX10_put_31 ?_
  refine lv_iconst (v := 1) hx hb dX10_put_34 (by decide) ?_
  refine lv_iadd hx hb dX10_put_35 ?_
  refine sCi (v := 13) (by decide) ?_
  refine p_X10_21 Cx hW hL (k := 1) (by decide) rfl dX10_put_36 (fun H locs hW hL => ?_)
  exact sVret Cx hr hlk hW hL rfl dX10_put_39

set_option maxRecDepth 100000 in
set_option maxHeartbeats 4000000 in
theorem t78_X10_put (l : Launch) (G : sG) (S : sS) (p1 : Int32) (hI_1_1 : S.1 1 1 = 13) (hR_1_0 : S.2.2 1 0 = .ref (G.2.2.1 + 2)) : Met l yX10_put (.code yX10_put cX10_put 2 none :: tb) (rmk 1 0 0) (sPc G 294 S [.ref (G.2.2.1 + 1), .int p1]) (sQv G 294 (fun u => u = (sI (sI S 2 13 (vp_nar .byte (i2bI p1))) 1 1 14))) 0 0 (sF G) := by
  refine sEnter (by decide) (Nat.le_of_ble_eq_true rfl) ?_
  intro p e s m args below meth c Cx hr hlk hnm hW ls hl
  have Cx : sC G p m c cX10_put 2 s args RX10 := Cx
  obtain ⟨hx, hb, hml, hown, hts⟩ := id Cx.1
  have hL : sL G [] := sL_nil
  have hl : lv_has ls 2 [(0, .ref (G.2.2.1 + 1)), (1, .int p1)] := hl
  refine lv_aload_n hx hb dX10_put_0 rfl (lv_at hl 0 rfl) ?_
  refine g_X10_21 Cx hW (k := 1) (by decide) rfl (v := 13) hI_1_1 dX10_put_1 ?_
  refine lv_aload_n hx hb dX10_put_4 rfl (lv_at hl 0 rfl) ?_
  refine g_X10_15 Cx hW (k := 1) (by decide) rfl (v := .ref (G.2.2.1 + 2)) hR_1_0 dX10_put_5 ?_
  refine sAlen Cx hW (k := 2) (N := 30000) (by decide) rfl 2 rfl (v := 30000) (by decide) dX10_put_8 ?_
  refine lv_icmp_lt (tgt := 18) hx hb dX10_put_9 (by decide) (fun _ => ?_) (fun c => absurd (by decide) c)
  refine lv_aload_n hx hb dX10_put_18 rfl (lv_at hl 0 rfl) ?_
  refine g_X10_15 Cx hW (k := 1) (by decide) rfl (v := .ref (G.2.2.1 + 2)) hR_1_0 dX10_put_19 ?_
  refine lv_aload_n hx hb dX10_put_22 rfl (lv_at hl 0 rfl) ?_
  refine g_X10_21 Cx hW (k := 1) (by decide) rfl (v := 13) hI_1_1 dX10_put_23 ?_
  refine lv_iload_n hx hb dX10_put_26 rfl (lv_at hl 1 rfl) ?_
  refine lv_i2b (v := i2bI p1) hx hb dX10_put_27 rfl ?_
  refine sBast Cx hW hL (k := 2) (N := 30000) (by decide) rfl (j := 13) (by decide) (vp_c (by decide)) (y := vp_nar .byte (i2bI p1)) rfl dX10_put_28 (fun H locs hW hL => ?_)
  refine lv_aload_n hx hb dX10_put_29 rfl (lv_at hl 0 rfl) ?_
  refine lv_dup hx hb dX10_put_30 rfl ?_
  refine g_X10_21 Cx hW (k := 1) (by decide) rfl (v := 13) hI_1_1 dX10_put_31 ?_
  refine lv_iconst (v := 1) hx hb dX10_put_34 (by decide) ?_
  refine lv_iadd hx hb dX10_put_35 ?_
  refine sCi (v := 14) (by decide) ?_
  refine p_X10_21 Cx hW hL (k := 1) (by decide) rfl dX10_put_36 (fun H locs hW hL => ?_)
  exact sVret Cx hr hlk hW hL rfl dX10_put_39

set_option maxRecDepth 100000 in
set_option maxHeartbeats 4000000 in
theorem t79_X10_put (l : Launch) (G : sG) (S : sS) (p1 : Int32) (hI_1_1 : S.1 1 1 = 14) (hR_1_0 : S.2.2 1 0 = .ref (G.2.2.1 + 2)) : Met l yX10_put (.code yX10_put cX10_put 2 none :: tb) (rmk 1 0 0) (sPc G 294 S [.ref (G.2.2.1 + 1), .int p1]) (sQv G 294 (fun u => u = (sI (sI S 2 14 (vp_nar .byte (i2bI p1))) 1 1 15))) 0 0 (sF G) := by
  refine sEnter (by decide) (Nat.le_of_ble_eq_true rfl) ?_
  intro p e s m args below meth c Cx hr hlk hnm hW ls hl
  have Cx : sC G p m c cX10_put 2 s args RX10 := Cx
  obtain ⟨hx, hb, hml, hown, hts⟩ := id Cx.1
  have hL : sL G [] := sL_nil
  have hl : lv_has ls 2 [(0, .ref (G.2.2.1 + 1)), (1, .int p1)] := hl
  refine lv_aload_n hx hb dX10_put_0 rfl (lv_at hl 0 rfl) ?_
  refine g_X10_21 Cx hW (k := 1) (by decide) rfl (v := 14) hI_1_1 dX10_put_1 ?_
  refine lv_aload_n hx hb dX10_put_4 rfl (lv_at hl 0 rfl) ?_
  refine g_X10_15 Cx hW (k := 1) (by decide) rfl (v := .ref (G.2.2.1 + 2)) hR_1_0 dX10_put_5 ?_
  refine sAlen Cx hW (k := 2) (N := 30000) (by decide) rfl 2 rfl (v := 30000) (by decide) dX10_put_8 ?_
  refine lv_icmp_lt (tgt := 18) hx hb dX10_put_9 (by decide) (fun _ => ?_) (fun c => absurd (by decide) c)
  refine lv_aload_n hx hb dX10_put_18 rfl (lv_at hl 0 rfl) ?_
  refine g_X10_15 Cx hW (k := 1) (by decide) rfl (v := .ref (G.2.2.1 + 2)) hR_1_0 dX10_put_19 ?_
  refine lv_aload_n hx hb dX10_put_22 rfl (lv_at hl 0 rfl) ?_
  refine g_X10_21 Cx hW (k := 1) (by decide) rfl (v := 14) hI_1_1 dX10_put_23 ?_
  refine lv_iload_n hx hb dX10_put_26 rfl (lv_at hl 1 rfl) ?_
  refine lv_i2b (v := i2bI p1) hx hb dX10_put_27 rfl ?_
  refine sBast Cx hW hL (k := 2) (N := 30000) (by decide) rfl (j := 14) (by decide) (vp_c (by decide)) (y := vp_nar .byte (i2bI p1)) rfl dX10_put_28 (fun H locs hW hL => ?_)
  refine lv_aload_n hx hb dX10_put_29 rfl (lv_at hl 0 rfl) ?_
  refine lv_dup hx hb dX10_put_30 rfl ?_
  refine g_X10_21 Cx hW (k := 1) (by decide) rfl (v := 14) hI_1_1 dX10_put_31 ?_
  refine lv_iconst (v := 1) hx hb dX10_put_34 (by decide) ?_
  refine lv_iadd hx hb dX10_put_35 ?_
  refine sCi (v := 15) (by decide) ?_
  refine p_X10_21 Cx hW hL (k := 1) (by decide) rfl dX10_put_36 (fun H locs hW hL => ?_)
  exact sVret Cx hr hlk hW hL rfl dX10_put_39

set_option maxRecDepth 100000 in
set_option maxHeartbeats 4000000 in
theorem t80_X10_put (l : Launch) (G : sG) (S : sS) (p1 : Int32) (hI_1_1 : S.1 1 1 = 15) (hR_1_0 : S.2.2 1 0 = .ref (G.2.2.1 + 2)) : Met l yX10_put (.code yX10_put cX10_put 2 none :: tb) (rmk 1 0 0) (sPc G 294 S [.ref (G.2.2.1 + 1), .int p1]) (sQv G 294 (fun u => u = (sI (sI S 2 15 (vp_nar .byte (i2bI p1))) 1 1 16))) 0 0 (sF G) := by
  refine sEnter (by decide) (Nat.le_of_ble_eq_true rfl) ?_
  intro p e s m args below meth c Cx hr hlk hnm hW ls hl
  have Cx : sC G p m c cX10_put 2 s args RX10 := Cx
  obtain ⟨hx, hb, hml, hown, hts⟩ := id Cx.1
  have hL : sL G [] := sL_nil
  have hl : lv_has ls 2 [(0, .ref (G.2.2.1 + 1)), (1, .int p1)] := hl
  refine lv_aload_n hx hb dX10_put_0 rfl (lv_at hl 0 rfl) ?_
  refine g_X10_21 Cx hW (k := 1) (by decide) rfl (v := 15) hI_1_1 dX10_put_1 ?_
  refine lv_aload_n hx hb dX10_put_4 rfl (lv_at hl 0 rfl) ?_
  refine g_X10_15 Cx hW (k := 1) (by decide) rfl (v := .ref (G.2.2.1 + 2)) hR_1_0 dX10_put_5 ?_
  refine sAlen Cx hW (k := 2) (N := 30000) (by decide) rfl 2 rfl (v := 30000) (by decide) dX10_put_8 ?_
  refine lv_icmp_lt (tgt := 18) hx hb dX10_put_9 (by decide) (fun _ => ?_) (fun c => absurd (by decide) c)
  refine lv_aload_n hx hb dX10_put_18 rfl (lv_at hl 0 rfl) ?_
  refine g_X10_15 Cx hW (k := 1) (by decide) rfl (v := .ref (G.2.2.1 + 2)) hR_1_0 dX10_put_19 ?_
  refine lv_aload_n hx hb dX10_put_22 rfl (lv_at hl 0 rfl) ?_
  refine g_X10_21 Cx hW (k := 1) (by decide) rfl (v := 15) hI_1_1 dX10_put_23 ?_
  refine lv_iload_n hx hb dX10_put_26 rfl (lv_at hl 1 rfl) ?_
  refine lv_i2b (v := i2bI p1) hx hb dX10_put_27 rfl ?_
  refine sBast Cx hW hL (k := 2) (N := 30000) (by decide) rfl (j := 15) (by decide) (vp_c (by decide)) (y := vp_nar .byte (i2bI p1)) rfl dX10_put_28 (fun H locs hW hL => ?_)
  refine lv_aload_n hx hb dX10_put_29 rfl (lv_at hl 0 rfl) ?_
  refine lv_dup hx hb dX10_put_30 rfl ?_
  refine g_X10_21 Cx hW (k := 1) (by decide) rfl (v := 15) hI_1_1 dX10_put_31 ?_
  refine lv_iconst (v := 1) hx hb dX10_put_34 (by decide) ?_
  refine lv_iadd hx hb dX10_put_35 ?_
  refine sCi (v := 16) (by decide) ?_
  refine p_X10_21 Cx hW hL (k := 1) (by decide) rfl dX10_put_36 (fun H locs hW hL => ?_)
  exact sVret Cx hr hlk hW hL rfl dX10_put_39

set_option maxRecDepth 100000 in
set_option maxHeartbeats 4000000 in
theorem t81_X10_putFour (l : Launch) (G : sG) (S : sS) (p1 : Int32) (hI_1_1 : S.1 1 1 = 12) (hR_1_0 : S.2.2 1 0 = .ref (G.2.2.1 + 2)) : Met l yX10_putFour (.code yX10_putFour cX10_putFour 2 none :: tb) (rmk 2 0 0) (sPc G 294 S [.ref (G.2.2.1 + 1), .int p1]) (sQv G 294 (fun u => u = (sI (sI (sI (sI (sI (sI (sI (sI S 2 12 (vp_nar .byte (i2bI (ushrI p1 24)))) 1 1 13) 2 13 (vp_nar .byte (i2bI (ushrI p1 16)))) 1 1 14) 2 14 (vp_nar .byte (i2bI (ushrI p1 8)))) 1 1 15) 2 15 (vp_nar .byte (i2bI p1))) 1 1 16))) 0 0 (sF G) := by
  refine sEnter (by decide) (Nat.le_of_ble_eq_true rfl) ?_
  intro p e s m args below meth c Cx hr hlk hnm hW ls hl
  have Cx : sC G p m c cX10_putFour 2 s args RX10 := Cx
  obtain ⟨hx, hb, hml, hown, hts⟩ := id Cx.1
  have hL : sL G [] := sL_nil
  have hl : lv_has ls 2 [(0, .ref (G.2.2.1 + 1)), (1, .int p1)] := hl
  refine lv_aload_n hx hb dX10_putFour_0 rfl (lv_at hl 0 rfl) ?_
  refine lv_iload_n hx hb dX10_putFour_1 rfl (lv_at hl 1 rfl) ?_
  refine lv_bipush (v := 24) hx hb dX10_putFour_2 (by decide) ?_
  refine lv_iushr (v := ushrI p1 24) hx hb dX10_putFour_4 rfl ?_
  refine sBvE (sV (As := [.int (ushrI p1 24)]) (rest := []) (k := 1) Cx (t77_X10_put l G S (ushrI p1 24) hI_1_1 hR_1_0) (c_X10_29 Cx rfl rfl ⟨Nat.le_of_ble_eq_true rfl, Nat.le_of_ble_eq_true rfl⟩) hW (by decide) rfl rfl rfl hl.1 rfl (Nat.le_of_ble_eq_true rfl) dX10_putFour_5 ⟨Nat.le_of_ble_eq_true rfl, Nat.le_of_ble_eq_true rfl⟩) hL (fun H locs hW hL => ?_)
  refine lv_aload_n hx hb dX10_putFour_8 rfl (lv_at hl 0 rfl) ?_
  refine lv_iload_n hx hb dX10_putFour_9 rfl (lv_at hl 1 rfl) ?_
  refine lv_bipush (v := 16) hx hb dX10_putFour_10 (by decide) ?_
  refine lv_iushr (v := ushrI p1 16) hx hb dX10_putFour_12 rfl ?_
  refine sBvE (sV (As := [.int (ushrI p1 16)]) (rest := []) (k := 1) Cx (t78_X10_put l G (sI (sI S 2 12 (vp_nar .byte (i2bI (ushrI p1 24)))) 1 1 13) (ushrI p1 16) rfl hR_1_0) (c_X10_29 Cx rfl rfl ⟨Nat.le_of_ble_eq_true rfl, Nat.le_of_ble_eq_true rfl⟩) hW (by decide) rfl rfl rfl hl.1 rfl (Nat.le_of_ble_eq_true rfl) dX10_putFour_13 ⟨Nat.le_of_ble_eq_true rfl, Nat.le_of_ble_eq_true rfl⟩) hL (fun H locs hW hL => ?_)
  refine lv_aload_n hx hb dX10_putFour_16 rfl (lv_at hl 0 rfl) ?_
  refine lv_iload_n hx hb dX10_putFour_17 rfl (lv_at hl 1 rfl) ?_
  refine lv_bipush (v := 8) hx hb dX10_putFour_18 (by decide) ?_
  refine lv_iushr (v := ushrI p1 8) hx hb dX10_putFour_20 rfl ?_
  refine sBvE (sV (As := [.int (ushrI p1 8)]) (rest := []) (k := 1) Cx (t79_X10_put l G (sI (sI (sI (sI S 2 12 (vp_nar .byte (i2bI (ushrI p1 24)))) 1 1 13) 2 13 (vp_nar .byte (i2bI (ushrI p1 16)))) 1 1 14) (ushrI p1 8) rfl hR_1_0) (c_X10_29 Cx rfl rfl ⟨Nat.le_of_ble_eq_true rfl, Nat.le_of_ble_eq_true rfl⟩) hW (by decide) rfl rfl rfl hl.1 rfl (Nat.le_of_ble_eq_true rfl) dX10_putFour_21 ⟨Nat.le_of_ble_eq_true rfl, Nat.le_of_ble_eq_true rfl⟩) hL (fun H locs hW hL => ?_)
  refine lv_aload_n hx hb dX10_putFour_24 rfl (lv_at hl 0 rfl) ?_
  refine lv_iload_n hx hb dX10_putFour_25 rfl (lv_at hl 1 rfl) ?_
  refine sBvE (sV (As := [.int p1]) (rest := []) (k := 1) Cx (t80_X10_put l G (sI (sI (sI (sI (sI (sI S 2 12 (vp_nar .byte (i2bI (ushrI p1 24)))) 1 1 13) 2 13 (vp_nar .byte (i2bI (ushrI p1 16)))) 1 1 14) 2 14 (vp_nar .byte (i2bI (ushrI p1 8)))) 1 1 15) (p1) rfl hR_1_0) (c_X10_29 Cx rfl rfl ⟨Nat.le_of_ble_eq_true rfl, Nat.le_of_ble_eq_true rfl⟩) hW (by decide) rfl rfl rfl hl.1 rfl (Nat.le_of_ble_eq_true rfl) dX10_putFour_26 ⟨Nat.le_of_ble_eq_true rfl, Nat.le_of_ble_eq_true rfl⟩) hL (fun H locs hW hL => ?_)
  exact sVret Cx hr hlk hW hL rfl dX10_putFour_29

set_option maxRecDepth 100000 in
set_option maxHeartbeats 4000000 in
theorem t82_X10_put (l : Launch) (G : sG) (S : sS) (p1 : Int32) (hI_1_1 : S.1 1 1 = 16) (hR_1_0 : S.2.2 1 0 = .ref (G.2.2.1 + 2)) : Met l yX10_put (.code yX10_put cX10_put 2 none :: tb) (rmk 1 0 0) (sPc G 294 S [.ref (G.2.2.1 + 1), .int p1]) (sQv G 294 (fun u => u = (sI (sI S 2 16 (vp_nar .byte (i2bI p1))) 1 1 17))) 0 0 (sF G) := by
  refine sEnter (by decide) (Nat.le_of_ble_eq_true rfl) ?_
  intro p e s m args below meth c Cx hr hlk hnm hW ls hl
  have Cx : sC G p m c cX10_put 2 s args RX10 := Cx
  obtain ⟨hx, hb, hml, hown, hts⟩ := id Cx.1
  have hL : sL G [] := sL_nil
  have hl : lv_has ls 2 [(0, .ref (G.2.2.1 + 1)), (1, .int p1)] := hl
  refine lv_aload_n hx hb dX10_put_0 rfl (lv_at hl 0 rfl) ?_
  refine g_X10_21 Cx hW (k := 1) (by decide) rfl (v := 16) hI_1_1 dX10_put_1 ?_
  refine lv_aload_n hx hb dX10_put_4 rfl (lv_at hl 0 rfl) ?_
  refine g_X10_15 Cx hW (k := 1) (by decide) rfl (v := .ref (G.2.2.1 + 2)) hR_1_0 dX10_put_5 ?_
  refine sAlen Cx hW (k := 2) (N := 30000) (by decide) rfl 2 rfl (v := 30000) (by decide) dX10_put_8 ?_
  refine lv_icmp_lt (tgt := 18) hx hb dX10_put_9 (by decide) (fun _ => ?_) (fun c => absurd (by decide) c)
  refine lv_aload_n hx hb dX10_put_18 rfl (lv_at hl 0 rfl) ?_
  refine g_X10_15 Cx hW (k := 1) (by decide) rfl (v := .ref (G.2.2.1 + 2)) hR_1_0 dX10_put_19 ?_
  refine lv_aload_n hx hb dX10_put_22 rfl (lv_at hl 0 rfl) ?_
  refine g_X10_21 Cx hW (k := 1) (by decide) rfl (v := 16) hI_1_1 dX10_put_23 ?_
  refine lv_iload_n hx hb dX10_put_26 rfl (lv_at hl 1 rfl) ?_
  refine lv_i2b (v := i2bI p1) hx hb dX10_put_27 rfl ?_
  refine sBast Cx hW hL (k := 2) (N := 30000) (by decide) rfl (j := 16) (by decide) (vp_c (by decide)) (y := vp_nar .byte (i2bI p1)) rfl dX10_put_28 (fun H locs hW hL => ?_)
  refine lv_aload_n hx hb dX10_put_29 rfl (lv_at hl 0 rfl) ?_
  refine lv_dup hx hb dX10_put_30 rfl ?_
  refine g_X10_21 Cx hW (k := 1) (by decide) rfl (v := 16) hI_1_1 dX10_put_31 ?_
  refine lv_iconst (v := 1) hx hb dX10_put_34 (by decide) ?_
  refine lv_iadd hx hb dX10_put_35 ?_
  refine sCi (v := 17) (by decide) ?_
  refine p_X10_21 Cx hW hL (k := 1) (by decide) rfl dX10_put_36 (fun H locs hW hL => ?_)
  exact sVret Cx hr hlk hW hL rfl dX10_put_39

set_option maxRecDepth 100000 in
set_option maxHeartbeats 4000000 in
theorem t83_X10_put (l : Launch) (G : sG) (S : sS) (p1 : Int32) (hI_1_1 : S.1 1 1 = 17) (hR_1_0 : S.2.2 1 0 = .ref (G.2.2.1 + 2)) : Met l yX10_put (.code yX10_put cX10_put 2 none :: tb) (rmk 1 0 0) (sPc G 294 S [.ref (G.2.2.1 + 1), .int p1]) (sQv G 294 (fun u => u = (sI (sI S 2 17 (vp_nar .byte (i2bI p1))) 1 1 18))) 0 0 (sF G) := by
  refine sEnter (by decide) (Nat.le_of_ble_eq_true rfl) ?_
  intro p e s m args below meth c Cx hr hlk hnm hW ls hl
  have Cx : sC G p m c cX10_put 2 s args RX10 := Cx
  obtain ⟨hx, hb, hml, hown, hts⟩ := id Cx.1
  have hL : sL G [] := sL_nil
  have hl : lv_has ls 2 [(0, .ref (G.2.2.1 + 1)), (1, .int p1)] := hl
  refine lv_aload_n hx hb dX10_put_0 rfl (lv_at hl 0 rfl) ?_
  refine g_X10_21 Cx hW (k := 1) (by decide) rfl (v := 17) hI_1_1 dX10_put_1 ?_
  refine lv_aload_n hx hb dX10_put_4 rfl (lv_at hl 0 rfl) ?_
  refine g_X10_15 Cx hW (k := 1) (by decide) rfl (v := .ref (G.2.2.1 + 2)) hR_1_0 dX10_put_5 ?_
  refine sAlen Cx hW (k := 2) (N := 30000) (by decide) rfl 2 rfl (v := 30000) (by decide) dX10_put_8 ?_
  refine lv_icmp_lt (tgt := 18) hx hb dX10_put_9 (by decide) (fun _ => ?_) (fun c => absurd (by decide) c)
  refine lv_aload_n hx hb dX10_put_18 rfl (lv_at hl 0 rfl) ?_
  refine g_X10_15 Cx hW (k := 1) (by decide) rfl (v := .ref (G.2.2.1 + 2)) hR_1_0 dX10_put_19 ?_
  refine lv_aload_n hx hb dX10_put_22 rfl (lv_at hl 0 rfl) ?_
  refine g_X10_21 Cx hW (k := 1) (by decide) rfl (v := 17) hI_1_1 dX10_put_23 ?_
  refine lv_iload_n hx hb dX10_put_26 rfl (lv_at hl 1 rfl) ?_
  refine lv_i2b (v := i2bI p1) hx hb dX10_put_27 rfl ?_
  refine sBast Cx hW hL (k := 2) (N := 30000) (by decide) rfl (j := 17) (by decide) (vp_c (by decide)) (y := vp_nar .byte (i2bI p1)) rfl dX10_put_28 (fun H locs hW hL => ?_)
  refine lv_aload_n hx hb dX10_put_29 rfl (lv_at hl 0 rfl) ?_
  refine lv_dup hx hb dX10_put_30 rfl ?_
  refine g_X10_21 Cx hW (k := 1) (by decide) rfl (v := 17) hI_1_1 dX10_put_31 ?_
  refine lv_iconst (v := 1) hx hb dX10_put_34 (by decide) ?_
  refine lv_iadd hx hb dX10_put_35 ?_
  refine sCi (v := 18) (by decide) ?_
  refine p_X10_21 Cx hW hL (k := 1) (by decide) rfl dX10_put_36 (fun H locs hW hL => ?_)
  exact sVret Cx hr hlk hW hL rfl dX10_put_39

set_option maxRecDepth 100000 in
set_option maxHeartbeats 4000000 in
theorem t84_X10_put (l : Launch) (G : sG) (S : sS) (p1 : Int32) (hI_1_1 : S.1 1 1 = 18) (hR_1_0 : S.2.2 1 0 = .ref (G.2.2.1 + 2)) : Met l yX10_put (.code yX10_put cX10_put 2 none :: tb) (rmk 1 0 0) (sPc G 294 S [.ref (G.2.2.1 + 1), .int p1]) (sQv G 294 (fun u => u = (sI (sI S 2 18 (vp_nar .byte (i2bI p1))) 1 1 19))) 0 0 (sF G) := by
  refine sEnter (by decide) (Nat.le_of_ble_eq_true rfl) ?_
  intro p e s m args below meth c Cx hr hlk hnm hW ls hl
  have Cx : sC G p m c cX10_put 2 s args RX10 := Cx
  obtain ⟨hx, hb, hml, hown, hts⟩ := id Cx.1
  have hL : sL G [] := sL_nil
  have hl : lv_has ls 2 [(0, .ref (G.2.2.1 + 1)), (1, .int p1)] := hl
  refine lv_aload_n hx hb dX10_put_0 rfl (lv_at hl 0 rfl) ?_
  refine g_X10_21 Cx hW (k := 1) (by decide) rfl (v := 18) hI_1_1 dX10_put_1 ?_
  refine lv_aload_n hx hb dX10_put_4 rfl (lv_at hl 0 rfl) ?_
  refine g_X10_15 Cx hW (k := 1) (by decide) rfl (v := .ref (G.2.2.1 + 2)) hR_1_0 dX10_put_5 ?_
  refine sAlen Cx hW (k := 2) (N := 30000) (by decide) rfl 2 rfl (v := 30000) (by decide) dX10_put_8 ?_
  refine lv_icmp_lt (tgt := 18) hx hb dX10_put_9 (by decide) (fun _ => ?_) (fun c => absurd (by decide) c)
  refine lv_aload_n hx hb dX10_put_18 rfl (lv_at hl 0 rfl) ?_
  refine g_X10_15 Cx hW (k := 1) (by decide) rfl (v := .ref (G.2.2.1 + 2)) hR_1_0 dX10_put_19 ?_
  refine lv_aload_n hx hb dX10_put_22 rfl (lv_at hl 0 rfl) ?_
  refine g_X10_21 Cx hW (k := 1) (by decide) rfl (v := 18) hI_1_1 dX10_put_23 ?_
  refine lv_iload_n hx hb dX10_put_26 rfl (lv_at hl 1 rfl) ?_
  refine lv_i2b (v := i2bI p1) hx hb dX10_put_27 rfl ?_
  refine sBast Cx hW hL (k := 2) (N := 30000) (by decide) rfl (j := 18) (by decide) (vp_c (by decide)) (y := vp_nar .byte (i2bI p1)) rfl dX10_put_28 (fun H locs hW hL => ?_)
  refine lv_aload_n hx hb dX10_put_29 rfl (lv_at hl 0 rfl) ?_
  refine lv_dup hx hb dX10_put_30 rfl ?_
  refine g_X10_21 Cx hW (k := 1) (by decide) rfl (v := 18) hI_1_1 dX10_put_31 ?_
  refine lv_iconst (v := 1) hx hb dX10_put_34 (by decide) ?_
  refine lv_iadd hx hb dX10_put_35 ?_
  refine sCi (v := 19) (by decide) ?_
  refine p_X10_21 Cx hW hL (k := 1) (by decide) rfl dX10_put_36 (fun H locs hW hL => ?_)
  exact sVret Cx hr hlk hW hL rfl dX10_put_39

set_option maxRecDepth 100000 in
set_option maxHeartbeats 4000000 in
theorem t85_X10_put (l : Launch) (G : sG) (S : sS) (p1 : Int32) (hI_1_1 : S.1 1 1 = 19) (hR_1_0 : S.2.2 1 0 = .ref (G.2.2.1 + 2)) : Met l yX10_put (.code yX10_put cX10_put 2 none :: tb) (rmk 1 0 0) (sPc G 294 S [.ref (G.2.2.1 + 1), .int p1]) (sQv G 294 (fun u => u = (sI (sI S 2 19 (vp_nar .byte (i2bI p1))) 1 1 20))) 0 0 (sF G) := by
  refine sEnter (by decide) (Nat.le_of_ble_eq_true rfl) ?_
  intro p e s m args below meth c Cx hr hlk hnm hW ls hl
  have Cx : sC G p m c cX10_put 2 s args RX10 := Cx
  obtain ⟨hx, hb, hml, hown, hts⟩ := id Cx.1
  have hL : sL G [] := sL_nil
  have hl : lv_has ls 2 [(0, .ref (G.2.2.1 + 1)), (1, .int p1)] := hl
  refine lv_aload_n hx hb dX10_put_0 rfl (lv_at hl 0 rfl) ?_
  refine g_X10_21 Cx hW (k := 1) (by decide) rfl (v := 19) hI_1_1 dX10_put_1 ?_
  refine lv_aload_n hx hb dX10_put_4 rfl (lv_at hl 0 rfl) ?_
  refine g_X10_15 Cx hW (k := 1) (by decide) rfl (v := .ref (G.2.2.1 + 2)) hR_1_0 dX10_put_5 ?_
  refine sAlen Cx hW (k := 2) (N := 30000) (by decide) rfl 2 rfl (v := 30000) (by decide) dX10_put_8 ?_
  refine lv_icmp_lt (tgt := 18) hx hb dX10_put_9 (by decide) (fun _ => ?_) (fun c => absurd (by decide) c)
  refine lv_aload_n hx hb dX10_put_18 rfl (lv_at hl 0 rfl) ?_
  refine g_X10_15 Cx hW (k := 1) (by decide) rfl (v := .ref (G.2.2.1 + 2)) hR_1_0 dX10_put_19 ?_
  refine lv_aload_n hx hb dX10_put_22 rfl (lv_at hl 0 rfl) ?_
  refine g_X10_21 Cx hW (k := 1) (by decide) rfl (v := 19) hI_1_1 dX10_put_23 ?_
  refine lv_iload_n hx hb dX10_put_26 rfl (lv_at hl 1 rfl) ?_
  refine lv_i2b (v := i2bI p1) hx hb dX10_put_27 rfl ?_
  refine sBast Cx hW hL (k := 2) (N := 30000) (by decide) rfl (j := 19) (by decide) (vp_c (by decide)) (y := vp_nar .byte (i2bI p1)) rfl dX10_put_28 (fun H locs hW hL => ?_)
  refine lv_aload_n hx hb dX10_put_29 rfl (lv_at hl 0 rfl) ?_
  refine lv_dup hx hb dX10_put_30 rfl ?_
  refine g_X10_21 Cx hW (k := 1) (by decide) rfl (v := 19) hI_1_1 dX10_put_31 ?_
  refine lv_iconst (v := 1) hx hb dX10_put_34 (by decide) ?_
  refine lv_iadd hx hb dX10_put_35 ?_
  refine sCi (v := 20) (by decide) ?_
  refine p_X10_21 Cx hW hL (k := 1) (by decide) rfl dX10_put_36 (fun H locs hW hL => ?_)
  exact sVret Cx hr hlk hW hL rfl dX10_put_39

set_option maxRecDepth 100000 in
set_option maxHeartbeats 4000000 in
theorem t86_X10_putFour (l : Launch) (G : sG) (S : sS) (p1 : Int32) (hI_1_1 : S.1 1 1 = 16) (hR_1_0 : S.2.2 1 0 = .ref (G.2.2.1 + 2)) : Met l yX10_putFour (.code yX10_putFour cX10_putFour 2 none :: tb) (rmk 2 0 0) (sPc G 294 S [.ref (G.2.2.1 + 1), .int p1]) (sQv G 294 (fun u => u = (sI (sI (sI (sI (sI (sI (sI (sI S 2 16 (vp_nar .byte (i2bI (ushrI p1 24)))) 1 1 17) 2 17 (vp_nar .byte (i2bI (ushrI p1 16)))) 1 1 18) 2 18 (vp_nar .byte (i2bI (ushrI p1 8)))) 1 1 19) 2 19 (vp_nar .byte (i2bI p1))) 1 1 20))) 0 0 (sF G) := by
  refine sEnter (by decide) (Nat.le_of_ble_eq_true rfl) ?_
  intro p e s m args below meth c Cx hr hlk hnm hW ls hl
  have Cx : sC G p m c cX10_putFour 2 s args RX10 := Cx
  obtain ⟨hx, hb, hml, hown, hts⟩ := id Cx.1
  have hL : sL G [] := sL_nil
  have hl : lv_has ls 2 [(0, .ref (G.2.2.1 + 1)), (1, .int p1)] := hl
  refine lv_aload_n hx hb dX10_putFour_0 rfl (lv_at hl 0 rfl) ?_
  refine lv_iload_n hx hb dX10_putFour_1 rfl (lv_at hl 1 rfl) ?_
  refine lv_bipush (v := 24) hx hb dX10_putFour_2 (by decide) ?_
  refine lv_iushr (v := ushrI p1 24) hx hb dX10_putFour_4 rfl ?_
  refine sBvE (sV (As := [.int (ushrI p1 24)]) (rest := []) (k := 1) Cx (t82_X10_put l G S (ushrI p1 24) hI_1_1 hR_1_0) (c_X10_29 Cx rfl rfl ⟨Nat.le_of_ble_eq_true rfl, Nat.le_of_ble_eq_true rfl⟩) hW (by decide) rfl rfl rfl hl.1 rfl (Nat.le_of_ble_eq_true rfl) dX10_putFour_5 ⟨Nat.le_of_ble_eq_true rfl, Nat.le_of_ble_eq_true rfl⟩) hL (fun H locs hW hL => ?_)
  refine lv_aload_n hx hb dX10_putFour_8 rfl (lv_at hl 0 rfl) ?_
  refine lv_iload_n hx hb dX10_putFour_9 rfl (lv_at hl 1 rfl) ?_
  refine lv_bipush (v := 16) hx hb dX10_putFour_10 (by decide) ?_
  refine lv_iushr (v := ushrI p1 16) hx hb dX10_putFour_12 rfl ?_
  refine sBvE (sV (As := [.int (ushrI p1 16)]) (rest := []) (k := 1) Cx (t83_X10_put l G (sI (sI S 2 16 (vp_nar .byte (i2bI (ushrI p1 24)))) 1 1 17) (ushrI p1 16) rfl hR_1_0) (c_X10_29 Cx rfl rfl ⟨Nat.le_of_ble_eq_true rfl, Nat.le_of_ble_eq_true rfl⟩) hW (by decide) rfl rfl rfl hl.1 rfl (Nat.le_of_ble_eq_true rfl) dX10_putFour_13 ⟨Nat.le_of_ble_eq_true rfl, Nat.le_of_ble_eq_true rfl⟩) hL (fun H locs hW hL => ?_)
  refine lv_aload_n hx hb dX10_putFour_16 rfl (lv_at hl 0 rfl) ?_
  refine lv_iload_n hx hb dX10_putFour_17 rfl (lv_at hl 1 rfl) ?_
  refine lv_bipush (v := 8) hx hb dX10_putFour_18 (by decide) ?_
  refine lv_iushr (v := ushrI p1 8) hx hb dX10_putFour_20 rfl ?_
  refine sBvE (sV (As := [.int (ushrI p1 8)]) (rest := []) (k := 1) Cx (t84_X10_put l G (sI (sI (sI (sI S 2 16 (vp_nar .byte (i2bI (ushrI p1 24)))) 1 1 17) 2 17 (vp_nar .byte (i2bI (ushrI p1 16)))) 1 1 18) (ushrI p1 8) rfl hR_1_0) (c_X10_29 Cx rfl rfl ⟨Nat.le_of_ble_eq_true rfl, Nat.le_of_ble_eq_true rfl⟩) hW (by decide) rfl rfl rfl hl.1 rfl (Nat.le_of_ble_eq_true rfl) dX10_putFour_21 ⟨Nat.le_of_ble_eq_true rfl, Nat.le_of_ble_eq_true rfl⟩) hL (fun H locs hW hL => ?_)
  refine lv_aload_n hx hb dX10_putFour_24 rfl (lv_at hl 0 rfl) ?_
  refine lv_iload_n hx hb dX10_putFour_25 rfl (lv_at hl 1 rfl) ?_
  refine sBvE (sV (As := [.int p1]) (rest := []) (k := 1) Cx (t85_X10_put l G (sI (sI (sI (sI (sI (sI S 2 16 (vp_nar .byte (i2bI (ushrI p1 24)))) 1 1 17) 2 17 (vp_nar .byte (i2bI (ushrI p1 16)))) 1 1 18) 2 18 (vp_nar .byte (i2bI (ushrI p1 8)))) 1 1 19) (p1) rfl hR_1_0) (c_X10_29 Cx rfl rfl ⟨Nat.le_of_ble_eq_true rfl, Nat.le_of_ble_eq_true rfl⟩) hW (by decide) rfl rfl rfl hl.1 rfl (Nat.le_of_ble_eq_true rfl) dX10_putFour_26 ⟨Nat.le_of_ble_eq_true rfl, Nat.le_of_ble_eq_true rfl⟩) hL (fun H locs hW hL => ?_)
  exact sVret Cx hr hlk hW hL rfl dX10_putFour_29

set_option maxRecDepth 100000 in
set_option maxHeartbeats 4000000 in
theorem t87_X10_length (l : Launch) (G : sG) (S : sS)  (hI_1_1 : S.1 1 1 = 20) : Met l yX10_length (.code yX10_length cX10_length 1 (some .int) :: tb) (rmk 1 0 0) (sPc G 294 S [.ref (G.2.2.1 + 1)]) (sQi G 294 (fun r u => r = 20 ∧ u = S)) 0 0 (sF G) := by
  refine sEnter (by decide) (Nat.le_of_ble_eq_true rfl) ?_
  intro p e s m args below meth c Cx hr hlk hnm hW ls hl
  have Cx : sC G p m c cX10_length 1 s args RX10 := Cx
  obtain ⟨hx, hb, hml, hown, hts⟩ := id Cx.1
  have hL : sL G [] := sL_nil
  have hl : lv_has ls 1 [(0, .ref (G.2.2.1 + 1))] := hl
  refine lv_aload_n hx hb dX10_length_0 rfl (lv_at hl 0 rfl) ?_
  refine g_X10_21 Cx hW (k := 1) (by decide) rfl (v := 20) hI_1_1 dX10_length_1 ?_
  exact sIret Cx hr hlk hW hL ⟨rfl, rfl⟩ dX10_length_4

set_option maxRecDepth 100000 in
set_option maxHeartbeats 4000000 in
theorem m_X11_feed (l : Launch) (G : sG) (S : sS) (p1 : Int32) (p2 : Int32) (p3 : Int32) (p4 : Int32) (p5 : Int32) (hR_0_0 : S.2.2 0 0 = .ref (G.2.2.1 + 1)) (hI_1_1 : S.1 1 1 = 0) (hR_1_0 : S.2.2 1 0 = .ref (G.2.2.1 + 2)) : Met l yX11_feed (.code yX11_feed cX11_feed 6 (some .int) :: tb) (rmk 3 0 0) (sPc G 294 S [.ref (G.2.2.1 + 0), .int p1, .int p2, .int p3, .int p4, .int p5]) (sQi G 294 (fun r u => r = 20 ∧ u = (sI (sI (sI (sI (sI (sI (sI (sI (sI (sI (sI (sI (sI (sI (sI (sI (sI (sI (sI (sI (sI (sI (sI (sI (sI (sI (sI (sI (sI (sI (sI (sI (sI (sI (sI (sI (sI (sI (sI (sI S 2 0 (vp_nar .byte (i2bI (ushrI p1 24)))) 1 1 1) 2 1 (vp_nar .byte (i2bI (ushrI p1 16)))) 1 1 2) 2 2 (vp_nar .byte (i2bI (ushrI p1 8)))) 1 1 3) 2 3 (vp_nar .byte (i2bI p1))) 1 1 4) 2 4 (vp_nar .byte (i2bI (ushrI p2 24)))) 1 1 5) 2 5 (vp_nar .byte (i2bI (ushrI p2 16)))) 1 1 6) 2 6 (vp_nar .byte (i2bI (ushrI p2 8)))) 1 1 7) 2 7 (vp_nar .byte (i2bI p2))) 1 1 8) 2 8 (vp_nar .byte (i2bI (ushrI p3 24)))) 1 1 9) 2 9 (vp_nar .byte (i2bI (ushrI p3 16)))) 1 1 10) 2 10 (vp_nar .byte (i2bI (ushrI p3 8)))) 1 1 11) 2 11 (vp_nar .byte (i2bI p3))) 1 1 12) 2 12 (vp_nar .byte (i2bI (ushrI p4 24)))) 1 1 13) 2 13 (vp_nar .byte (i2bI (ushrI p4 16)))) 1 1 14) 2 14 (vp_nar .byte (i2bI (ushrI p4 8)))) 1 1 15) 2 15 (vp_nar .byte (i2bI p4))) 1 1 16) 2 16 (vp_nar .byte (i2bI (ushrI p5 24)))) 1 1 17) 2 17 (vp_nar .byte (i2bI (ushrI p5 16)))) 1 1 18) 2 18 (vp_nar .byte (i2bI (ushrI p5 8)))) 1 1 19) 2 19 (vp_nar .byte (i2bI p5))) 1 1 20))) 0 0 (sF G) := by
  refine sEnter (by decide) (Nat.le_of_ble_eq_true rfl) ?_
  intro p e s m args below meth c Cx hr hlk hnm hW ls hl
  have Cx : sC G p m c cX11_feed 6 s args RX11 := Cx
  obtain ⟨hx, hb, hml, hown, hts⟩ := id Cx.1
  have hL : sL G [] := sL_nil
  have hl : lv_has ls 6 [(0, .ref (G.2.2.1 + 0)), (1, .int p1), (2, .int p2), (3, .int p3), (4, .int p4), (5, .int p5)] := hl
  refine lv_aload_n hx hb dX11_feed_0 rfl (lv_at hl 0 rfl) ?_
  refine g_X11_14 Cx hW (k := 0) (by decide) rfl (v := .ref (G.2.2.1 + 1)) hR_0_0 dX11_feed_1 ?_
  refine sBiE (sV (As := []) (rest := []) (k := 1) Cx (t61_X10_length l G S hI_1_1) (c_X11_56 Cx rfl rfl ⟨Nat.le_of_ble_eq_true rfl, Nat.le_of_ble_eq_true rfl⟩) hW (by decide) rfl rfl rfl hl.1 rfl (Nat.le_of_ble_eq_true rfl) dX11_feed_4 ⟨Nat.le_of_ble_eq_true rfl, Nat.le_of_ble_eq_true rfl⟩) hL (fun H locs hW hL => ?_)
  refine lv_bipush (v := 20) hx hb dX11_feed_7 (by decide) ?_
  refine lv_iadd hx hb dX11_feed_9 ?_
  refine sCi (v := 20) (by decide) ?_
  refine lv_sipush (v := 30000) hx hb dX11_feed_10 (by decide) ?_
  refine lv_icmp_le (tgt := 18) hx hb dX11_feed_13 (by decide) (fun _ => ?_) (fun c => absurd (by decide) c)
  refine lv_aload_n hx hb dX11_feed_18 rfl (lv_at hl 0 rfl) ?_
  refine g_X11_14 Cx hW (k := 0) (by decide) rfl (v := .ref (G.2.2.1 + 1)) hR_0_0 dX11_feed_19 ?_
  refine lv_iload_n hx hb dX11_feed_22 rfl (lv_at hl 1 rfl) ?_
  refine sBvE (sV (As := [.int p1]) (rest := []) (k := 1) Cx (t66_X10_putFour l G S (p1) hI_1_1 hR_1_0) (c_X11_60 Cx rfl rfl ⟨Nat.le_of_ble_eq_true rfl, Nat.le_of_ble_eq_true rfl⟩) hW (by decide) rfl rfl rfl hl.1 rfl (Nat.le_of_ble_eq_true rfl) dX11_feed_23 ⟨Nat.le_of_ble_eq_true rfl, Nat.le_of_ble_eq_true rfl⟩) hL (fun H locs hW hL => ?_)
  refine lv_aload_n hx hb dX11_feed_26 rfl (lv_at hl 0 rfl) ?_
  refine g_X11_14 Cx hW (k := 0) (by decide) rfl (v := .ref (G.2.2.1 + 1)) hR_0_0 dX11_feed_27 ?_
  refine lv_iload_n hx hb dX11_feed_30 rfl (lv_at hl 2 rfl) ?_
  refine sBvE (sV (As := [.int p2]) (rest := []) (k := 1) Cx (t71_X10_putFour l G (sI (sI (sI (sI (sI (sI (sI (sI S 2 0 (vp_nar .byte (i2bI (ushrI p1 24)))) 1 1 1) 2 1 (vp_nar .byte (i2bI (ushrI p1 16)))) 1 1 2) 2 2 (vp_nar .byte (i2bI (ushrI p1 8)))) 1 1 3) 2 3 (vp_nar .byte (i2bI p1))) 1 1 4) (p2) rfl hR_1_0) (c_X11_60 Cx rfl rfl ⟨Nat.le_of_ble_eq_true rfl, Nat.le_of_ble_eq_true rfl⟩) hW (by decide) rfl rfl rfl hl.1 rfl (Nat.le_of_ble_eq_true rfl) dX11_feed_31 ⟨Nat.le_of_ble_eq_true rfl, Nat.le_of_ble_eq_true rfl⟩) hL (fun H locs hW hL => ?_)
  refine lv_aload_n hx hb dX11_feed_34 rfl (lv_at hl 0 rfl) ?_
  refine g_X11_14 Cx hW (k := 0) (by decide) rfl (v := .ref (G.2.2.1 + 1)) hR_0_0 dX11_feed_35 ?_
  refine lv_iload_n hx hb dX11_feed_38 rfl (lv_at hl 3 rfl) ?_
  refine sBvE (sV (As := [.int p3]) (rest := []) (k := 1) Cx (t76_X10_putFour l G (sI (sI (sI (sI (sI (sI (sI (sI (sI (sI (sI (sI (sI (sI (sI (sI S 2 0 (vp_nar .byte (i2bI (ushrI p1 24)))) 1 1 1) 2 1 (vp_nar .byte (i2bI (ushrI p1 16)))) 1 1 2) 2 2 (vp_nar .byte (i2bI (ushrI p1 8)))) 1 1 3) 2 3 (vp_nar .byte (i2bI p1))) 1 1 4) 2 4 (vp_nar .byte (i2bI (ushrI p2 24)))) 1 1 5) 2 5 (vp_nar .byte (i2bI (ushrI p2 16)))) 1 1 6) 2 6 (vp_nar .byte (i2bI (ushrI p2 8)))) 1 1 7) 2 7 (vp_nar .byte (i2bI p2))) 1 1 8) (p3) rfl hR_1_0) (c_X11_60 Cx rfl rfl ⟨Nat.le_of_ble_eq_true rfl, Nat.le_of_ble_eq_true rfl⟩) hW (by decide) rfl rfl rfl hl.1 rfl (Nat.le_of_ble_eq_true rfl) dX11_feed_39 ⟨Nat.le_of_ble_eq_true rfl, Nat.le_of_ble_eq_true rfl⟩) hL (fun H locs hW hL => ?_)
  refine lv_aload_n hx hb dX11_feed_42 rfl (lv_at hl 0 rfl) ?_
  refine g_X11_14 Cx hW (k := 0) (by decide) rfl (v := .ref (G.2.2.1 + 1)) hR_0_0 dX11_feed_43 ?_
  refine lv_iload hx hb dX11_feed_46 (lv_at hl 4 rfl) ?_
  refine sBvE (sV (As := [.int p4]) (rest := []) (k := 1) Cx (t81_X10_putFour l G (sI (sI (sI (sI (sI (sI (sI (sI (sI (sI (sI (sI (sI (sI (sI (sI (sI (sI (sI (sI (sI (sI (sI (sI S 2 0 (vp_nar .byte (i2bI (ushrI p1 24)))) 1 1 1) 2 1 (vp_nar .byte (i2bI (ushrI p1 16)))) 1 1 2) 2 2 (vp_nar .byte (i2bI (ushrI p1 8)))) 1 1 3) 2 3 (vp_nar .byte (i2bI p1))) 1 1 4) 2 4 (vp_nar .byte (i2bI (ushrI p2 24)))) 1 1 5) 2 5 (vp_nar .byte (i2bI (ushrI p2 16)))) 1 1 6) 2 6 (vp_nar .byte (i2bI (ushrI p2 8)))) 1 1 7) 2 7 (vp_nar .byte (i2bI p2))) 1 1 8) 2 8 (vp_nar .byte (i2bI (ushrI p3 24)))) 1 1 9) 2 9 (vp_nar .byte (i2bI (ushrI p3 16)))) 1 1 10) 2 10 (vp_nar .byte (i2bI (ushrI p3 8)))) 1 1 11) 2 11 (vp_nar .byte (i2bI p3))) 1 1 12) (p4) rfl hR_1_0) (c_X11_60 Cx rfl rfl ⟨Nat.le_of_ble_eq_true rfl, Nat.le_of_ble_eq_true rfl⟩) hW (by decide) rfl rfl rfl hl.1 rfl (Nat.le_of_ble_eq_true rfl) dX11_feed_48 ⟨Nat.le_of_ble_eq_true rfl, Nat.le_of_ble_eq_true rfl⟩) hL (fun H locs hW hL => ?_)
  refine lv_aload_n hx hb dX11_feed_51 rfl (lv_at hl 0 rfl) ?_
  refine g_X11_14 Cx hW (k := 0) (by decide) rfl (v := .ref (G.2.2.1 + 1)) hR_0_0 dX11_feed_52 ?_
  refine lv_iload hx hb dX11_feed_55 (lv_at hl 5 rfl) ?_
  refine sBvE (sV (As := [.int p5]) (rest := []) (k := 1) Cx (t86_X10_putFour l G (sI (sI (sI (sI (sI (sI (sI (sI (sI (sI (sI (sI (sI (sI (sI (sI (sI (sI (sI (sI (sI (sI (sI (sI (sI (sI (sI (sI (sI (sI (sI (sI S 2 0 (vp_nar .byte (i2bI (ushrI p1 24)))) 1 1 1) 2 1 (vp_nar .byte (i2bI (ushrI p1 16)))) 1 1 2) 2 2 (vp_nar .byte (i2bI (ushrI p1 8)))) 1 1 3) 2 3 (vp_nar .byte (i2bI p1))) 1 1 4) 2 4 (vp_nar .byte (i2bI (ushrI p2 24)))) 1 1 5) 2 5 (vp_nar .byte (i2bI (ushrI p2 16)))) 1 1 6) 2 6 (vp_nar .byte (i2bI (ushrI p2 8)))) 1 1 7) 2 7 (vp_nar .byte (i2bI p2))) 1 1 8) 2 8 (vp_nar .byte (i2bI (ushrI p3 24)))) 1 1 9) 2 9 (vp_nar .byte (i2bI (ushrI p3 16)))) 1 1 10) 2 10 (vp_nar .byte (i2bI (ushrI p3 8)))) 1 1 11) 2 11 (vp_nar .byte (i2bI p3))) 1 1 12) 2 12 (vp_nar .byte (i2bI (ushrI p4 24)))) 1 1 13) 2 13 (vp_nar .byte (i2bI (ushrI p4 16)))) 1 1 14) 2 14 (vp_nar .byte (i2bI (ushrI p4 8)))) 1 1 15) 2 15 (vp_nar .byte (i2bI p4))) 1 1 16) (p5) rfl hR_1_0) (c_X11_60 Cx rfl rfl ⟨Nat.le_of_ble_eq_true rfl, Nat.le_of_ble_eq_true rfl⟩) hW (by decide) rfl rfl rfl hl.1 rfl (Nat.le_of_ble_eq_true rfl) dX11_feed_57 ⟨Nat.le_of_ble_eq_true rfl, Nat.le_of_ble_eq_true rfl⟩) hL (fun H locs hW hL => ?_)
  refine lv_aload_n hx hb dX11_feed_60 rfl (lv_at hl 0 rfl) ?_
  refine g_X11_14 Cx hW (k := 0) (by decide) rfl (v := .ref (G.2.2.1 + 1)) hR_0_0 dX11_feed_61 ?_
  refine sBiE (sV (As := []) (rest := []) (k := 1) Cx (t87_X10_length l G (sI (sI (sI (sI (sI (sI (sI (sI (sI (sI (sI (sI (sI (sI (sI (sI (sI (sI (sI (sI (sI (sI (sI (sI (sI (sI (sI (sI (sI (sI (sI (sI (sI (sI (sI (sI (sI (sI (sI (sI S 2 0 (vp_nar .byte (i2bI (ushrI p1 24)))) 1 1 1) 2 1 (vp_nar .byte (i2bI (ushrI p1 16)))) 1 1 2) 2 2 (vp_nar .byte (i2bI (ushrI p1 8)))) 1 1 3) 2 3 (vp_nar .byte (i2bI p1))) 1 1 4) 2 4 (vp_nar .byte (i2bI (ushrI p2 24)))) 1 1 5) 2 5 (vp_nar .byte (i2bI (ushrI p2 16)))) 1 1 6) 2 6 (vp_nar .byte (i2bI (ushrI p2 8)))) 1 1 7) 2 7 (vp_nar .byte (i2bI p2))) 1 1 8) 2 8 (vp_nar .byte (i2bI (ushrI p3 24)))) 1 1 9) 2 9 (vp_nar .byte (i2bI (ushrI p3 16)))) 1 1 10) 2 10 (vp_nar .byte (i2bI (ushrI p3 8)))) 1 1 11) 2 11 (vp_nar .byte (i2bI p3))) 1 1 12) 2 12 (vp_nar .byte (i2bI (ushrI p4 24)))) 1 1 13) 2 13 (vp_nar .byte (i2bI (ushrI p4 16)))) 1 1 14) 2 14 (vp_nar .byte (i2bI (ushrI p4 8)))) 1 1 15) 2 15 (vp_nar .byte (i2bI p4))) 1 1 16) 2 16 (vp_nar .byte (i2bI (ushrI p5 24)))) 1 1 17) 2 17 (vp_nar .byte (i2bI (ushrI p5 16)))) 1 1 18) 2 18 (vp_nar .byte (i2bI (ushrI p5 8)))) 1 1 19) 2 19 (vp_nar .byte (i2bI p5))) 1 1 20) rfl) (c_X11_56 Cx rfl rfl ⟨Nat.le_of_ble_eq_true rfl, Nat.le_of_ble_eq_true rfl⟩) hW (by decide) rfl rfl rfl hl.1 rfl (Nat.le_of_ble_eq_true rfl) dX11_feed_64 ⟨Nat.le_of_ble_eq_true rfl, Nat.le_of_ble_eq_true rfl⟩) hL (fun H locs hW hL => ?_)
  exact sIret Cx hr hlk hW hL ⟨rfl, rfl⟩ dX11_feed_67

set_option maxRecDepth 100000 in
set_option maxHeartbeats 4000000 in
theorem t89_X10_shorten (l : Launch) (G : sG) (S : sS) (p1 : Int32) (hI_1_1 : S.1 1 1 = 0) : Met l yX10_shorten (.code yX10_shorten cX10_shorten 2 (some .boolean) :: tb) (rmk 1 0 0) (sPc G 294 S [.ref (G.2.2.1 + 1), .int p1]) (sQi G 294 (fun r u => r = endF p1 ∧ u = S)) 0 0 (sF G) := by
  refine sEnter (by decide) (Nat.le_of_ble_eq_true rfl) ?_
  intro p e s m args below meth c Cx hr hlk hnm hW ls hl
  have Cx : sC G p m c cX10_shorten 2 s args RX10 := Cx
  obtain ⟨hx, hb, hml, hown, hts⟩ := id Cx.1
  have hL : sL G [] := sL_nil
  have hl : lv_has ls 2 [(0, .ref (G.2.2.1 + 1)), (1, .int p1)] := hl
  refine lv_iload_n hx hb dX10_shorten_0 rfl (lv_at hl 1 rfl) ?_
  refine lv_if_lt (tgt := 12) hx hb dX10_shorten_1 (by decide) (fun c1 => ?_) (fun c1 => ?_)
  · refine lv_iconst (v := 0) hx hb dX10_shorten_12 (by decide) ?_
    exact sZret Cx hr hlk hW hL (by decide) ⟨(show _ = endF p1 from (if_pos (Or.inl c1)).symm), rfl⟩ dX10_shorten_13
  · refine lv_iload_n hx hb dX10_shorten_4 rfl (lv_at hl 1 rfl) ?_
    refine lv_aload_n hx hb dX10_shorten_5 rfl (lv_at hl 0 rfl) ?_
    refine g_X10_21 Cx hW (k := 1) (by decide) rfl (v := 0) hI_1_1 dX10_shorten_6 ?_
    refine lv_icmp_le (tgt := 14) hx hb dX10_shorten_9 (by decide) (fun c2 => ?_) (fun c2 => ?_)
    · refine lv_aload_n hx hb dX10_shorten_14 rfl (lv_at hl 0 rfl) ?_
      refine lv_iload_n hx hb dX10_shorten_15 rfl (lv_at hl 1 rfl) ?_
      refine p_X10_21 Cx hW hL (k := 1) (by decide) rfl dX10_shorten_16 (fun H locs hW hL => ?_)
      refine lv_iconst (v := 1) hx hb dX10_shorten_19 (by decide) ?_
      exact sZret Cx hr hlk hW hL (by decide) ⟨(show _ = endF p1 from (if_neg (fun h => h.elim c1 (Int32.not_lt.mpr c2))).symm), sI_self (hI_1_1.trans (Int32.le_antisymm (Int32.not_lt.mp c1) c2))⟩ dX10_shorten_20
    · refine lv_iconst (v := 0) hx hb dX10_shorten_12 (by decide) ?_
      exact sZret Cx hr hlk hW hL (by decide) ⟨(show _ = endF p1 from (if_pos (Or.inr (Int32.not_le.mp c2))).symm), rfl⟩ dX10_shorten_13

set_option maxRecDepth 100000 in
set_option maxHeartbeats 4000000 in
theorem m_X11_end (l : Launch) (G : sG) (S : sS) (p1 : Int32) (hR_0_0 : S.2.2 0 0 = .ref (G.2.2.1 + 1)) (hI_1_1 : S.1 1 1 = 0) : Met l yX11_end (.code yX11_end cX11_end 2 (some .boolean) :: tb) (rmk 2 0 0) (sPc G 294 S [.ref (G.2.2.1 + 0), .int p1]) (sQi G 294 (fun r u => r = endF p1 ∧ u = S)) 0 0 (sF G) := by
  refine sEnter (by decide) (Nat.le_of_ble_eq_true rfl) ?_
  intro p e s m args below meth c Cx hr hlk hnm hW ls hl
  have Cx : sC G p m c cX11_end 2 s args RX11 := Cx
  obtain ⟨hx, hb, hml, hown, hts⟩ := id Cx.1
  have hL : sL G [] := sL_nil
  have hl : lv_has ls 2 [(0, .ref (G.2.2.1 + 0)), (1, .int p1)] := hl
  refine lv_aload_n hx hb dX11_end_0 rfl (lv_at hl 0 rfl) ?_
  refine g_X11_14 Cx hW (k := 0) (by decide) rfl (v := .ref (G.2.2.1 + 1)) hR_0_0 dX11_end_1 ?_
  refine lv_iload_n hx hb dX11_end_4 rfl (lv_at hl 1 rfl) ?_
  refine sBiE (sV (As := [.int p1]) (rest := []) (k := 1) Cx (t89_X10_shorten l G S (p1) hI_1_1) (c_X11_63 Cx rfl rfl ⟨Nat.le_of_ble_eq_true rfl, Nat.le_of_ble_eq_true rfl⟩) hW (by decide) rfl rfl rfl hl.1 rfl (Nat.le_of_ble_eq_true rfl) dX11_end_5 ⟨Nat.le_of_ble_eq_true rfl, Nat.le_of_ble_eq_true rfl⟩) hL (fun H locs hW hL => ?_)
  exact sZret Cx hr hlk hW hL (endF_n _) ⟨rfl, rfl⟩ dX11_end_8

set_option maxRecDepth 100000 in
set_option maxHeartbeats 4000000 in
theorem t91_X8_token (l : Launch) (G : sG) (S : sS)  (hI_12_3 : S.1 12 3 = 0) (hR_12_0 : S.2.2 12 0 = .ref (G.2.2.1 + 13)) (hR_12_1 : S.2.2 12 1 = .ref (G.2.2.1 + 14)) (hR_12_2 : S.2.2 12 2 = .ref (G.2.2.1 + 15)) : Met l yX8_token (.code yX8_token cX8_token 5 none :: tb) (rmk 1 0 0) (sPc G 294 S [.ref (G.2.2.1 + 12), .int 0, .int 0, .long 0]) (sQv G 294 (fun u => u = (sI (sJ (sI (sI S 13 0 0) 14 0 0) 15 0 0) 12 3 1))) 0 0 (sF G) := by
  refine sEnter (by decide) (Nat.le_of_ble_eq_true rfl) ?_
  intro p e s m args below meth c Cx hr hlk hnm hW ls hl
  have Cx : sC G p m c cX8_token 5 s args RX8 := Cx
  obtain ⟨hx, hb, hml, hown, hts⟩ := id Cx.1
  have hL : sL G [] := sL_nil
  have hl : lv_has ls 5 [(0, .ref (G.2.2.1 + 12)), (1, .int 0), (2, .int 0), (3, .long 0)] := hl
  refine lv_aload_n hx hb dX8_token_0 rfl (lv_at hl 0 rfl) ?_
  refine g_X8_22 Cx hW (k := 12) (by decide) rfl (v := 0) hI_12_3 dX8_token_1 ?_
  refine lv_aload_n hx hb dX8_token_4 rfl (lv_at hl 0 rfl) ?_
  refine g_X8_11 Cx hW (k := 12) (by decide) rfl (v := .ref (G.2.2.1 + 13)) hR_12_0 dX8_token_5 ?_
  refine sAlen Cx hW (k := 13) (N := 2001) (by decide) rfl 0 rfl (v := 2001) (by decide) dX8_token_8 ?_
  refine lv_icmp_ge (tgt := 52) hx hb dX8_token_9 (by decide) (fun c => absurd c (by decide)) (fun _ => ?_)
  refine lv_aload_n hx hb dX8_token_12 rfl (lv_at hl 0 rfl) ?_
  refine g_X8_11 Cx hW (k := 12) (by decide) rfl (v := .ref (G.2.2.1 + 13)) hR_12_0 dX8_token_13 ?_
  refine lv_aload_n hx hb dX8_token_16 rfl (lv_at hl 0 rfl) ?_
  refine g_X8_22 Cx hW (k := 12) (by decide) rfl (v := 0) hI_12_3 dX8_token_17 ?_
  refine lv_iload_n hx hb dX8_token_20 rfl (lv_at hl 1 rfl) ?_
  refine sIast Cx hW hL (k := 13) (N := 2001) (by decide) rfl (j := 0) (by decide) (vp_c (by decide)) dX8_token_21 (fun H locs hW hL => ?_)
  refine lv_aload_n hx hb dX8_token_22 rfl (lv_at hl 0 rfl) ?_
  refine g_X8_15 Cx hW (k := 12) (by decide) rfl (v := .ref (G.2.2.1 + 14)) hR_12_1 dX8_token_23 ?_
  refine lv_aload_n hx hb dX8_token_26 rfl (lv_at hl 0 rfl) ?_
  refine g_X8_22 Cx hW (k := 12) (by decide) rfl (v := 0) hI_12_3 dX8_token_27 ?_
  refine lv_iload_n hx hb dX8_token_30 rfl (lv_at hl 2 rfl) ?_
  refine sIast Cx hW hL (k := 14) (N := 2001) (by decide) rfl (j := 0) (by decide) (vp_c (by decide)) dX8_token_31 (fun H locs hW hL => ?_)
  refine lv_aload_n hx hb dX8_token_32 rfl (lv_at hl 0 rfl) ?_
  refine g_X8_18 Cx hW (k := 12) (by decide) rfl (v := .ref (G.2.2.1 + 15)) hR_12_2 dX8_token_33 ?_
  refine lv_aload_n hx hb dX8_token_36 rfl (lv_at hl 0 rfl) ?_
  refine g_X8_22 Cx hW (k := 12) (by decide) rfl (v := 0) hI_12_3 dX8_token_37 ?_
  refine lv_lload_n hx hb dX8_token_40 rfl (lv_at hl 3 rfl) ?_
  refine sLast Cx hW hL (k := 15) (N := 2001) (by decide) rfl (j := 0) (by decide) (vp_c (by decide)) dX8_token_41 (fun H locs hW hL => ?_)
  refine lv_aload_n hx hb dX8_token_42 rfl (lv_at hl 0 rfl) ?_
  refine lv_dup hx hb dX8_token_43 rfl ?_
  refine g_X8_22 Cx hW (k := 12) (by decide) rfl (v := 0) hI_12_3 dX8_token_44 ?_
  refine lv_iconst (v := 1) hx hb dX8_token_47 (by decide) ?_
  refine lv_iadd hx hb dX8_token_48 ?_
  refine sCi (v := 1) (by decide) ?_
  refine p_X8_22 Cx hW hL (k := 12) (by decide) rfl dX8_token_49 (fun H locs hW hL => ?_)
  exact sVret Cx hr hlk hW hL rfl dX8_token_52

set_option maxRecDepth 100000 in
set_option maxHeartbeats 4000000 in
theorem t92_X8_scan (l : Launch) (G : sG) (S : sS)  (hI_1_1 : S.1 1 1 = 0) (hR_12_0 : S.2.2 12 0 = .ref (G.2.2.1 + 13)) (hR_12_1 : S.2.2 12 1 = .ref (G.2.2.1 + 14)) (hR_12_2 : S.2.2 12 2 = .ref (G.2.2.1 + 15)) : Met l yX8_scan (.code yX8_scan cX8_scan 5 none :: tb) (rmk 2 0 0) (sPc G 294 S [.ref (G.2.2.1 + 12), .ref (G.2.2.1 + 1)]) (sQv G 294 (fun u => u = (sI (sJ (sI (sI (sI S 12 3 0) 13 0 0) 14 0 0) 15 0 0) 12 3 1))) 0 0 (sF G) := by
  refine sEnter (by decide) (Nat.le_of_ble_eq_true rfl) ?_
  intro p e s m args below meth c Cx hr hlk hnm hW ls hl
  have Cx : sC G p m c cX8_scan 5 s args RX8 := Cx
  obtain ⟨hx, hb, hml, hown, hts⟩ := id Cx.1
  have hL : sL G [] := sL_nil
  have hl : lv_has ls 5 [(0, .ref (G.2.2.1 + 12)), (1, .ref (G.2.2.1 + 1))] := hl
  refine lv_aload_n hx hb dX8_scan_0 rfl (lv_at hl 0 rfl) ?_
  refine lv_iconst (v := 0) hx hb dX8_scan_1 (by decide) ?_
  refine p_X8_22 Cx hW hL (k := 12) (by decide) rfl dX8_scan_2 (fun H locs hW hL => ?_)
  refine lv_aload_n hx hb dX8_scan_5 rfl (lv_at hl 1 rfl) ?_
  refine sBiE (sV (As := []) (rest := []) (k := 1) Cx (t61_X10_length l G (sI S 12 3 0) hI_1_1) (c_X8_33 Cx rfl rfl ⟨Nat.le_of_ble_eq_true rfl, Nat.le_of_ble_eq_true rfl⟩) hW (by decide) rfl rfl rfl hl.1 rfl (Nat.le_of_ble_eq_true rfl) dX8_scan_6 ⟨Nat.le_of_ble_eq_true rfl, Nat.le_of_ble_eq_true rfl⟩) hL (fun H locs hW hL => ?_)
  refine lv_sipush (v := 2000) hx hb dX8_scan_9 (by decide) ?_
  refine va_mmin hx hb (hml.trans hl.1.symm) hown (hts _ w_776) (hts _ w_777) (hts _ w_206) (hts _ w_778) (Nat.le_of_ble_eq_true rfl) (Nat.le_of_ble_eq_true rfl) (Nat.le_of_ble_eq_true rfl) (Nat.le_of_ble_eq_true rfl) dX8_scan_12 ?_
  refine sCi (v := 0) (by decide) ?_
  refine lv_istore_n (lv' := [(2, .int 0), (0, .ref (G.2.2.1 + 12)), (1, .ref (G.2.2.1 + 1))]) hx hb dX8_scan_15 rfl hl (by decide) rfl (fun ls hl => ?_)
  refine lv_iconst (v := 0) hx hb dX8_scan_16 (by decide) ?_
  refine lv_istore_n (lv' := [(3, .int 0), (2, .int 0), (0, .ref (G.2.2.1 + 12)), (1, .ref (G.2.2.1 + 1))]) hx hb dX8_scan_17 rfl hl (by decide) rfl (fun ls hl => ?_)
  refine lv_iconst (v := 0) hx hb dX8_scan_18 (by decide) ?_
  refine lv_istore (lv' := [(4, .int 0), (3, .int 0), (2, .int 0), (0, .ref (G.2.2.1 + 12)), (1, .ref (G.2.2.1 + 1))]) hx hb dX8_scan_19 hl (by decide) rfl (fun ls hl => ?_)
  refine lv_iload hx hb dX8_scan_21 (lv_at hl 0 rfl) ?_
  refine lv_sipush (v := 2000) hx hb dX8_scan_23 (by decide) ?_
  refine lv_icmp_ge (tgt := 70) hx hb dX8_scan_26 (by decide) (fun c => absurd c (by decide)) (fun _ => ?_)
  refine lv_iload_n hx hb dX8_scan_29 rfl (lv_at hl 1 rfl) ?_
  refine lv_iload_n hx hb dX8_scan_30 rfl (lv_at hl 2 rfl) ?_
  refine lv_icmp_ge (tgt := 70) hx hb dX8_scan_31 (by decide) (fun _ => ?_) (fun c => absurd (by decide) c)
  refine lv_aload_n hx hb dX8_scan_70 rfl (lv_at hl 3 rfl) ?_
  refine lv_iconst (v := 0) hx hb dX8_scan_71 (by decide) ?_
  refine lv_iload_n hx hb dX8_scan_72 rfl (lv_at hl 2 rfl) ?_
  refine lv_lconst (v := 0) hx hb dX8_scan_73 (by decide) ?_
  refine sBvE (sV (As := [.int 0, .int 0, .long 0]) (rest := []) (k := 12) Cx (t91_X8_token l G (sI S 12 3 0) rfl hR_12_0 hR_12_1 hR_12_2) (c_X8_49 Cx rfl rfl ⟨Nat.le_of_ble_eq_true rfl, Nat.le_of_ble_eq_true rfl⟩) hW (by decide) rfl rfl rfl hl.1 rfl (Nat.le_of_ble_eq_true rfl) dX8_scan_74 ⟨Nat.le_of_ble_eq_true rfl, Nat.le_of_ble_eq_true rfl⟩) hL (fun H locs hW hL => ?_)
  exact sVret Cx hr hlk hW hL rfl dX8_scan_77

set_option maxRecDepth 100000 in
set_option maxHeartbeats 4000000 in
theorem t93_X8_is (l : Launch) (G : sG) (S : sS)  (hI_12_4 : S.1 12 4 = 0) (hI_12_3 : S.1 12 3 = 1) (hR_12_0 : S.2.2 12 0 = .ref (G.2.2.1 + 13)) (hI_13_0 : S.1 13 0 = 0) : Met l yX8_is (.code yX8_is cX8_is 2 (some .boolean) :: tb) (rmk 1 0 0) (sPc G 294 S [.ref (G.2.2.1 + 12), .int 6]) (sQi G 294 (fun r u => r = 0 ∧ u = S)) 0 0 (sF G) := by
  refine sEnter (by decide) (Nat.le_of_ble_eq_true rfl) ?_
  intro p e s m args below meth c Cx hr hlk hnm hW ls hl
  have Cx : sC G p m c cX8_is 2 s args RX8 := Cx
  obtain ⟨hx, hb, hml, hown, hts⟩ := id Cx.1
  have hL : sL G [] := sL_nil
  have hl : lv_has ls 2 [(0, .ref (G.2.2.1 + 12)), (1, .int 6)] := hl
  refine lv_aload_n hx hb dX8_is_0 rfl (lv_at hl 0 rfl) ?_
  refine g_X8_26 Cx hW (k := 12) (by decide) rfl (v := 0) hI_12_4 dX8_is_1 ?_
  refine lv_aload_n hx hb dX8_is_4 rfl (lv_at hl 0 rfl) ?_
  refine g_X8_22 Cx hW (k := 12) (by decide) rfl (v := 1) hI_12_3 dX8_is_5 ?_
  refine lv_icmp_ge (tgt := 28) hx hb dX8_is_8 (by decide) (fun c => absurd c (by decide)) (fun _ => ?_)
  refine lv_aload_n hx hb dX8_is_11 rfl (lv_at hl 0 rfl) ?_
  refine g_X8_11 Cx hW (k := 12) (by decide) rfl (v := .ref (G.2.2.1 + 13)) hR_12_0 dX8_is_12 ?_
  refine lv_aload_n hx hb dX8_is_15 rfl (lv_at hl 0 rfl) ?_
  refine g_X8_26 Cx hW (k := 12) (by decide) rfl (v := 0) hI_12_4 dX8_is_16 ?_
  refine sIald Cx hW (k := 13) (N := 2001) (by decide) rfl (j := 0) (by decide) (vp_c (by decide)) (v := 0) hI_13_0 dX8_is_19 ?_
  refine lv_iload_n hx hb dX8_is_20 rfl (lv_at hl 1 rfl) ?_
  refine lv_icmp_ne (tgt := 28) hx hb dX8_is_21 (by decide) (fun _ => ?_) (fun c => absurd c (by decide))
  refine lv_iconst (v := 0) hx hb dX8_is_28 (by decide) ?_
  exact sZret Cx hr hlk hW hL (by decide) ⟨rfl, rfl⟩ dX8_is_29

set_option maxRecDepth 100000 in
set_option maxHeartbeats 4000000 in
theorem t94_X8_is (l : Launch) (G : sG) (S : sS)  (hI_12_4 : S.1 12 4 = 0) (hI_12_3 : S.1 12 3 = 1) (hR_12_0 : S.2.2 12 0 = .ref (G.2.2.1 + 13)) (hI_13_0 : S.1 13 0 = 0) : Met l yX8_is (.code yX8_is cX8_is 2 (some .boolean) :: tb) (rmk 1 0 0) (sPc G 294 S [.ref (G.2.2.1 + 12), .int 7]) (sQi G 294 (fun r u => r = 0 ∧ u = S)) 0 0 (sF G) := by
  refine sEnter (by decide) (Nat.le_of_ble_eq_true rfl) ?_
  intro p e s m args below meth c Cx hr hlk hnm hW ls hl
  have Cx : sC G p m c cX8_is 2 s args RX8 := Cx
  obtain ⟨hx, hb, hml, hown, hts⟩ := id Cx.1
  have hL : sL G [] := sL_nil
  have hl : lv_has ls 2 [(0, .ref (G.2.2.1 + 12)), (1, .int 7)] := hl
  refine lv_aload_n hx hb dX8_is_0 rfl (lv_at hl 0 rfl) ?_
  refine g_X8_26 Cx hW (k := 12) (by decide) rfl (v := 0) hI_12_4 dX8_is_1 ?_
  refine lv_aload_n hx hb dX8_is_4 rfl (lv_at hl 0 rfl) ?_
  refine g_X8_22 Cx hW (k := 12) (by decide) rfl (v := 1) hI_12_3 dX8_is_5 ?_
  refine lv_icmp_ge (tgt := 28) hx hb dX8_is_8 (by decide) (fun c => absurd c (by decide)) (fun _ => ?_)
  refine lv_aload_n hx hb dX8_is_11 rfl (lv_at hl 0 rfl) ?_
  refine g_X8_11 Cx hW (k := 12) (by decide) rfl (v := .ref (G.2.2.1 + 13)) hR_12_0 dX8_is_12 ?_
  refine lv_aload_n hx hb dX8_is_15 rfl (lv_at hl 0 rfl) ?_
  refine g_X8_26 Cx hW (k := 12) (by decide) rfl (v := 0) hI_12_4 dX8_is_16 ?_
  refine sIald Cx hW (k := 13) (N := 2001) (by decide) rfl (j := 0) (by decide) (vp_c (by decide)) (v := 0) hI_13_0 dX8_is_19 ?_
  refine lv_iload_n hx hb dX8_is_20 rfl (lv_at hl 1 rfl) ?_
  refine lv_icmp_ne (tgt := 28) hx hb dX8_is_21 (by decide) (fun _ => ?_) (fun c => absurd c (by decide))
  refine lv_iconst (v := 0) hx hb dX8_is_28 (by decide) ?_
  exact sZret Cx hr hlk hW hL (by decide) ⟨rfl, rfl⟩ dX8_is_29

set_option maxRecDepth 100000 in
set_option maxHeartbeats 4000000 in
theorem t95_X8_is (l : Launch) (G : sG) (S : sS)  (hI_12_4 : S.1 12 4 = 0) (hI_12_3 : S.1 12 3 = 1) (hR_12_0 : S.2.2 12 0 = .ref (G.2.2.1 + 13)) (hI_13_0 : S.1 13 0 = 0) : Met l yX8_is (.code yX8_is cX8_is 2 (some .boolean) :: tb) (rmk 1 0 0) (sPc G 294 S [.ref (G.2.2.1 + 12), .int 8]) (sQi G 294 (fun r u => r = 0 ∧ u = S)) 0 0 (sF G) := by
  refine sEnter (by decide) (Nat.le_of_ble_eq_true rfl) ?_
  intro p e s m args below meth c Cx hr hlk hnm hW ls hl
  have Cx : sC G p m c cX8_is 2 s args RX8 := Cx
  obtain ⟨hx, hb, hml, hown, hts⟩ := id Cx.1
  have hL : sL G [] := sL_nil
  have hl : lv_has ls 2 [(0, .ref (G.2.2.1 + 12)), (1, .int 8)] := hl
  refine lv_aload_n hx hb dX8_is_0 rfl (lv_at hl 0 rfl) ?_
  refine g_X8_26 Cx hW (k := 12) (by decide) rfl (v := 0) hI_12_4 dX8_is_1 ?_
  refine lv_aload_n hx hb dX8_is_4 rfl (lv_at hl 0 rfl) ?_
  refine g_X8_22 Cx hW (k := 12) (by decide) rfl (v := 1) hI_12_3 dX8_is_5 ?_
  refine lv_icmp_ge (tgt := 28) hx hb dX8_is_8 (by decide) (fun c => absurd c (by decide)) (fun _ => ?_)
  refine lv_aload_n hx hb dX8_is_11 rfl (lv_at hl 0 rfl) ?_
  refine g_X8_11 Cx hW (k := 12) (by decide) rfl (v := .ref (G.2.2.1 + 13)) hR_12_0 dX8_is_12 ?_
  refine lv_aload_n hx hb dX8_is_15 rfl (lv_at hl 0 rfl) ?_
  refine g_X8_26 Cx hW (k := 12) (by decide) rfl (v := 0) hI_12_4 dX8_is_16 ?_
  refine sIald Cx hW (k := 13) (N := 2001) (by decide) rfl (j := 0) (by decide) (vp_c (by decide)) (v := 0) hI_13_0 dX8_is_19 ?_
  refine lv_iload_n hx hb dX8_is_20 rfl (lv_at hl 1 rfl) ?_
  refine lv_icmp_ne (tgt := 28) hx hb dX8_is_21 (by decide) (fun _ => ?_) (fun c => absurd c (by decide))
  refine lv_iconst (v := 0) hx hb dX8_is_28 (by decide) ?_
  exact sZret Cx hr hlk hW hL (by decide) ⟨rfl, rfl⟩ dX8_is_29

set_option maxRecDepth 100000 in
set_option maxHeartbeats 4000000 in
theorem t96_X8_is (l : Launch) (G : sG) (S : sS)  (hI_12_4 : S.1 12 4 = 0) (hI_12_3 : S.1 12 3 = 1) (hR_12_0 : S.2.2 12 0 = .ref (G.2.2.1 + 13)) (hI_13_0 : S.1 13 0 = 0) : Met l yX8_is (.code yX8_is cX8_is 2 (some .boolean) :: tb) (rmk 1 0 0) (sPc G 294 S [.ref (G.2.2.1 + 12), .int 4]) (sQi G 294 (fun r u => r = 0 ∧ u = S)) 0 0 (sF G) := by
  refine sEnter (by decide) (Nat.le_of_ble_eq_true rfl) ?_
  intro p e s m args below meth c Cx hr hlk hnm hW ls hl
  have Cx : sC G p m c cX8_is 2 s args RX8 := Cx
  obtain ⟨hx, hb, hml, hown, hts⟩ := id Cx.1
  have hL : sL G [] := sL_nil
  have hl : lv_has ls 2 [(0, .ref (G.2.2.1 + 12)), (1, .int 4)] := hl
  refine lv_aload_n hx hb dX8_is_0 rfl (lv_at hl 0 rfl) ?_
  refine g_X8_26 Cx hW (k := 12) (by decide) rfl (v := 0) hI_12_4 dX8_is_1 ?_
  refine lv_aload_n hx hb dX8_is_4 rfl (lv_at hl 0 rfl) ?_
  refine g_X8_22 Cx hW (k := 12) (by decide) rfl (v := 1) hI_12_3 dX8_is_5 ?_
  refine lv_icmp_ge (tgt := 28) hx hb dX8_is_8 (by decide) (fun c => absurd c (by decide)) (fun _ => ?_)
  refine lv_aload_n hx hb dX8_is_11 rfl (lv_at hl 0 rfl) ?_
  refine g_X8_11 Cx hW (k := 12) (by decide) rfl (v := .ref (G.2.2.1 + 13)) hR_12_0 dX8_is_12 ?_
  refine lv_aload_n hx hb dX8_is_15 rfl (lv_at hl 0 rfl) ?_
  refine g_X8_26 Cx hW (k := 12) (by decide) rfl (v := 0) hI_12_4 dX8_is_16 ?_
  refine sIald Cx hW (k := 13) (N := 2001) (by decide) rfl (j := 0) (by decide) (vp_c (by decide)) (v := 0) hI_13_0 dX8_is_19 ?_
  refine lv_iload_n hx hb dX8_is_20 rfl (lv_at hl 1 rfl) ?_
  refine lv_icmp_ne (tgt := 28) hx hb dX8_is_21 (by decide) (fun _ => ?_) (fun c => absurd c (by decide))
  refine lv_iconst (v := 0) hx hb dX8_is_28 (by decide) ?_
  exact sZret Cx hr hlk hW hL (by decide) ⟨rfl, rfl⟩ dX8_is_29

set_option maxRecDepth 100000 in
set_option maxHeartbeats 4000000 in
theorem t97_X8_is (l : Launch) (G : sG) (S : sS)  (hI_12_4 : S.1 12 4 = 0) (hI_12_3 : S.1 12 3 = 1) (hR_12_0 : S.2.2 12 0 = .ref (G.2.2.1 + 13)) (hI_13_0 : S.1 13 0 = 0) : Met l yX8_is (.code yX8_is cX8_is 2 (some .boolean) :: tb) (rmk 1 0 0) (sPc G 294 S [.ref (G.2.2.1 + 12), .int 5]) (sQi G 294 (fun r u => r = 0 ∧ u = S)) 0 0 (sF G) := by
  refine sEnter (by decide) (Nat.le_of_ble_eq_true rfl) ?_
  intro p e s m args below meth c Cx hr hlk hnm hW ls hl
  have Cx : sC G p m c cX8_is 2 s args RX8 := Cx
  obtain ⟨hx, hb, hml, hown, hts⟩ := id Cx.1
  have hL : sL G [] := sL_nil
  have hl : lv_has ls 2 [(0, .ref (G.2.2.1 + 12)), (1, .int 5)] := hl
  refine lv_aload_n hx hb dX8_is_0 rfl (lv_at hl 0 rfl) ?_
  refine g_X8_26 Cx hW (k := 12) (by decide) rfl (v := 0) hI_12_4 dX8_is_1 ?_
  refine lv_aload_n hx hb dX8_is_4 rfl (lv_at hl 0 rfl) ?_
  refine g_X8_22 Cx hW (k := 12) (by decide) rfl (v := 1) hI_12_3 dX8_is_5 ?_
  refine lv_icmp_ge (tgt := 28) hx hb dX8_is_8 (by decide) (fun c => absurd c (by decide)) (fun _ => ?_)
  refine lv_aload_n hx hb dX8_is_11 rfl (lv_at hl 0 rfl) ?_
  refine g_X8_11 Cx hW (k := 12) (by decide) rfl (v := .ref (G.2.2.1 + 13)) hR_12_0 dX8_is_12 ?_
  refine lv_aload_n hx hb dX8_is_15 rfl (lv_at hl 0 rfl) ?_
  refine g_X8_26 Cx hW (k := 12) (by decide) rfl (v := 0) hI_12_4 dX8_is_16 ?_
  refine sIald Cx hW (k := 13) (N := 2001) (by decide) rfl (j := 0) (by decide) (vp_c (by decide)) (v := 0) hI_13_0 dX8_is_19 ?_
  refine lv_iload_n hx hb dX8_is_20 rfl (lv_at hl 1 rfl) ?_
  refine lv_icmp_ne (tgt := 28) hx hb dX8_is_21 (by decide) (fun _ => ?_) (fun c => absurd c (by decide))
  refine lv_iconst (v := 0) hx hb dX8_is_28 (by decide) ?_
  exact sZret Cx hr hlk hW hL (by decide) ⟨rfl, rfl⟩ dX8_is_29

set_option maxRecDepth 100000 in
set_option maxHeartbeats 4000000 in
theorem t98_X8_isProgram (l : Launch) (G : sG) (S : sS)  (hI_12_3 : S.1 12 3 = 1) (hR_12_0 : S.2.2 12 0 = .ref (G.2.2.1 + 13)) (hI_13_0 : S.1 13 0 = 0) : Met l yX8_isProgram (.code yX8_isProgram cX8_isProgram 2 (some .boolean) :: tb) (rmk 2 0 0) (sPc G 294 S [.ref (G.2.2.1 + 12)]) (sQi G 294 (fun r u => r = 0 ∧ u = (sI S 12 4 0))) 0 0 (sF G) := by
  refine sEnter (by decide) (Nat.le_of_ble_eq_true rfl) ?_
  intro p e s m args below meth c Cx hr hlk hnm hW ls hl
  have Cx : sC G p m c cX8_isProgram 2 s args RX8 := Cx
  obtain ⟨hx, hb, hml, hown, hts⟩ := id Cx.1
  have hL : sL G [] := sL_nil
  have hl : lv_has ls 2 [(0, .ref (G.2.2.1 + 12))] := hl
  refine lv_aload_n hx hb dX8_isProgram_0 rfl (lv_at hl 0 rfl) ?_
  refine lv_iconst (v := 0) hx hb dX8_isProgram_1 (by decide) ?_
  refine p_X8_26 Cx hW hL (k := 12) (by decide) rfl dX8_isProgram_2 (fun H locs hW hL => ?_)
  refine lv_iconst (v := 0) hx hb dX8_isProgram_5 (by decide) ?_
  refine lv_istore_n (lv' := [(1, .int 0), (0, .ref (G.2.2.1 + 12))]) hx hb dX8_isProgram_6 rfl hl (by decide) rfl (fun ls hl => ?_)
  refine lv_iload_n hx hb dX8_isProgram_7 rfl (lv_at hl 0 rfl) ?_
  refine lv_aload_n hx hb dX8_isProgram_8 rfl (lv_at hl 1 rfl) ?_
  refine g_X8_22 Cx hW (k := 12) (by decide) rfl (v := 1) hI_12_3 dX8_isProgram_9 ?_
  refine lv_icmp_ge (tgt := 57) hx hb dX8_isProgram_12 (by decide) (fun c => absurd c (by decide)) (fun _ => ?_)
  refine lv_aload_n hx hb dX8_isProgram_15 rfl (lv_at hl 1 rfl) ?_
  refine lv_bipush (v := 6) hx hb dX8_isProgram_16 (by decide) ?_
  refine sBiE (sV (As := [.int 6]) (rest := []) (k := 12) Cx (t93_X8_is l G (sI S 12 4 0) rfl hI_12_3 hR_12_0 hI_13_0) (c_X8_82 Cx rfl rfl ⟨Nat.le_of_ble_eq_true rfl, Nat.le_of_ble_eq_true rfl⟩) hW (by decide) rfl rfl rfl hl.1 rfl (Nat.le_of_ble_eq_true rfl) dX8_isProgram_18 ⟨Nat.le_of_ble_eq_true rfl, Nat.le_of_ble_eq_true rfl⟩) hL (fun H locs hW hL => ?_)
  refine lv_if_ne (tgt := 42) hx hb dX8_isProgram_21 (by decide) (fun c => absurd (by decide) c) (fun _ => ?_)
  refine lv_aload_n hx hb dX8_isProgram_24 rfl (lv_at hl 1 rfl) ?_
  refine lv_bipush (v := 7) hx hb dX8_isProgram_25 (by decide) ?_
  refine sBiE (sV (As := [.int 7]) (rest := []) (k := 12) Cx (t94_X8_is l G (sI S 12 4 0) rfl hI_12_3 hR_12_0 hI_13_0) (c_X8_82 Cx rfl rfl ⟨Nat.le_of_ble_eq_true rfl, Nat.le_of_ble_eq_true rfl⟩) hW (by decide) rfl rfl rfl hl.1 rfl (Nat.le_of_ble_eq_true rfl) dX8_isProgram_27 ⟨Nat.le_of_ble_eq_true rfl, Nat.le_of_ble_eq_true rfl⟩) hL (fun H locs hW hL => ?_)
  refine lv_if_ne (tgt := 42) hx hb dX8_isProgram_30 (by decide) (fun c => absurd (by decide) c) (fun _ => ?_)
  refine lv_aload_n hx hb dX8_isProgram_33 rfl (lv_at hl 1 rfl) ?_
  refine lv_bipush (v := 8) hx hb dX8_isProgram_34 (by decide) ?_
  refine sBiE (sV (As := [.int 8]) (rest := []) (k := 12) Cx (t95_X8_is l G (sI S 12 4 0) rfl hI_12_3 hR_12_0 hI_13_0) (c_X8_82 Cx rfl rfl ⟨Nat.le_of_ble_eq_true rfl, Nat.le_of_ble_eq_true rfl⟩) hW (by decide) rfl rfl rfl hl.1 rfl (Nat.le_of_ble_eq_true rfl) dX8_isProgram_36 ⟨Nat.le_of_ble_eq_true rfl, Nat.le_of_ble_eq_true rfl⟩) hL (fun H locs hW hL => ?_)
  refine lv_if_eq (tgt := 57) hx hb dX8_isProgram_39 (by decide) (fun _ => ?_) (fun c => absurd (by decide) c)
  refine lv_aload_n hx hb dX8_isProgram_57 rfl (lv_at hl 1 rfl) ?_
  refine lv_iconst (v := 4) hx hb dX8_isProgram_58 (by decide) ?_
  refine sBiE (sV (As := [.int 4]) (rest := []) (k := 12) Cx (t96_X8_is l G (sI S 12 4 0) rfl hI_12_3 hR_12_0 hI_13_0) (c_X8_82 Cx rfl rfl ⟨Nat.le_of_ble_eq_true rfl, Nat.le_of_ble_eq_true rfl⟩) hW (by decide) rfl rfl rfl hl.1 rfl (Nat.le_of_ble_eq_true rfl) dX8_isProgram_59 ⟨Nat.le_of_ble_eq_true rfl, Nat.le_of_ble_eq_true rfl⟩) hL (fun H locs hW hL => ?_)
  refine lv_if_ne (tgt := 75) hx hb dX8_isProgram_62 (by decide) (fun c => absurd (by decide) c) (fun _ => ?_)
  refine lv_aload_n hx hb dX8_isProgram_65 rfl (lv_at hl 1 rfl) ?_
  refine lv_iconst (v := 5) hx hb dX8_isProgram_66 (by decide) ?_
  refine sBiE (sV (As := [.int 5]) (rest := []) (k := 12) Cx (t97_X8_is l G (sI S 12 4 0) rfl hI_12_3 hR_12_0 hI_13_0) (c_X8_82 Cx rfl rfl ⟨Nat.le_of_ble_eq_true rfl, Nat.le_of_ble_eq_true rfl⟩) hW (by decide) rfl rfl rfl hl.1 rfl (Nat.le_of_ble_eq_true rfl) dX8_isProgram_67 ⟨Nat.le_of_ble_eq_true rfl, Nat.le_of_ble_eq_true rfl⟩) hL (fun H locs hW hL => ?_)
  refine lv_if_ne (tgt := 75) hx hb dX8_isProgram_70 (by decide) (fun c => absurd (by decide) c) (fun _ => ?_)
  refine lv_iconst (v := 0) hx hb dX8_isProgram_73 (by decide) ?_
  exact sZret Cx hr hlk hW hL (by decide) ⟨rfl, rfl⟩ dX8_isProgram_74

set_option maxRecDepth 100000 in
set_option maxHeartbeats 4000000 in
theorem t99_X8_start (l : Launch) (G : sG) (S : sS)  (hI_12_3 : S.1 12 3 = 1) (hR_12_1 : S.2.2 12 1 = .ref (G.2.2.1 + 14)) (hI_14_0 : S.1 14 0 = 0) : Met l yX8_start (.code yX8_start cX8_start 2 (some .int) :: tb) (rmk 1 0 0) (sPc G 294 S [.ref (G.2.2.1 + 12), .int 0]) (sQi G 294 (fun r u => r = 0 ∧ u = S)) 0 0 (sF G) := by
  refine sEnter (by decide) (Nat.le_of_ble_eq_true rfl) ?_
  intro p e s m args below meth c Cx hr hlk hnm hW ls hl
  have Cx : sC G p m c cX8_start 2 s args RX8 := Cx
  obtain ⟨hx, hb, hml, hown, hts⟩ := id Cx.1
  have hL : sL G [] := sL_nil
  have hl : lv_has ls 2 [(0, .ref (G.2.2.1 + 12)), (1, .int 0)] := hl
  refine lv_iload_n hx hb dX8_start_0 rfl (lv_at hl 1 rfl) ?_
  refine lv_if_lt (tgt := 21) hx hb dX8_start_1 (by decide) (fun c => absurd c (by decide)) (fun _ => ?_)
  refine lv_iload_n hx hb dX8_start_4 rfl (lv_at hl 1 rfl) ?_
  refine lv_aload_n hx hb dX8_start_5 rfl (lv_at hl 0 rfl) ?_
  refine g_X8_22 Cx hW (k := 12) (by decide) rfl (v := 1) hI_12_3 dX8_start_6 ?_
  refine lv_icmp_ge (tgt := 21) hx hb dX8_start_9 (by decide) (fun c => absurd c (by decide)) (fun _ => ?_)
  refine lv_aload_n hx hb dX8_start_12 rfl (lv_at hl 0 rfl) ?_
  refine g_X8_15 Cx hW (k := 12) (by decide) rfl (v := .ref (G.2.2.1 + 14)) hR_12_1 dX8_start_13 ?_
  refine lv_iload_n hx hb dX8_start_16 rfl (lv_at hl 1 rfl) ?_
  refine sIald Cx hW (k := 14) (N := 2001) (by decide) rfl (j := 0) (by decide) (vp_c (by decide)) (v := 0) hI_14_0 dX8_start_17 ?_
  refine lv_goto (tgt := 22) hx hb dX8_start_18 (by decide) ?_
  exact sIret Cx hr hlk hW hL ⟨rfl, rfl⟩ dX8_start_22

set_option maxRecDepth 100000 in
set_option maxHeartbeats 4000000 in
theorem t100_X8_stopPlace (l : Launch) (G : sG) (S : sS)  (hI_12_4 : S.1 12 4 = 0) (hI_12_3 : S.1 12 3 = 1) (hR_12_1 : S.2.2 12 1 = .ref (G.2.2.1 + 14)) (hI_14_0 : S.1 14 0 = 0) : Met l yX8_stopPlace (.code yX8_stopPlace cX8_stopPlace 1 (some .int) :: tb) (rmk 2 0 0) (sPc G 294 S [.ref (G.2.2.1 + 12)]) (sQi G 294 (fun r u => r = 0 ∧ u = S)) 0 0 (sF G) := by
  refine sEnter (by decide) (Nat.le_of_ble_eq_true rfl) ?_
  intro p e s m args below meth c Cx hr hlk hnm hW ls hl
  have Cx : sC G p m c cX8_stopPlace 1 s args RX8 := Cx
  obtain ⟨hx, hb, hml, hown, hts⟩ := id Cx.1
  have hL : sL G [] := sL_nil
  have hl : lv_has ls 1 [(0, .ref (G.2.2.1 + 12))] := hl
  refine lv_aload_n hx hb dX8_stopPlace_0 rfl (lv_at hl 0 rfl) ?_
  refine lv_aload_n hx hb dX8_stopPlace_1 rfl (lv_at hl 0 rfl) ?_
  refine g_X8_26 Cx hW (k := 12) (by decide) rfl (v := 0) hI_12_4 dX8_stopPlace_2 ?_
  refine sBiE (sV (As := [.int 0]) (rest := []) (k := 12) Cx (t99_X8_start l G S hI_12_3 hR_12_1 hI_14_0) (c_X8_29 Cx rfl rfl ⟨Nat.le_of_ble_eq_true rfl, Nat.le_of_ble_eq_true rfl⟩) hW (by decide) rfl rfl rfl hl.1 rfl (Nat.le_of_ble_eq_true rfl) dX8_stopPlace_5 ⟨Nat.le_of_ble_eq_true rfl, Nat.le_of_ble_eq_true rfl⟩) hL (fun H locs hW hL => ?_)
  exact sIret Cx hr hlk hW hL ⟨rfl, rfl⟩ dX8_stopPlace_8

set_option maxRecDepth 100000 in
set_option maxHeartbeats 4000000 in
theorem t101_X9_read (l : Launch) (G : sG) (S : sS)  (hI_1_1 : S.1 1 1 = 0) (hR_11_0 : S.2.2 11 0 = .ref (G.2.2.1 + 12)) (hR_12_0 : S.2.2 12 0 = .ref (G.2.2.1 + 13)) (hR_12_1 : S.2.2 12 1 = .ref (G.2.2.1 + 14)) (hR_12_2 : S.2.2 12 2 = .ref (G.2.2.1 + 15)) : Met l yX9_read (.code yX9_read cX9_read 5 (some .int) :: tb) (rmk 3 0 0) (sPc G 294 S [.ref (G.2.2.1 + 11), .ref (G.2.2.1 + 1), .ref (G.2.2.1 + 8)]) (sQi G 294 (fun r u => r = 1 ∧ u = (sI (sI (sI (sI (sJ (sI (sI (sI (sI (sI S 11 14 0) 11 16 ((-1))) 12 3 0) 13 0 0) 14 0 0) 15 0 0) 12 3 1) 12 4 0) 11 14 1) 11 16 0))) 0 0 (sF G) := by
  refine sEnter (by decide) (Nat.le_of_ble_eq_true rfl) ?_
  intro p e s m args below meth c Cx hr hlk hnm hW ls hl
  have Cx : sC G p m c cX9_read 5 s args RX9 := Cx
  obtain ⟨hx, hb, hml, hown, hts⟩ := id Cx.1
  have hL : sL G [] := sL_nil
  have hl : lv_has ls 5 [(0, .ref (G.2.2.1 + 11)), (1, .ref (G.2.2.1 + 1)), (2, .ref (G.2.2.1 + 8))] := hl
  refine lv_aload_n hx hb dX9_read_0 rfl (lv_at hl 0 rfl) ?_
  refine lv_iconst (v := 0) hx hb dX9_read_1 (by decide) ?_
  refine p_X9_54 Cx hW hL (k := 11) (by decide) rfl dX9_read_2 (fun H locs hW hL => ?_)
  refine lv_aload_n hx hb dX9_read_5 rfl (lv_at hl 0 rfl) ?_
  refine lv_iconst (v := (-1)) hx hb dX9_read_6 (by decide) ?_
  refine p_X9_50 Cx hW hL (k := 11) (by decide) rfl dX9_read_7 (fun H locs hW hL => ?_)
  refine lv_aload_n hx hb dX9_read_10 rfl (lv_at hl 1 rfl) ?_
  refine sBiE (sV (As := []) (rest := []) (k := 1) Cx (t61_X10_length l G (sI (sI S 11 14 0) 11 16 ((-1))) hI_1_1) (c_X9_57 Cx rfl rfl ⟨Nat.le_of_ble_eq_true rfl, Nat.le_of_ble_eq_true rfl⟩) hW (by decide) rfl rfl rfl hl.1 rfl (Nat.le_of_ble_eq_true rfl) dX9_read_11 ⟨Nat.le_of_ble_eq_true rfl, Nat.le_of_ble_eq_true rfl⟩) hL (fun H locs hW hL => ?_)
  refine lv_sipush (v := 2000) hx hb dX9_read_14 (by decide) ?_
  refine lv_icmp_le (tgt := 37) hx hb dX9_read_17 (by decide) (fun _ => ?_) (fun c => absurd (by decide) c)
  refine lv_aload_n hx hb dX9_read_37 rfl (lv_at hl 0 rfl) ?_
  refine g_X9_14 Cx hW (k := 11) (by decide) rfl (v := .ref (G.2.2.1 + 12)) hR_11_0 dX9_read_38 ?_
  refine lv_aload_n hx hb dX9_read_41 rfl (lv_at hl 1 rfl) ?_
  refine sBvE (sV (As := [.ref (G.2.2.1 + 1)]) (rest := []) (k := 12) Cx (t92_X8_scan l G (sI (sI S 11 14 0) 11 16 ((-1))) hI_1_1 hR_12_0 hR_12_1 hR_12_2) (c_X9_63 Cx rfl rfl ⟨Nat.le_of_ble_eq_true rfl, Nat.le_of_ble_eq_true rfl⟩) hW (by decide) rfl rfl rfl hl.1 rfl (Nat.le_of_ble_eq_true rfl) dX9_read_42 ⟨Nat.le_of_ble_eq_true rfl, Nat.le_of_ble_eq_true rfl⟩) hL (fun H locs hW hL => ?_)
  refine lv_aload_n hx hb dX9_read_45 rfl (lv_at hl 0 rfl) ?_
  refine g_X9_14 Cx hW (k := 11) (by decide) rfl (v := .ref (G.2.2.1 + 12)) hR_11_0 dX9_read_46 ?_
  refine sBiE (sV (As := []) (rest := []) (k := 12) Cx (t98_X8_isProgram l G (sI (sJ (sI (sI (sI (sI (sI S 11 14 0) 11 16 ((-1))) 12 3 0) 13 0 0) 14 0 0) 15 0 0) 12 3 1) rfl hR_12_0 rfl) (c_X9_67 Cx rfl rfl ⟨Nat.le_of_ble_eq_true rfl, Nat.le_of_ble_eq_true rfl⟩) hW (by decide) rfl rfl rfl hl.1 rfl (Nat.le_of_ble_eq_true rfl) dX9_read_49 ⟨Nat.le_of_ble_eq_true rfl, Nat.le_of_ble_eq_true rfl⟩) hL (fun H locs hW hL => ?_)
  refine lv_if_ne (tgt := 76) hx hb dX9_read_52 (by decide) (fun c => absurd (by decide) c) (fun _ => ?_)
  refine lv_aload_n hx hb dX9_read_55 rfl (lv_at hl 0 rfl) ?_
  refine lv_iconst (v := 1) hx hb dX9_read_56 (by decide) ?_
  refine p_X9_54 Cx hW hL (k := 11) (by decide) rfl dX9_read_57 (fun H locs hW hL => ?_)
  refine lv_aload_n hx hb dX9_read_60 rfl (lv_at hl 0 rfl) ?_
  refine lv_aload_n hx hb dX9_read_61 rfl (lv_at hl 0 rfl) ?_
  refine g_X9_14 Cx hW (k := 11) (by decide) rfl (v := .ref (G.2.2.1 + 12)) hR_11_0 dX9_read_62 ?_
  refine sBiE (sV (As := []) (rest := [.ref (G.2.2.1 + 11)]) (k := 12) Cx (t100_X8_stopPlace l G (sI (sI (sI (sJ (sI (sI (sI (sI (sI S 11 14 0) 11 16 ((-1))) 12 3 0) 13 0 0) 14 0 0) 15 0 0) 12 3 1) 12 4 0) 11 14 1) rfl rfl hR_12_1 rfl) (c_X9_71 Cx rfl rfl ⟨Nat.le_of_ble_eq_true rfl, Nat.le_of_ble_eq_true rfl⟩) hW (by decide) rfl rfl rfl hl.1 rfl (Nat.le_of_ble_eq_true rfl) dX9_read_65 ⟨Nat.le_of_ble_eq_true rfl, Nat.le_of_ble_eq_true rfl⟩) hL (fun H locs hW hL => ?_)
  refine p_X9_50 Cx hW hL (k := 11) (by decide) rfl dX9_read_68 (fun H locs hW hL => ?_)
  refine lv_aload_n hx hb dX9_read_71 rfl (lv_at hl 0 rfl) ?_
  refine g_X9_54 Cx hW (k := 11) (by decide) rfl (v := 1) rfl dX9_read_72 ?_
  exact sIret Cx hr hlk hW hL ⟨rfl, rfl⟩ dX9_read_75

set_option maxRecDepth 100000 in
set_option maxHeartbeats 4000000 in
theorem t102_X9_faultPlace (l : Launch) (G : sG) (S : sS)  (hI_11_16 : S.1 11 16 = 0) : Met l yX9_faultPlace (.code yX9_faultPlace cX9_faultPlace 1 (some .int) :: tb) (rmk 1 0 0) (sPc G 294 S [.ref (G.2.2.1 + 11)]) (sQi G 294 (fun r u => r = 0 ∧ u = S)) 0 0 (sF G) := by
  refine sEnter (by decide) (Nat.le_of_ble_eq_true rfl) ?_
  intro p e s m args below meth c Cx hr hlk hnm hW ls hl
  have Cx : sC G p m c cX9_faultPlace 1 s args RX9 := Cx
  obtain ⟨hx, hb, hml, hown, hts⟩ := id Cx.1
  have hL : sL G [] := sL_nil
  have hl : lv_has ls 1 [(0, .ref (G.2.2.1 + 11))] := hl
  refine lv_aload_n hx hb dX9_faultPlace_0 rfl (lv_at hl 0 rfl) ?_
  refine g_X9_50 Cx hW (k := 11) (by decide) rfl (v := 0) hI_11_16 dX9_faultPlace_1 ?_
  exact sIret Cx hr hlk hW hL ⟨rfl, rfl⟩ dX9_faultPlace_4

set_option maxRecDepth 100000 in
set_option maxHeartbeats 4000000 in
theorem t103_X10_clear (l : Launch) (G : sG) (S : sS)   : Met l yX10_clear (.code yX10_clear cX10_clear 1 none :: tb) (rmk 1 0 0) (sPc G 294 S [.ref (G.2.2.1 + 1)]) (sQv G 294 (fun u => u = (sI (sI S 1 1 0) 1 2 0))) 0 0 (sF G) := by
  refine sEnter (by decide) (Nat.le_of_ble_eq_true rfl) ?_
  intro p e s m args below meth c Cx hr hlk hnm hW ls hl
  have Cx : sC G p m c cX10_clear 1 s args RX10 := Cx
  obtain ⟨hx, hb, hml, hown, hts⟩ := id Cx.1
  have hL : sL G [] := sL_nil
  have hl : lv_has ls 1 [(0, .ref (G.2.2.1 + 1))] := hl
  refine lv_aload_n hx hb dX10_clear_0 rfl (lv_at hl 0 rfl) ?_
  refine lv_iconst (v := 0) hx hb dX10_clear_1 (by decide) ?_
  refine p_X10_21 Cx hW hL (k := 1) (by decide) rfl dX10_clear_2 (fun H locs hW hL => ?_)
  refine lv_aload_n hx hb dX10_clear_5 rfl (lv_at hl 0 rfl) ?_
  refine lv_iconst (v := 0) hx hb dX10_clear_6 (by decide) ?_
  refine p_X10_25 Cx hW hL (k := 1) (by decide) rfl (by decide) (by decide) dX10_clear_7 (fun H locs hW hL => ?_)
  exact sVret Cx hr hlk hW hL rfl dX10_clear_10

set_option maxRecDepth 100000 in
set_option maxHeartbeats 4000000 in
theorem m_X11_tell (l : Launch) (G : sG) (S : sS)  (hR_0_2 : S.2.2 0 2 = .ref (G.2.2.1 + 11)) (hR_0_0 : S.2.2 0 0 = .ref (G.2.2.1 + 1)) (hR_0_6 : S.2.2 0 6 = .ref (G.2.2.1 + 8)) (hI_1_1 : S.1 1 1 = 0) (hR_11_0 : S.2.2 11 0 = .ref (G.2.2.1 + 12)) (hR_12_0 : S.2.2 12 0 = .ref (G.2.2.1 + 13)) (hR_12_1 : S.2.2 12 1 = .ref (G.2.2.1 + 14)) (hR_12_2 : S.2.2 12 2 = .ref (G.2.2.1 + 15)) : Met l yX11_tell (.code yX11_tell cX11_tell 2 (some .int) :: tb) (rmk 4 0 0) (sPc G 294 S [.ref (G.2.2.1 + 0)]) (sQi G 294 (fun r u => r = 1 ∧ u = (sI (sI (sI (sI (sI (sI (sI (sI (sJ (sI (sI (sI (sI (sI S 11 14 0) 11 16 ((-1))) 12 3 0) 13 0 0) 14 0 0) 15 0 0) 12 3 1) 12 4 0) 11 14 1) 11 16 0) 0 9 1) 0 10 0) 1 1 0) 1 2 0))) 0 0 (sF G) := by
  refine sEnter (by decide) (Nat.le_of_ble_eq_true rfl) ?_
  intro p e s m args below meth c Cx hr hlk hnm hW ls hl
  have Cx : sC G p m c cX11_tell 2 s args RX11 := Cx
  obtain ⟨hx, hb, hml, hown, hts⟩ := id Cx.1
  have hL : sL G [] := sL_nil
  have hl : lv_has ls 2 [(0, .ref (G.2.2.1 + 0))] := hl
  refine lv_aload_n hx hb dX11_tell_0 rfl (lv_at hl 0 rfl) ?_
  refine lv_aload_n hx hb dX11_tell_1 rfl (lv_at hl 0 rfl) ?_
  refine g_X11_34 Cx hW (k := 0) (by decide) rfl (v := .ref (G.2.2.1 + 11)) hR_0_2 dX11_tell_2 ?_
  refine lv_aload_n hx hb dX11_tell_5 rfl (lv_at hl 0 rfl) ?_
  refine g_X11_14 Cx hW (k := 0) (by decide) rfl (v := .ref (G.2.2.1 + 1)) hR_0_0 dX11_tell_6 ?_
  refine lv_aload_n hx hb dX11_tell_9 rfl (lv_at hl 0 rfl) ?_
  refine g_X11_28 Cx hW (k := 0) (by decide) rfl (v := .ref (G.2.2.1 + 8)) hR_0_6 dX11_tell_10 ?_
  refine sBiE (sV (As := [.ref (G.2.2.1 + 1), .ref (G.2.2.1 + 8)]) (rest := [.ref (G.2.2.1 + 0)]) (k := 11) Cx (t101_X9_read l G S hI_1_1 hR_11_0 hR_12_0 hR_12_1 hR_12_2) (c_X11_67 Cx rfl rfl ⟨Nat.le_of_ble_eq_true rfl, Nat.le_of_ble_eq_true rfl⟩) hW (by decide) rfl rfl rfl hl.1 rfl (Nat.le_of_ble_eq_true rfl) dX11_tell_13 ⟨Nat.le_of_ble_eq_true rfl, Nat.le_of_ble_eq_true rfl⟩) hL (fun H locs hW hL => ?_)
  refine p_X11_71 Cx hW hL (k := 0) (by decide) rfl dX11_tell_16 (fun H locs hW hL => ?_)
  refine lv_aload_n hx hb dX11_tell_19 rfl (lv_at hl 0 rfl) ?_
  refine lv_aload_n hx hb dX11_tell_20 rfl (lv_at hl 0 rfl) ?_
  refine g_X11_34 Cx hW (k := 0) (by decide) rfl (v := .ref (G.2.2.1 + 11)) hR_0_2 dX11_tell_21 ?_
  refine sBiE (sV (As := []) (rest := [.ref (G.2.2.1 + 0)]) (k := 11) Cx (t102_X9_faultPlace l G (sI (sI (sI (sI (sI (sJ (sI (sI (sI (sI (sI S 11 14 0) 11 16 ((-1))) 12 3 0) 13 0 0) 14 0 0) 15 0 0) 12 3 1) 12 4 0) 11 14 1) 11 16 0) 0 9 1) rfl) (c_X11_74 Cx rfl rfl ⟨Nat.le_of_ble_eq_true rfl, Nat.le_of_ble_eq_true rfl⟩) hW (by decide) rfl rfl rfl hl.1 rfl (Nat.le_of_ble_eq_true rfl) dX11_tell_24 ⟨Nat.le_of_ble_eq_true rfl, Nat.le_of_ble_eq_true rfl⟩) hL (fun H locs hW hL => ?_)
  refine p_X11_52 Cx hW hL (k := 0) (by decide) rfl dX11_tell_27 (fun H locs hW hL => ?_)
  refine lv_aload_n hx hb dX11_tell_30 rfl (lv_at hl 0 rfl) ?_
  refine g_X11_14 Cx hW (k := 0) (by decide) rfl (v := .ref (G.2.2.1 + 1)) hR_0_0 dX11_tell_31 ?_
  refine sBvE (sV (As := []) (rest := []) (k := 1) Cx (t103_X10_clear l G (sI (sI (sI (sI (sI (sI (sJ (sI (sI (sI (sI (sI S 11 14 0) 11 16 ((-1))) 12 3 0) 13 0 0) 14 0 0) 15 0 0) 12 3 1) 12 4 0) 11 14 1) 11 16 0) 0 9 1) 0 10 0)) (c_X11_76 Cx rfl rfl ⟨Nat.le_of_ble_eq_true rfl, Nat.le_of_ble_eq_true rfl⟩) hW (by decide) rfl rfl rfl hl.1 rfl (Nat.le_of_ble_eq_true rfl) dX11_tell_34 ⟨Nat.le_of_ble_eq_true rfl, Nat.le_of_ble_eq_true rfl⟩) hL (fun H locs hW hL => ?_)
  refine lv_aload_n hx hb dX11_tell_37 rfl (lv_at hl 0 rfl) ?_
  refine g_X11_71 Cx hW (k := 0) (by decide) rfl (v := 1) rfl dX11_tell_38 ?_
  refine lv_if_ne (tgt := 72) hx hb dX11_tell_41 (by decide) (fun _ => ?_) (fun c => absurd c (by decide))
  refine lv_aload_n hx hb dX11_tell_72 rfl (lv_at hl 0 rfl) ?_
  refine g_X11_71 Cx hW (k := 0) (by decide) rfl (v := 1) rfl dX11_tell_73 ?_
  exact sIret Cx hr hlk hW hL ⟨rfl, rfl⟩ dX11_tell_76

set_option maxRecDepth 100000 in
set_option maxHeartbeats 4000000 in
theorem m_X11_fault (l : Launch) (G : sG) (S : sS) (p1 : Int32) (hI_0_9 : S.1 0 9 = 0) (hI_0_10 : S.1 0 10 = (-1)) : Met l yX11_fault (.code yX11_fault cX11_fault 2 (some .int) :: tb) (rmk 1 0 0) (sPc G 294 S [.ref (G.2.2.1 + 0), .int p1]) (sQi G 294 (fun r u => r = faultF p1 ∧ u = S)) 0 0 (sF G) := by
  refine sEnter (by decide) (Nat.le_of_ble_eq_true rfl) ?_
  intro p e s m args below meth c Cx hr hlk hnm hW ls hl
  have Cx : sC G p m c cX11_fault 2 s args RX11 := Cx
  obtain ⟨hx, hb, hml, hown, hts⟩ := id Cx.1
  have hL : sL G [] := sL_nil
  have hl : lv_has ls 2 [(0, .ref (G.2.2.1 + 0)), (1, .int p1)] := hl
  refine lv_iload_n hx hb dX11_fault_0 rfl (lv_at hl 1 rfl) ?_
  by_cases c1 : p1 = 0
  · refine lv_lookup (off := 27) (tgt := 28) hx hb dX11_fault_1 (by decide) (by rw [c1]; decide) (by decide) ?_
    refine lv_aload_n hx hb dX11_fault_28 rfl (lv_at hl 0 rfl) ?_
    refine g_X11_71 Cx hW (k := 0) (by decide) rfl (v := 0) hI_0_9 dX11_fault_29 ?_
    exact sIret Cx hr hlk hW hL ⟨(show _ = faultF p1 from (if_pos c1).symm), rfl⟩ dX11_fault_32
  by_cases c2 : p1 = 1
  · refine lv_lookup (off := 32) (tgt := 33) hx hb dX11_fault_1 (by decide) (by rw [c2]; decide) (by decide) ?_
    refine lv_aload_n hx hb dX11_fault_33 rfl (lv_at hl 0 rfl) ?_
    refine g_X11_52 Cx hW (k := 0) (by decide) rfl (v := (-1)) hI_0_10 dX11_fault_34 ?_
    exact sIret Cx hr hlk hW hL ⟨(show _ = faultF p1 from (if_neg c1).symm), rfl⟩ dX11_fault_37
  refine lv_lookup (off := 37) (tgt := 38) hx hb dX11_fault_1 (by decide) (lkOut2 c1 c2) (by decide) ?_
  refine lv_iconst (v := (-1)) hx hb dX11_fault_38 (by decide) ?_
  exact sIret Cx hr hlk hW hL ⟨(show _ = faultF p1 from (if_neg c1).symm), rfl⟩ dX11_fault_39

set_option maxRecDepth 100000 in
set_option maxHeartbeats 4000000 in
theorem m_X11_size (l : Launch) (G : sG) (S : sS) (p1 : Int32) (hI_0_7 : S.1 0 7 = 0) : Met l yX11_size (.code yX11_size cX11_size 2 (some .int) :: tb) (rmk 1 0 0) (sPc G 294 S [.ref (G.2.2.1 + 0), .int p1]) (sQi G 294 (fun r u => r = sizeF p1 ∧ u = S)) 0 0 (sF G) := by
  refine sEnter (by decide) (Nat.le_of_ble_eq_true rfl) ?_
  intro p e s m args below meth c Cx hr hlk hnm hW ls hl
  have Cx : sC G p m c cX11_size 2 s args RX11 := Cx
  obtain ⟨hx, hb, hml, hown, hts⟩ := id Cx.1
  have hL : sL G [] := sL_nil
  have hl : lv_has ls 2 [(0, .ref (G.2.2.1 + 0)), (1, .int p1)] := hl
  refine lv_iload_n hx hb dX11_size_0 rfl (lv_at hl 1 rfl) ?_
  refine lv_if_lt (tgt := 9) hx hb dX11_size_1 (by decide) (fun c1 => ?_) (fun c1 => ?_)
  · refine lv_iconst (v := (-1)) hx hb dX11_size_9 (by decide) ?_
    exact sIret Cx hr hlk hW hL ⟨(show _ = sizeF p1 from (if_pos (Or.inl c1)).symm), rfl⟩ dX11_size_10
  · refine lv_iload_n hx hb dX11_size_4 rfl (lv_at hl 1 rfl) ?_
    refine lv_iconst (v := 3) hx hb dX11_size_5 (by decide) ?_
    refine lv_icmp_le (tgt := 11) hx hb dX11_size_6 (by decide) (fun c2 => ?_) (fun c2 => ?_)
    · refine lv_aload_n hx hb dX11_size_11 rfl (lv_at hl 0 rfl) ?_
      refine g_X11_79 Cx hW (k := 0) (by decide) rfl (v := 0) hI_0_7 dX11_size_12 ?_
      refine lv_if_ne (tgt := 20) hx hb dX11_size_15 (by decide) (fun c => absurd (by decide) c) (fun _ => ?_)
      refine lv_iconst (v := 0) hx hb dX11_size_18 (by decide) ?_
      exact sIret Cx hr hlk hW hL ⟨(show _ = sizeF p1 from (if_neg (fun h => h.elim c1 (Int32.not_lt.mpr c2))).symm), rfl⟩ dX11_size_19
    · refine lv_iconst (v := (-1)) hx hb dX11_size_9 (by decide) ?_
      exact sIret Cx hr hlk hW hL ⟨(show _ = sizeF p1 from (if_pos (Or.inr (Int32.not_le.mp c2))).symm), rfl⟩ dX11_size_10

set_option maxRecDepth 100000 in
set_option maxHeartbeats 4000000 in
theorem m_X11_coefficient (l : Launch) (G : sG) (S : sS) (p1 : Int32) (p2 : Int32) (hI_0_7 : S.1 0 7 = 0) : Met l yX11_coefficient (.code yX11_coefficient cX11_coefficient 3 (some .long) :: tb) (rmk 1 0 0) (sPc G 294 S [.ref (G.2.2.1 + 0), .int p1, .int p2]) (sQl G 294 (fun r u => r = 0 ∧ u = S)) 0 0 (sF G) := by
  refine sEnter (by decide) (Nat.le_of_ble_eq_true rfl) ?_
  intro p e s m args below meth c Cx hr hlk hnm hW ls hl
  have Cx : sC G p m c cX11_coefficient 3 s args RX11 := Cx
  obtain ⟨hx, hb, hml, hown, hts⟩ := id Cx.1
  have hL : sL G [] := sL_nil
  have hl : lv_has ls 3 [(0, .ref (G.2.2.1 + 0)), (1, .int p1), (2, .int p2)] := hl
  refine lv_aload_n hx hb dX11_coefficient_0 rfl (lv_at hl 0 rfl) ?_
  refine g_X11_79 Cx hW (k := 0) (by decide) rfl (v := 0) hI_0_7 dX11_coefficient_1 ?_
  refine lv_if_eq (tgt := 26) hx hb dX11_coefficient_4 (by decide) (fun _ => ?_) (fun c => absurd (by decide) c)
  refine lv_lconst (v := 0) hx hb dX11_coefficient_26 (by decide) ?_
  exact sLret Cx hr hlk hW hL ⟨rfl, rfl⟩ dX11_coefficient_27

set_option maxRecDepth 100000 in
set_option maxHeartbeats 4000000 in
theorem m_X11_begin (l : Launch) (G : sG) (S : sS) (p1 : Int32) (hI_0_7 : S.1 0 7 = 0) : Met l yX11_begin (.code yX11_begin cX11_begin 2 (some .boolean) :: tb) (rmk 1 0 0) (sPc G 294 S [.ref (G.2.2.1 + 0), .int p1]) (sQi G 294 (fun r u => r = 0 ∧ u = S)) 0 0 (sF G) := by
  refine sEnter (by decide) (Nat.le_of_ble_eq_true rfl) ?_
  intro p e s m args below meth c Cx hr hlk hnm hW ls hl
  have Cx : sC G p m c cX11_begin 2 s args RX11 := Cx
  obtain ⟨hx, hb, hml, hown, hts⟩ := id Cx.1
  have hL : sL G [] := sL_nil
  have hl : lv_has ls 2 [(0, .ref (G.2.2.1 + 0)), (1, .int p1)] := hl
  refine lv_aload_n hx hb dX11_begin_0 rfl (lv_at hl 0 rfl) ?_
  refine g_X11_79 Cx hW (k := 0) (by decide) rfl (v := 0) hI_0_7 dX11_begin_1 ?_
  refine lv_if_eq (tgt := 17) hx hb dX11_begin_4 (by decide) (fun _ => ?_) (fun c => absurd (by decide) c)
  refine lv_iconst (v := 0) hx hb dX11_begin_17 (by decide) ?_
  exact sZret Cx hr hlk hW hL (by decide) ⟨rfl, rfl⟩ dX11_begin_18

set_option maxRecDepth 100000 in
set_option maxHeartbeats 4000000 in
theorem m_X11_work (l : Launch) (G : sG) (S : sS) (p1 : Int32) (hI_0_8 : S.1 0 8 = 0) : Met l yX11_work (.code yX11_work cX11_work 3 (some .int) :: tb) (rmk 1 0 0) (sPc G 294 S [.ref (G.2.2.1 + 0), .int p1]) (sQi G 294 (fun r u => r = workF p1 ∧ u = S)) 0 0 (sF G) := by
  refine sEnter (by decide) (Nat.le_of_ble_eq_true rfl) ?_
  intro p e s m args below meth c Cx hr hlk hnm hW ls hl
  have Cx : sC G p m c cX11_work 3 s args RX11 := Cx
  obtain ⟨hx, hb, hml, hown, hts⟩ := id Cx.1
  have hL : sL G [] := sL_nil
  have hl : lv_has ls 3 [(0, .ref (G.2.2.1 + 0)), (1, .int p1)] := hl
  refine lv_iload_n hx hb dX11_work_0 rfl (lv_at hl 1 rfl) ?_
  refine lv_iconst (v := 1) hx hb dX11_work_1 (by decide) ?_
  refine lv_icmp_lt (tgt := 12) hx hb dX11_work_2 (by decide) (fun c1 => ?_) (fun c1 => ?_)
  · refine lv_iconst (v := (-1)) hx hb dX11_work_12 (by decide) ?_
    exact sIret Cx hr hlk hW hL ⟨(show _ = workF p1 from (if_pos (Or.inl c1)).symm), rfl⟩ dX11_work_13
  · refine lv_iload_n hx hb dX11_work_5 rfl (lv_at hl 1 rfl) ?_
    refine lv_sipush (v := 500) hx hb dX11_work_6 (by decide) ?_
    refine lv_icmp_le (tgt := 14) hx hb dX11_work_9 (by decide) (fun c2 => ?_) (fun c2 => ?_)
    · refine lv_aload_n hx hb dX11_work_14 rfl (lv_at hl 0 rfl) ?_
      refine g_X11_83 Cx hW (k := 0) (by decide) rfl (v := 0) hI_0_8 dX11_work_15 ?_
      refine lv_if_ne (tgt := 23) hx hb dX11_work_18 (by decide) (fun c => absurd (by decide) c) (fun _ => ?_)
      refine lv_iconst (v := 0) hx hb dX11_work_21 (by decide) ?_
      exact sIret Cx hr hlk hW hL ⟨(show _ = workF p1 from (if_neg (fun h => h.elim c1 (Int32.not_lt.mpr c2))).symm), rfl⟩ dX11_work_22
    · refine lv_iconst (v := (-1)) hx hb dX11_work_12 (by decide) ?_
      exact sIret Cx hr hlk hW hL ⟨(show _ = workF p1 from (if_pos (Or.inr (Int32.not_le.mp c2))).symm), rfl⟩ dX11_work_13

set_option maxRecDepth 100000 in
set_option maxHeartbeats 4000000 in
theorem m_X11_look (l : Launch) (G : sG) (S : sS) (p1 : Int32) (hI_0_8 : S.1 0 8 = 0) (hR_0_0 : S.2.2 0 0 = .ref (G.2.2.1 + 1)) (hI_1_1 : S.1 1 1 = 0) : Met l yX11_look (.code yX11_look cX11_look 2 (some .int) :: tb) (rmk 2 0 0) (sPc G 294 S [.ref (G.2.2.1 + 0), .int p1]) (sQi G 294 (fun r u => r = lookF p1 ∧ u = S)) 0 0 (sF G) := by
  refine sEnter (by decide) (Nat.le_of_ble_eq_true rfl) ?_
  intro p e s m args below meth c Cx hr hlk hnm hW ls hl
  have Cx : sC G p m c cX11_look 2 s args RX11 := Cx
  obtain ⟨hx, hb, hml, hown, hts⟩ := id Cx.1
  have hL : sL G [] := sL_nil
  have hl : lv_has ls 2 [(0, .ref (G.2.2.1 + 0)), (1, .int p1)] := hl
  refine lv_iload_n hx hb dX11_look_0 rfl (lv_at hl 1 rfl) ?_
  refine lv_if_lt (tgt := 10) hx hb dX11_look_1 (by decide) (fun c1 => ?_) (fun c1 => ?_)
  · refine lv_iconst (v := (-1)) hx hb dX11_look_10 (by decide) ?_
    exact sIret Cx hr hlk hW hL ⟨(show _ = lookF p1 from (if_pos (Or.inl c1)).symm), rfl⟩ dX11_look_11
  · refine lv_iload_n hx hb dX11_look_4 rfl (lv_at hl 1 rfl) ?_
    refine lv_bipush (v := 9) hx hb dX11_look_5 (by decide) ?_
    refine lv_icmp_le (tgt := 12) hx hb dX11_look_7 (by decide) (fun c2 => ?_) (fun c2 => ?_)
    · refine lv_iload_n hx hb dX11_look_12 rfl (lv_at hl 1 rfl) ?_
      refine lv_bipush (v := 9) hx hb dX11_look_13 (by decide) ?_
      refine lv_icmp_ne (tgt := 26) hx hb dX11_look_15 (by decide) (fun c3 => ?_) (fun c3 => ?_)
      · refine lv_aload_n hx hb dX11_look_26 rfl (lv_at hl 0 rfl) ?_
        refine g_X11_83 Cx hW (k := 0) (by decide) rfl (v := 0) hI_0_8 dX11_look_27 ?_
        refine lv_if_eq (tgt := 44) hx hb dX11_look_30 (by decide) (fun _ => ?_) (fun c => absurd (by decide) c)
        refine lv_iconst (v := 0) hx hb dX11_look_44 (by decide) ?_
        exact sIret Cx hr hlk hW hL ⟨(show _ = lookF p1 from (if_neg (fun h => h.elim c1 (Int32.not_lt.mpr c2))).symm), rfl⟩ dX11_look_45
      · refine lv_aload_n hx hb dX11_look_18 rfl (lv_at hl 0 rfl) ?_
        refine g_X11_14 Cx hW (k := 0) (by decide) rfl (v := .ref (G.2.2.1 + 1)) hR_0_0 dX11_look_19 ?_
        refine sBiE (sV (As := []) (rest := []) (k := 1) Cx (t61_X10_length l G S hI_1_1) (c_X11_56 Cx rfl rfl ⟨Nat.le_of_ble_eq_true rfl, Nat.le_of_ble_eq_true rfl⟩) hW (by decide) rfl rfl rfl hl.1 rfl (Nat.le_of_ble_eq_true rfl) dX11_look_22 ⟨Nat.le_of_ble_eq_true rfl, Nat.le_of_ble_eq_true rfl⟩) hL (fun H locs hW hL => ?_)
        exact sIret Cx hr hlk hW hL ⟨(show _ = lookF p1 from (if_neg (fun h => h.elim c1 (Int32.not_lt.mpr c2))).symm), rfl⟩ dX11_look_25
    · refine lv_iconst (v := (-1)) hx hb dX11_look_10 (by decide) ?_
      exact sIret Cx hr hlk hW hL ⟨(show _ = lookF p1 from (if_pos (Or.inr (Int32.not_le.mp c2))).symm), rfl⟩ dX11_look_11

set_option maxRecDepth 100000 in
set_option maxHeartbeats 4000000 in
theorem m_X11_place (l : Launch) (G : sG) (S : sS) (p1 : Int32) (hI_0_8 : S.1 0 8 = 0) : Met l yX11_place (.code yX11_place cX11_place 2 (some .int) :: tb) (rmk 1 0 0) (sPc G 294 S [.ref (G.2.2.1 + 0), .int p1]) (sQi G 294 (fun r u => r = (-1) ∧ u = S)) 0 0 (sF G) := by
  refine sEnter (by decide) (Nat.le_of_ble_eq_true rfl) ?_
  intro p e s m args below meth c Cx hr hlk hnm hW ls hl
  have Cx : sC G p m c cX11_place 2 s args RX11 := Cx
  obtain ⟨hx, hb, hml, hown, hts⟩ := id Cx.1
  have hL : sL G [] := sL_nil
  have hl : lv_has ls 2 [(0, .ref (G.2.2.1 + 0)), (1, .int p1)] := hl
  refine lv_aload_n hx hb dX11_place_0 rfl (lv_at hl 0 rfl) ?_
  refine g_X11_83 Cx hW (k := 0) (by decide) rfl (v := 0) hI_0_8 dX11_place_1 ?_
  refine lv_if_eq (tgt := 21) hx hb dX11_place_4 (by decide) (fun _ => ?_) (fun c => absurd (by decide) c)
  refine lv_iconst (v := (-1)) hx hb dX11_place_21 (by decide) ?_
  exact sIret Cx hr hlk hW hL ⟨rfl, rfl⟩ dX11_place_22

set_option maxRecDepth 100000 in
set_option maxHeartbeats 4000000 in
theorem m_X11_entry (l : Launch) (G : sG) (S : sS) (p1 : Int32) (p2 : Int32) (p3 : Int32) (hI_0_8 : S.1 0 8 = 0) : Met l yX11_entry (.code yX11_entry cX11_entry 4 (some .int) :: tb) (rmk 1 0 0) (sPc G 294 S [.ref (G.2.2.1 + 0), .int p1, .int p2, .int p3]) (sQi G 294 (fun r u => r = (-1) ∧ u = S)) 0 0 (sF G) := by
  refine sEnter (by decide) (Nat.le_of_ble_eq_true rfl) ?_
  intro p e s m args below meth c Cx hr hlk hnm hW ls hl
  have Cx : sC G p m c cX11_entry 4 s args RX11 := Cx
  obtain ⟨hx, hb, hml, hown, hts⟩ := id Cx.1
  have hL : sL G [] := sL_nil
  have hl : lv_has ls 4 [(0, .ref (G.2.2.1 + 0)), (1, .int p1), (2, .int p2), (3, .int p3)] := hl
  refine lv_aload_n hx hb dX11_entry_0 rfl (lv_at hl 0 rfl) ?_
  refine g_X11_83 Cx hW (k := 0) (by decide) rfl (v := 0) hI_0_8 dX11_entry_1 ?_
  refine lv_if_eq (tgt := 26) hx hb dX11_entry_4 (by decide) (fun _ => ?_) (fun c => absurd (by decide) c)
  refine lv_iconst (v := (-1)) hx hb dX11_entry_26 (by decide) ?_
  exact sIret Cx hr hlk hW hL ⟨rfl, rfl⟩ dX11_entry_27

set_option maxRecDepth 100000 in
set_option maxHeartbeats 4000000 in
theorem m_X11_told (l : Launch) (G : sG) (S : sS) (p1 : Int32) (p2 : Int32) (hI_0_8 : S.1 0 8 = 0) : Met l yX11_told (.code yX11_told cX11_told 3 (some .int) :: tb) (rmk 1 0 0) (sPc G 294 S [.ref (G.2.2.1 + 0), .int p1, .int p2]) (sQi G 294 (fun r u => r = (-1) ∧ u = S)) 0 0 (sF G) := by
  refine sEnter (by decide) (Nat.le_of_ble_eq_true rfl) ?_
  intro p e s m args below meth c Cx hr hlk hnm hW ls hl
  have Cx : sC G p m c cX11_told 3 s args RX11 := Cx
  obtain ⟨hx, hb, hml, hown, hts⟩ := id Cx.1
  have hL : sL G [] := sL_nil
  have hl : lv_has ls 3 [(0, .ref (G.2.2.1 + 0)), (1, .int p1), (2, .int p2)] := hl
  refine lv_aload_n hx hb dX11_told_0 rfl (lv_at hl 0 rfl) ?_
  refine g_X11_83 Cx hW (k := 0) (by decide) rfl (v := 0) hI_0_8 dX11_told_1 ?_
  refine lv_if_eq (tgt := 22) hx hb dX11_told_4 (by decide) (fun _ => ?_) (fun c => absurd (by decide) c)
  refine lv_iconst (v := (-1)) hx hb dX11_told_22 (by decide) ?_
  exact sIret Cx hr hlk hW hL ⟨rfl, rfl⟩ dX11_told_23

set_option maxRecDepth 100000 in
set_option maxHeartbeats 4000000 in
theorem m_X11_proof (l : Launch) (G : sG) (S : sS) (p1 : Int32) (hI_0_8 : S.1 0 8 = 0) : Met l yX11_proof (.code yX11_proof cX11_proof 2 (some .int) :: tb) (rmk 1 0 0) (sPc G 294 S [.ref (G.2.2.1 + 0), .int p1]) (sQi G 294 (fun r u => r = (-1) ∧ u = S)) 0 0 (sF G) := by
  refine sEnter (by decide) (Nat.le_of_ble_eq_true rfl) ?_
  intro p e s m args below meth c Cx hr hlk hnm hW ls hl
  have Cx : sC G p m c cX11_proof 2 s args RX11 := Cx
  obtain ⟨hx, hb, hml, hown, hts⟩ := id Cx.1
  have hL : sL G [] := sL_nil
  have hl : lv_has ls 2 [(0, .ref (G.2.2.1 + 0)), (1, .int p1)] := hl
  refine lv_aload_n hx hb dX11_proof_0 rfl (lv_at hl 0 rfl) ?_
  refine g_X11_83 Cx hW (k := 0) (by decide) rfl (v := 0) hI_0_8 dX11_proof_1 ?_
  refine lv_if_eq (tgt := 31) hx hb dX11_proof_4 (by decide) (fun _ => ?_) (fun c => absurd (by decide) c)
  refine lv_iconst (v := (-1)) hx hb dX11_proof_31 (by decide) ?_
  exact sIret Cx hr hlk hW hL ⟨rfl, rfl⟩ dX11_proof_32

set_option maxRecDepth 100000 in
set_option maxHeartbeats 4000000 in
theorem m_X11_check (l : Launch) (G : sG) (S : sS)  (hI_0_7 : S.1 0 7 = 0) (hR_0_0 : S.2.2 0 0 = .ref (G.2.2.1 + 1)) : Met l yX11_check (.code yX11_check cX11_check 1 (some .int) :: tb) (rmk 2 0 0) (sPc G 294 S [.ref (G.2.2.1 + 0)]) (sQi G 294 (fun r u => r = (-1) ∧ u = (sI (sI (sI (sI S 0 9 0) 0 10 ((-1))) 1 1 0) 1 2 0))) 0 0 (sF G) := by
  refine sEnter (by decide) (Nat.le_of_ble_eq_true rfl) ?_
  intro p e s m args below meth c Cx hr hlk hnm hW ls hl
  have Cx : sC G p m c cX11_check 1 s args RX11 := Cx
  obtain ⟨hx, hb, hml, hown, hts⟩ := id Cx.1
  have hL : sL G [] := sL_nil
  have hl : lv_has ls 1 [(0, .ref (G.2.2.1 + 0))] := hl
  refine lv_aload_n hx hb dX11_check_0 rfl (lv_at hl 0 rfl) ?_
  refine lv_iconst (v := 0) hx hb dX11_check_1 (by decide) ?_
  refine p_X11_71 Cx hW hL (k := 0) (by decide) rfl dX11_check_2 (fun H locs hW hL => ?_)
  refine lv_aload_n hx hb dX11_check_5 rfl (lv_at hl 0 rfl) ?_
  refine lv_iconst (v := (-1)) hx hb dX11_check_6 (by decide) ?_
  refine p_X11_52 Cx hW hL (k := 0) (by decide) rfl dX11_check_7 (fun H locs hW hL => ?_)
  refine lv_aload_n hx hb dX11_check_10 rfl (lv_at hl 0 rfl) ?_
  refine g_X11_79 Cx hW (k := 0) (by decide) rfl (v := 0) hI_0_7 dX11_check_11 ?_
  refine lv_if_ne (tgt := 26) hx hb dX11_check_14 (by decide) (fun c => absurd (by decide) c) (fun _ => ?_)
  refine lv_aload_n hx hb dX11_check_17 rfl (lv_at hl 0 rfl) ?_
  refine g_X11_14 Cx hW (k := 0) (by decide) rfl (v := .ref (G.2.2.1 + 1)) hR_0_0 dX11_check_18 ?_
  refine sBvE (sV (As := []) (rest := []) (k := 1) Cx (t103_X10_clear l G (sI (sI S 0 9 0) 0 10 ((-1)))) (c_X11_76 Cx rfl rfl ⟨Nat.le_of_ble_eq_true rfl, Nat.le_of_ble_eq_true rfl⟩) hW (by decide) rfl rfl rfl hl.1 rfl (Nat.le_of_ble_eq_true rfl) dX11_check_21 ⟨Nat.le_of_ble_eq_true rfl, Nat.le_of_ble_eq_true rfl⟩) hL (fun H locs hW hL => ?_)
  refine lv_iconst (v := (-1)) hx hb dX11_check_24 (by decide) ?_
  exact sIret Cx hr hlk hW hL ⟨rfl, rfl⟩ dX11_check_25
