/-! the fresh memory -/
def sMk (b : Nat) (S : sS) (n N : Nat) : sS := (S.1, S.2.1, S.2.2.1, fun q i => cond (Nat.beq q n && Nat.blt i N) (.ref (b + n + 1 + i)) (S.2.2.2 q i))
theorem sM_off {b : Nat} {S : sS} {n N : Nat} (q : Nat) (h : q ≠ n) : same S (sMk b S n N) q := by
  have e : Nat.beq q n = false := by
    cases h1 : Nat.beq q n with
    | false => rfl
    | true => exact absurd (Nat.eq_of_beq_eq_true h1) h
  exact ⟨fun _ => rfl, fun _ => rfl, fun _ => rfl, fun i => by simp [sMk, e]⟩
def sS0 : sS := (fun _ _ => 0, fun _ _ => 0, fun _ _ => 0, fun _ _ => .null)
set_option maxRecDepth 100000 in
set_option maxHeartbeats 4000000 in
theorem t2_X10_init (l : Launch) (G : sG) (S : sS) : Met l yX10_init (.code yX10_init cX10_init 2 none :: tb) (rmk 1 1 30000) (sPc G 2 S [.ref (G.2.2.1 + 1), .int (iv 30000)]) (sQv G 3 (fun u => u = (uR S 1 0 (.ref (G.2.2.1 + 2))))) 1 30000 (sF G) := by
  refine sEnter (by decide) (Nat.le_of_ble_eq_true rfl) ?_
  intro p e s m args below meth c Cx hr hlk hnm hW ls hl
  have Cx : sC G p m c cX10_init 2 s args RX10 := Cx
  obtain ⟨hx, hb, hml, hown, hts⟩ := id Cx.1
  have hL : sL G [] := sL_nil
  have hl : lv_has ls 2 [(0, .ref (G.2.2.1 + 1)), (1, .int (iv 30000))] := hl
  refine lv_aload_n hx hb dX10_init_0 rfl (lv_at hl 0 rfl) ?_
  refine W.objInit hx hb hown (hts _ w_240) (hts _ w_233) (hts _ w_234) rfl (by rw [hml]; exact hl.1) rfl dX10_init_1 (Nat.le_of_ble_eq_true rfl) (Nat.le_of_ble_eq_true rfl) ?_
  refine W.eq (g2 := F0 m 4 ls []) rfl ?_
  refine lv_aload_n hx hb dX10_init_4 rfl (lv_at hl 0 rfl) ?_
  refine lv_iload_n hx hb dX10_init_5 rfl (lv_at hl 1 rfl) ?_
  refine lv_iconst (v := iv 0) hx hb dX10_init_6 (by decide) ?_
  refine r_max hx hb (hml.trans hl.1.symm) hown (hts _ w_241) (hts _ w_242) (hts _ w_206) (hts _ w_243) (Nat.le_of_ble_eq_true rfl) (Nat.le_of_ble_eq_true rfl) (Nat.le_of_ble_eq_true rfl) (Nat.le_of_ble_eq_true rfl) (by decide) (by decide) dX10_init_7 (fun z hz => ?_)
  obtain rfl : z = 30000 := by omega
  refine sNewa (atype := .byte) (ty := .byte) Cx (N := 30000) rfl 2 rfl (fun U h => h) w_254 hW rfl (.inl rfl) (by decide) (by decide) (Nat.le_of_ble_eq_true rfl) (Nat.le_of_ble_eq_true rfl) (Nat.le_of_ble_eq_true rfl) dX10_init_10 (fun H hW => ?_)
  refine p_X10_15 Cx hnm hW hL (k := 1) (by decide) rfl dX10_init_12 (fun H locs hW hL => ?_)
  exact sVret Cx hr hlk hW hL rfl dX10_init_15

set_option maxRecDepth 100000 in
set_option maxHeartbeats 4000000 in
theorem t3_X10_init (l : Launch) (G : sG) (S : sS) : Met l yX10_init (.code yX10_init cX10_init 2 none :: tb) (rmk 1 1 120) (sPc G 4 S [.ref (G.2.2.1 + 3), .int (iv 120)]) (sQv G 5 (fun u => u = (uR S 3 0 (.ref (G.2.2.1 + 4))))) 1 120 (sF G) := by
  refine sEnter (by decide) (Nat.le_of_ble_eq_true rfl) ?_
  intro p e s m args below meth c Cx hr hlk hnm hW ls hl
  have Cx : sC G p m c cX10_init 2 s args RX10 := Cx
  obtain ⟨hx, hb, hml, hown, hts⟩ := id Cx.1
  have hL : sL G [] := sL_nil
  have hl : lv_has ls 2 [(0, .ref (G.2.2.1 + 3)), (1, .int (iv 120))] := hl
  refine lv_aload_n hx hb dX10_init_0 rfl (lv_at hl 0 rfl) ?_
  refine W.objInit hx hb hown (hts _ w_240) (hts _ w_233) (hts _ w_234) rfl (by rw [hml]; exact hl.1) rfl dX10_init_1 (Nat.le_of_ble_eq_true rfl) (Nat.le_of_ble_eq_true rfl) ?_
  refine W.eq (g2 := F0 m 4 ls []) rfl ?_
  refine lv_aload_n hx hb dX10_init_4 rfl (lv_at hl 0 rfl) ?_
  refine lv_iload_n hx hb dX10_init_5 rfl (lv_at hl 1 rfl) ?_
  refine lv_iconst (v := iv 0) hx hb dX10_init_6 (by decide) ?_
  refine r_max hx hb (hml.trans hl.1.symm) hown (hts _ w_241) (hts _ w_242) (hts _ w_206) (hts _ w_243) (Nat.le_of_ble_eq_true rfl) (Nat.le_of_ble_eq_true rfl) (Nat.le_of_ble_eq_true rfl) (Nat.le_of_ble_eq_true rfl) (by decide) (by decide) dX10_init_7 (fun z hz => ?_)
  obtain rfl : z = 120 := by omega
  refine sNewa (atype := .byte) (ty := .byte) Cx (N := 120) rfl 2 rfl (fun U h => h) w_254 hW rfl (.inl rfl) (by decide) (by decide) (Nat.le_of_ble_eq_true rfl) (Nat.le_of_ble_eq_true rfl) (Nat.le_of_ble_eq_true rfl) dX10_init_10 (fun H hW => ?_)
  refine p_X10_15 Cx hnm hW hL (k := 3) (by decide) rfl dX10_init_12 (fun H locs hW hL => ?_)
  exact sVret Cx hr hlk hW hL rfl dX10_init_15

set_option maxRecDepth 100000 in
set_option maxHeartbeats 4000000 in
theorem t4_X3_init (l : Launch) (G : sG) (S : sS) : Met l yX3_init (.code yX3_init cX3_init 1 none :: tb) (rmk 1 2 234) (sPc G 6 S [.ref (G.2.2.1 + 5)]) (sQv G 8 (fun u => u = (uR (uR S 5 0 (.ref (G.2.2.1 + 6))) 5 1 (.ref (G.2.2.1 + 7))))) 2 234 (sF G) := by
  refine sEnter (by decide) (Nat.le_of_ble_eq_true rfl) ?_
  intro p e s m args below meth c Cx hr hlk hnm hW ls hl
  have Cx : sC G p m c cX3_init 1 s args RX3 := Cx
  obtain ⟨hx, hb, hml, hown, hts⟩ := id Cx.1
  have hL : sL G [] := sL_nil
  have hl : lv_has ls 1 [(0, .ref (G.2.2.1 + 5))] := hl
  refine lv_aload_n hx hb dX3_init_0 rfl (lv_at hl 0 rfl) ?_
  refine W.objInit hx hb hown (hts _ w_260) (hts _ w_233) (hts _ w_234) rfl (by rw [hml]; exact hl.1) rfl dX3_init_1 (Nat.le_of_ble_eq_true rfl) (Nat.le_of_ble_eq_true rfl) ?_
  refine W.eq (g2 := F0 m 4 ls []) rfl ?_
  refine lv_aload_n hx hb dX3_init_4 rfl (lv_at hl 0 rfl) ?_
  refine lv_sipush (v := iv 221) hx hb dX3_init_5 (by decide) ?_
  refine sNewa (atype := .int) (ty := .int) Cx (N := 221) rfl 0 rfl (fun U h => h) w_294 hW rfl (.inl rfl) (by decide) (by decide) (Nat.le_of_ble_eq_true rfl) (Nat.le_of_ble_eq_true rfl) (Nat.le_of_ble_eq_true rfl) dX3_init_8 (fun H hW => ?_)
  refine p_X3_11 Cx hnm hW hL (k := 5) (by decide) rfl dX3_init_10 (fun H locs hW hL => ?_)
  refine lv_aload_n hx hb dX3_init_13 rfl (lv_at hl 0 rfl) ?_
  refine lv_bipush (v := iv 13) hx hb dX3_init_14 (by decide) ?_
  refine sNewa (atype := .boolean) (ty := .boolean) Cx (N := 13) rfl 3 rfl (fun U h => h) w_295 hW rfl (.inl rfl) (by decide) (by decide) (Nat.le_of_ble_eq_true rfl) (Nat.le_of_ble_eq_true rfl) (Nat.le_of_ble_eq_true rfl) dX3_init_16 (fun H hW => ?_)
  refine p_X3_15 Cx hnm hW hL (k := 5) (by decide) rfl dX3_init_18 (fun H locs hW hL => ?_)
  exact sVret Cx hr hlk hW hL rfl dX3_init_21

set_option maxRecDepth 100000 in
set_option maxHeartbeats 4000000 in
theorem t5_X3_init (l : Launch) (G : sG) (S : sS) : Met l yX3_init (.code yX3_init cX3_init 1 none :: tb) (rmk 1 2 234) (sPc G 9 S [.ref (G.2.2.1 + 8)]) (sQv G 11 (fun u => u = (uR (uR S 8 0 (.ref (G.2.2.1 + 9))) 8 1 (.ref (G.2.2.1 + 10))))) 2 234 (sF G) := by
  refine sEnter (by decide) (Nat.le_of_ble_eq_true rfl) ?_
  intro p e s m args below meth c Cx hr hlk hnm hW ls hl
  have Cx : sC G p m c cX3_init 1 s args RX3 := Cx
  obtain ⟨hx, hb, hml, hown, hts⟩ := id Cx.1
  have hL : sL G [] := sL_nil
  have hl : lv_has ls 1 [(0, .ref (G.2.2.1 + 8))] := hl
  refine lv_aload_n hx hb dX3_init_0 rfl (lv_at hl 0 rfl) ?_
  refine W.objInit hx hb hown (hts _ w_260) (hts _ w_233) (hts _ w_234) rfl (by rw [hml]; exact hl.1) rfl dX3_init_1 (Nat.le_of_ble_eq_true rfl) (Nat.le_of_ble_eq_true rfl) ?_
  refine W.eq (g2 := F0 m 4 ls []) rfl ?_
  refine lv_aload_n hx hb dX3_init_4 rfl (lv_at hl 0 rfl) ?_
  refine lv_sipush (v := iv 221) hx hb dX3_init_5 (by decide) ?_
  refine sNewa (atype := .int) (ty := .int) Cx (N := 221) rfl 0 rfl (fun U h => h) w_294 hW rfl (.inl rfl) (by decide) (by decide) (Nat.le_of_ble_eq_true rfl) (Nat.le_of_ble_eq_true rfl) (Nat.le_of_ble_eq_true rfl) dX3_init_8 (fun H hW => ?_)
  refine p_X3_11 Cx hnm hW hL (k := 8) (by decide) rfl dX3_init_10 (fun H locs hW hL => ?_)
  refine lv_aload_n hx hb dX3_init_13 rfl (lv_at hl 0 rfl) ?_
  refine lv_bipush (v := iv 13) hx hb dX3_init_14 (by decide) ?_
  refine sNewa (atype := .boolean) (ty := .boolean) Cx (N := 13) rfl 3 rfl (fun U h => h) w_295 hW rfl (.inl rfl) (by decide) (by decide) (Nat.le_of_ble_eq_true rfl) (Nat.le_of_ble_eq_true rfl) (Nat.le_of_ble_eq_true rfl) dX3_init_16 (fun H hW => ?_)
  refine p_X3_15 Cx hnm hW hL (k := 8) (by decide) rfl dX3_init_18 (fun H locs hW hL => ?_)
  exact sVret Cx hr hlk hW hL rfl dX3_init_21

set_option maxRecDepth 100000 in
set_option maxHeartbeats 4000000 in
theorem t7_X8_init (l : Launch) (G : sG) (S : sS) : Met l yX8_init (.code yX8_init cX8_init 1 none :: tb) (rmk 1 3 6003) (sPc G 13 S [.ref (G.2.2.1 + 12)]) (sQv G 16 (fun u => u = (uR (uR (uR S 12 0 (.ref (G.2.2.1 + 13))) 12 1 (.ref (G.2.2.1 + 14))) 12 2 (.ref (G.2.2.1 + 15))))) 3 6003 (sF G) := by
  refine sEnter (by decide) (Nat.le_of_ble_eq_true rfl) ?_
  intro p e s m args below meth c Cx hr hlk hnm hW ls hl
  have Cx : sC G p m c cX8_init 1 s args RX8 := Cx
  obtain ⟨hx, hb, hml, hown, hts⟩ := id Cx.1
  have hL : sL G [] := sL_nil
  have hl : lv_has ls 1 [(0, .ref (G.2.2.1 + 12))] := hl
  refine lv_aload_n hx hb dX8_init_0 rfl (lv_at hl 0 rfl) ?_
  refine W.objInit hx hb hown (hts _ w_307) (hts _ w_233) (hts _ w_234) rfl (by rw [hml]; exact hl.1) rfl dX8_init_1 (Nat.le_of_ble_eq_true rfl) (Nat.le_of_ble_eq_true rfl) ?_
  refine W.eq (g2 := F0 m 4 ls []) rfl ?_
  refine lv_aload_n hx hb dX8_init_4 rfl (lv_at hl 0 rfl) ?_
  refine lv_sipush (v := iv 2001) hx hb dX8_init_5 (by decide) ?_
  refine sNewa (atype := .int) (ty := .int) Cx (N := 2001) rfl 0 rfl (fun U h => h) w_294 hW rfl (.inl rfl) (by decide) (by decide) (Nat.le_of_ble_eq_true rfl) (Nat.le_of_ble_eq_true rfl) (Nat.le_of_ble_eq_true rfl) dX8_init_8 (fun H hW => ?_)
  refine p_X8_11 Cx hnm hW hL (k := 12) (by decide) rfl dX8_init_10 (fun H locs hW hL => ?_)
  refine lv_aload_n hx hb dX8_init_13 rfl (lv_at hl 0 rfl) ?_
  refine lv_sipush (v := iv 2001) hx hb dX8_init_14 (by decide) ?_
  refine sNewa (atype := .int) (ty := .int) Cx (N := 2001) rfl 0 rfl (fun U h => h) w_294 hW rfl (.inl rfl) (by decide) (by decide) (Nat.le_of_ble_eq_true rfl) (Nat.le_of_ble_eq_true rfl) (Nat.le_of_ble_eq_true rfl) dX8_init_17 (fun H hW => ?_)
  refine p_X8_15 Cx hnm hW hL (k := 12) (by decide) rfl dX8_init_19 (fun H locs hW hL => ?_)
  refine lv_aload_n hx hb dX8_init_22 rfl (lv_at hl 0 rfl) ?_
  refine lv_sipush (v := iv 2001) hx hb dX8_init_23 (by decide) ?_
  refine sNewa (atype := .long) (ty := .long) Cx (N := 2001) rfl 1 rfl (fun U h => h) w_324 hW rfl (.inr rfl) (by decide) (by decide) (Nat.le_of_ble_eq_true rfl) (Nat.le_of_ble_eq_true rfl) (Nat.le_of_ble_eq_true rfl) dX8_init_26 (fun H hW => ?_)
  refine p_X8_18 Cx hnm hW hL (k := 12) (by decide) rfl dX8_init_28 (fun H locs hW hL => ?_)
  exact sVret Cx hr hlk hW hL rfl dX8_init_31

set_option maxRecDepth 100000 in
set_option maxHeartbeats 4000000 in
theorem t8_X3_init (l : Launch) (G : sG) (S : sS) : Met l yX3_init (.code yX3_init cX3_init 1 none :: tb) (rmk 1 2 234) (sPc G 117 S [.ref (G.2.2.1 + 116)]) (sQv G 119 (fun u => u = (uR (uR S 116 0 (.ref (G.2.2.1 + 117))) 116 1 (.ref (G.2.2.1 + 118))))) 2 234 (sF G) := by
  refine sEnter (by decide) (Nat.le_of_ble_eq_true rfl) ?_
  intro p e s m args below meth c Cx hr hlk hnm hW ls hl
  have Cx : sC G p m c cX3_init 1 s args RX3 := Cx
  obtain ⟨hx, hb, hml, hown, hts⟩ := id Cx.1
  have hL : sL G [] := sL_nil
  have hl : lv_has ls 1 [(0, .ref (G.2.2.1 + 116))] := hl
  refine lv_aload_n hx hb dX3_init_0 rfl (lv_at hl 0 rfl) ?_
  refine W.objInit hx hb hown (hts _ w_260) (hts _ w_233) (hts _ w_234) rfl (by rw [hml]; exact hl.1) rfl dX3_init_1 (Nat.le_of_ble_eq_true rfl) (Nat.le_of_ble_eq_true rfl) ?_
  refine W.eq (g2 := F0 m 4 ls []) rfl ?_
  refine lv_aload_n hx hb dX3_init_4 rfl (lv_at hl 0 rfl) ?_
  refine lv_sipush (v := iv 221) hx hb dX3_init_5 (by decide) ?_
  refine sNewa (atype := .int) (ty := .int) Cx (N := 221) rfl 0 rfl (fun U h => h) w_294 hW rfl (.inl rfl) (by decide) (by decide) (Nat.le_of_ble_eq_true rfl) (Nat.le_of_ble_eq_true rfl) (Nat.le_of_ble_eq_true rfl) dX3_init_8 (fun H hW => ?_)
  refine p_X3_11 Cx hnm hW hL (k := 116) (by decide) rfl dX3_init_10 (fun H locs hW hL => ?_)
  refine lv_aload_n hx hb dX3_init_13 rfl (lv_at hl 0 rfl) ?_
  refine lv_bipush (v := iv 13) hx hb dX3_init_14 (by decide) ?_
  refine sNewa (atype := .boolean) (ty := .boolean) Cx (N := 13) rfl 3 rfl (fun U h => h) w_295 hW rfl (.inl rfl) (by decide) (by decide) (Nat.le_of_ble_eq_true rfl) (Nat.le_of_ble_eq_true rfl) (Nat.le_of_ble_eq_true rfl) dX3_init_16 (fun H hW => ?_)
  refine p_X3_15 Cx hnm hW hL (k := 116) (by decide) rfl dX3_init_18 (fun H locs hW hL => ?_)
  exact sVret Cx hr hlk hW hL rfl dX3_init_21

set_option maxRecDepth 100000 in
set_option maxHeartbeats 4000000 in
theorem t11_X0_init (l : Launch) (G : sG) (S : sS) : Met l yX0_init (.code yX0_init cX0_init 1 none :: tb) (rmk 1 1 32) (sPc G 124 S [.ref (G.2.2.1 + 123)]) (sQv G 125 (fun u => u = (uR S 123 0 (.ref (G.2.2.1 + 124))))) 1 32 (sF G) := by
  refine sEnter (by decide) (Nat.le_of_ble_eq_true rfl) ?_
  intro p e s m args below meth c Cx hr hlk hnm hW ls hl
  have Cx : sC G p m c cX0_init 1 s args RX0 := Cx
  obtain ⟨hx, hb, hml, hown, hts⟩ := id Cx.1
  have hL : sL G [] := sL_nil
  have hl : lv_has ls 1 [(0, .ref (G.2.2.1 + 123))] := hl
  refine lv_aload_n hx hb dX0_init_0 rfl (lv_at hl 0 rfl) ?_
  refine W.objInit hx hb hown (hts _ w_398) (hts _ w_233) (hts _ w_234) rfl (by rw [hml]; exact hl.1) rfl dX0_init_1 (Nat.le_of_ble_eq_true rfl) (Nat.le_of_ble_eq_true rfl) ?_
  refine W.eq (g2 := F0 m 4 ls []) rfl ?_
  refine lv_aload_n hx hb dX0_init_4 rfl (lv_at hl 0 rfl) ?_
  refine lv_bipush (v := iv 32) hx hb dX0_init_5 (by decide) ?_
  refine sNewa (atype := .int) (ty := .int) Cx (N := 32) rfl 0 rfl (fun U h => h) w_294 hW rfl (.inl rfl) (by decide) (by decide) (Nat.le_of_ble_eq_true rfl) (Nat.le_of_ble_eq_true rfl) (Nat.le_of_ble_eq_true rfl) dX0_init_7 (fun H hW => ?_)
  refine p_X0_9 Cx hnm hW hL (k := 123) (by decide) rfl dX0_init_9 (fun H locs hW hL => ?_)
  exact sVret Cx hr hlk hW hL rfl dX0_init_12

set_option maxRecDepth 100000 in
set_option maxHeartbeats 4000000 in
theorem t12_X0_init (l : Launch) (G : sG) (S : sS) : Met l yX0_init (.code yX0_init cX0_init 1 none :: tb) (rmk 1 1 32) (sPc G 126 S [.ref (G.2.2.1 + 125)]) (sQv G 127 (fun u => u = (uR S 125 0 (.ref (G.2.2.1 + 126))))) 1 32 (sF G) := by
  refine sEnter (by decide) (Nat.le_of_ble_eq_true rfl) ?_
  intro p e s m args below meth c Cx hr hlk hnm hW ls hl
  have Cx : sC G p m c cX0_init 1 s args RX0 := Cx
  obtain ⟨hx, hb, hml, hown, hts⟩ := id Cx.1
  have hL : sL G [] := sL_nil
  have hl : lv_has ls 1 [(0, .ref (G.2.2.1 + 125))] := hl
  refine lv_aload_n hx hb dX0_init_0 rfl (lv_at hl 0 rfl) ?_
  refine W.objInit hx hb hown (hts _ w_398) (hts _ w_233) (hts _ w_234) rfl (by rw [hml]; exact hl.1) rfl dX0_init_1 (Nat.le_of_ble_eq_true rfl) (Nat.le_of_ble_eq_true rfl) ?_
  refine W.eq (g2 := F0 m 4 ls []) rfl ?_
  refine lv_aload_n hx hb dX0_init_4 rfl (lv_at hl 0 rfl) ?_
  refine lv_bipush (v := iv 32) hx hb dX0_init_5 (by decide) ?_
  refine sNewa (atype := .int) (ty := .int) Cx (N := 32) rfl 0 rfl (fun U h => h) w_294 hW rfl (.inl rfl) (by decide) (by decide) (Nat.le_of_ble_eq_true rfl) (Nat.le_of_ble_eq_true rfl) (Nat.le_of_ble_eq_true rfl) dX0_init_7 (fun H hW => ?_)
  refine p_X0_9 Cx hnm hW hL (k := 125) (by decide) rfl dX0_init_9 (fun H locs hW hL => ?_)
  exact sVret Cx hr hlk hW hL rfl dX0_init_12

set_option maxRecDepth 100000 in
set_option maxHeartbeats 4000000 in
theorem t13_X0_init (l : Launch) (G : sG) (S : sS) : Met l yX0_init (.code yX0_init cX0_init 1 none :: tb) (rmk 1 1 32) (sPc G 128 S [.ref (G.2.2.1 + 127)]) (sQv G 129 (fun u => u = (uR S 127 0 (.ref (G.2.2.1 + 128))))) 1 32 (sF G) := by
  refine sEnter (by decide) (Nat.le_of_ble_eq_true rfl) ?_
  intro p e s m args below meth c Cx hr hlk hnm hW ls hl
  have Cx : sC G p m c cX0_init 1 s args RX0 := Cx
  obtain ⟨hx, hb, hml, hown, hts⟩ := id Cx.1
  have hL : sL G [] := sL_nil
  have hl : lv_has ls 1 [(0, .ref (G.2.2.1 + 127))] := hl
  refine lv_aload_n hx hb dX0_init_0 rfl (lv_at hl 0 rfl) ?_
  refine W.objInit hx hb hown (hts _ w_398) (hts _ w_233) (hts _ w_234) rfl (by rw [hml]; exact hl.1) rfl dX0_init_1 (Nat.le_of_ble_eq_true rfl) (Nat.le_of_ble_eq_true rfl) ?_
  refine W.eq (g2 := F0 m 4 ls []) rfl ?_
  refine lv_aload_n hx hb dX0_init_4 rfl (lv_at hl 0 rfl) ?_
  refine lv_bipush (v := iv 32) hx hb dX0_init_5 (by decide) ?_
  refine sNewa (atype := .int) (ty := .int) Cx (N := 32) rfl 0 rfl (fun U h => h) w_294 hW rfl (.inl rfl) (by decide) (by decide) (Nat.le_of_ble_eq_true rfl) (Nat.le_of_ble_eq_true rfl) (Nat.le_of_ble_eq_true rfl) dX0_init_7 (fun H hW => ?_)
  refine p_X0_9 Cx hnm hW hL (k := 127) (by decide) rfl dX0_init_9 (fun H locs hW hL => ?_)
  exact sVret Cx hr hlk hW hL rfl dX0_init_12

set_option maxRecDepth 100000 in
set_option maxHeartbeats 4000000 in
theorem t14_X0_init (l : Launch) (G : sG) (S : sS) : Met l yX0_init (.code yX0_init cX0_init 1 none :: tb) (rmk 1 1 32) (sPc G 130 S [.ref (G.2.2.1 + 129)]) (sQv G 131 (fun u => u = (uR S 129 0 (.ref (G.2.2.1 + 130))))) 1 32 (sF G) := by
  refine sEnter (by decide) (Nat.le_of_ble_eq_true rfl) ?_
  intro p e s m args below meth c Cx hr hlk hnm hW ls hl
  have Cx : sC G p m c cX0_init 1 s args RX0 := Cx
  obtain ⟨hx, hb, hml, hown, hts⟩ := id Cx.1
  have hL : sL G [] := sL_nil
  have hl : lv_has ls 1 [(0, .ref (G.2.2.1 + 129))] := hl
  refine lv_aload_n hx hb dX0_init_0 rfl (lv_at hl 0 rfl) ?_
  refine W.objInit hx hb hown (hts _ w_398) (hts _ w_233) (hts _ w_234) rfl (by rw [hml]; exact hl.1) rfl dX0_init_1 (Nat.le_of_ble_eq_true rfl) (Nat.le_of_ble_eq_true rfl) ?_
  refine W.eq (g2 := F0 m 4 ls []) rfl ?_
  refine lv_aload_n hx hb dX0_init_4 rfl (lv_at hl 0 rfl) ?_
  refine lv_bipush (v := iv 32) hx hb dX0_init_5 (by decide) ?_
  refine sNewa (atype := .int) (ty := .int) Cx (N := 32) rfl 0 rfl (fun U h => h) w_294 hW rfl (.inl rfl) (by decide) (by decide) (Nat.le_of_ble_eq_true rfl) (Nat.le_of_ble_eq_true rfl) (Nat.le_of_ble_eq_true rfl) dX0_init_7 (fun H hW => ?_)
  refine p_X0_9 Cx hnm hW hL (k := 129) (by decide) rfl dX0_init_9 (fun H locs hW hL => ?_)
  exact sVret Cx hr hlk hW hL rfl dX0_init_12

set_option maxRecDepth 100000 in
set_option maxHeartbeats 4000000 in
theorem t15_X0_init (l : Launch) (G : sG) (S : sS) : Met l yX0_init (.code yX0_init cX0_init 1 none :: tb) (rmk 1 1 32) (sPc G 132 S [.ref (G.2.2.1 + 131)]) (sQv G 133 (fun u => u = (uR S 131 0 (.ref (G.2.2.1 + 132))))) 1 32 (sF G) := by
  refine sEnter (by decide) (Nat.le_of_ble_eq_true rfl) ?_
  intro p e s m args below meth c Cx hr hlk hnm hW ls hl
  have Cx : sC G p m c cX0_init 1 s args RX0 := Cx
  obtain ⟨hx, hb, hml, hown, hts⟩ := id Cx.1
  have hL : sL G [] := sL_nil
  have hl : lv_has ls 1 [(0, .ref (G.2.2.1 + 131))] := hl
  refine lv_aload_n hx hb dX0_init_0 rfl (lv_at hl 0 rfl) ?_
  refine W.objInit hx hb hown (hts _ w_398) (hts _ w_233) (hts _ w_234) rfl (by rw [hml]; exact hl.1) rfl dX0_init_1 (Nat.le_of_ble_eq_true rfl) (Nat.le_of_ble_eq_true rfl) ?_
  refine W.eq (g2 := F0 m 4 ls []) rfl ?_
  refine lv_aload_n hx hb dX0_init_4 rfl (lv_at hl 0 rfl) ?_
  refine lv_bipush (v := iv 32) hx hb dX0_init_5 (by decide) ?_
  refine sNewa (atype := .int) (ty := .int) Cx (N := 32) rfl 0 rfl (fun U h => h) w_294 hW rfl (.inl rfl) (by decide) (by decide) (Nat.le_of_ble_eq_true rfl) (Nat.le_of_ble_eq_true rfl) (Nat.le_of_ble_eq_true rfl) dX0_init_7 (fun H hW => ?_)
  refine p_X0_9 Cx hnm hW hL (k := 131) (by decide) rfl dX0_init_9 (fun H locs hW hL => ?_)
  exact sVret Cx hr hlk hW hL rfl dX0_init_12

set_option maxRecDepth 100000 in
set_option maxHeartbeats 4000000 in
theorem t16_X0_init (l : Launch) (G : sG) (S : sS) : Met l yX0_init (.code yX0_init cX0_init 1 none :: tb) (rmk 1 1 32) (sPc G 134 S [.ref (G.2.2.1 + 133)]) (sQv G 135 (fun u => u = (uR S 133 0 (.ref (G.2.2.1 + 134))))) 1 32 (sF G) := by
  refine sEnter (by decide) (Nat.le_of_ble_eq_true rfl) ?_
  intro p e s m args below meth c Cx hr hlk hnm hW ls hl
  have Cx : sC G p m c cX0_init 1 s args RX0 := Cx
  obtain ⟨hx, hb, hml, hown, hts⟩ := id Cx.1
  have hL : sL G [] := sL_nil
  have hl : lv_has ls 1 [(0, .ref (G.2.2.1 + 133))] := hl
  refine lv_aload_n hx hb dX0_init_0 rfl (lv_at hl 0 rfl) ?_
  refine W.objInit hx hb hown (hts _ w_398) (hts _ w_233) (hts _ w_234) rfl (by rw [hml]; exact hl.1) rfl dX0_init_1 (Nat.le_of_ble_eq_true rfl) (Nat.le_of_ble_eq_true rfl) ?_
  refine W.eq (g2 := F0 m 4 ls []) rfl ?_
  refine lv_aload_n hx hb dX0_init_4 rfl (lv_at hl 0 rfl) ?_
  refine lv_bipush (v := iv 32) hx hb dX0_init_5 (by decide) ?_
  refine sNewa (atype := .int) (ty := .int) Cx (N := 32) rfl 0 rfl (fun U h => h) w_294 hW rfl (.inl rfl) (by decide) (by decide) (Nat.le_of_ble_eq_true rfl) (Nat.le_of_ble_eq_true rfl) (Nat.le_of_ble_eq_true rfl) dX0_init_7 (fun H hW => ?_)
  refine p_X0_9 Cx hnm hW hL (k := 133) (by decide) rfl dX0_init_9 (fun H locs hW hL => ?_)
  exact sVret Cx hr hlk hW hL rfl dX0_init_12

set_option maxRecDepth 100000 in
set_option maxHeartbeats 4000000 in
theorem t10_X6_init (l : Launch) (G : sG) (S : sS) : Met l yX6_init (.code yX6_init cX6_init 1 none :: tb) (rmk 2 14 4802) (sPc G 121 S [.ref (G.2.2.1 + 120)]) (sQv G 135 (fun u => u = (uR (uR (uR (uR (uR (uR (uR (uR (uR (uR (uR (uR (uR (uR S 120 0 (.ref (G.2.2.1 + 121))) 120 1 (.ref (G.2.2.1 + 122))) 123 0 (.ref (G.2.2.1 + 124))) 120 2 (.ref (G.2.2.1 + 123))) 125 0 (.ref (G.2.2.1 + 126))) 120 3 (.ref (G.2.2.1 + 125))) 127 0 (.ref (G.2.2.1 + 128))) 120 4 (.ref (G.2.2.1 + 127))) 129 0 (.ref (G.2.2.1 + 130))) 120 5 (.ref (G.2.2.1 + 129))) 131 0 (.ref (G.2.2.1 + 132))) 120 6 (.ref (G.2.2.1 + 131))) 133 0 (.ref (G.2.2.1 + 134))) 120 7 (.ref (G.2.2.1 + 133))))) 14 4802 (sF G) := by
  refine sEnter (by decide) (Nat.le_of_ble_eq_true rfl) ?_
  intro p e s m args below meth c Cx hr hlk hnm hW ls hl
  have Cx : sC G p m c cX6_init 1 s args RX6 := Cx
  obtain ⟨hx, hb, hml, hown, hts⟩ := id Cx.1
  have hL : sL G [] := sL_nil
  have hl : lv_has ls 1 [(0, .ref (G.2.2.1 + 120))] := hl
  refine lv_aload_n hx hb dX6_init_0 rfl (lv_at hl 0 rfl) ?_
  refine W.objInit hx hb hown (hts _ w_392) (hts _ w_233) (hts _ w_234) rfl (by rw [hml]; exact hl.1) rfl dX6_init_1 (Nat.le_of_ble_eq_true rfl) (Nat.le_of_ble_eq_true rfl) ?_
  refine W.eq (g2 := F0 m 4 ls []) rfl ?_
  refine lv_aload_n hx hb dX6_init_4 rfl (lv_at hl 0 rfl) ?_
  refine lv_sipush (v := iv 4264) hx hb dX6_init_5 (by decide) ?_
  refine sNewa (atype := .int) (ty := .int) Cx (N := 4264) rfl 0 rfl (fun U h => h) w_294 hW rfl (.inl rfl) (by decide) (by decide) (Nat.le_of_ble_eq_true rfl) (Nat.le_of_ble_eq_true rfl) (Nat.le_of_ble_eq_true rfl) dX6_init_8 (fun H hW => ?_)
  refine p_X6_13 Cx hnm hW hL (k := 120) (by decide) rfl dX6_init_10 (fun H locs hW hL => ?_)
  refine lv_aload_n hx hb dX6_init_13 rfl (lv_at hl 0 rfl) ?_
  refine lv_sipush (v := iv 328) hx hb dX6_init_14 (by decide) ?_
  refine sNewa (atype := .int) (ty := .int) Cx (N := 328) rfl 0 rfl (fun U h => h) w_294 hW rfl (.inl rfl) (by decide) (by decide) (Nat.le_of_ble_eq_true rfl) (Nat.le_of_ble_eq_true rfl) (Nat.le_of_ble_eq_true rfl) dX6_init_17 (fun H hW => ?_)
  refine p_X6_17 Cx hnm hW hL (k := 120) (by decide) rfl dX6_init_19 (fun H locs hW hL => ?_)
  refine lv_aload_n hx hb dX6_init_22 rfl (lv_at hl 0 rfl) ?_
  refine n_X6_11 Cx hW rfl (Nat.le_of_ble_eq_true rfl) (Nat.le_of_ble_eq_true rfl) dX6_init_23 (fun H hW => ?_)
  refine lv_dup hx hb dX6_init_26 rfl ?_
  refine sBv (sInN (As := []) (rest := [.ref (G.2.2.1 + 123), .ref (G.2.2.1 + 120)]) (k := 123) Cx (t11_X0_init l G (uR (uR S 120 0 (.ref (G.2.2.1 + 121))) 120 1 (.ref (G.2.2.1 + 122)))) (c_X6_20 Cx rfl rfl ⟨Nat.le_of_ble_eq_true rfl, Nat.le_of_ble_eq_true rfl⟩) hW rfl hl.1 rfl (Nat.le_of_ble_eq_true rfl) dX6_init_27 ⟨Nat.le_of_ble_eq_true rfl, Nat.le_of_ble_eq_true rfl⟩) hL (fun u H locs hq hW hL => ?_)
  subst hq
  refine p_X6_21 Cx hnm hW hL (k := 120) (by decide) rfl dX6_init_30 (fun H locs hW hL => ?_)
  refine lv_aload_n hx hb dX6_init_33 rfl (lv_at hl 0 rfl) ?_
  refine n_X6_11 Cx hW rfl (Nat.le_of_ble_eq_true rfl) (Nat.le_of_ble_eq_true rfl) dX6_init_34 (fun H hW => ?_)
  refine lv_dup hx hb dX6_init_37 rfl ?_
  refine sBv (sInN (As := []) (rest := [.ref (G.2.2.1 + 125), .ref (G.2.2.1 + 120)]) (k := 125) Cx (t12_X0_init l G (uR (uR (uR (uR S 120 0 (.ref (G.2.2.1 + 121))) 120 1 (.ref (G.2.2.1 + 122))) 123 0 (.ref (G.2.2.1 + 124))) 120 2 (.ref (G.2.2.1 + 123)))) (c_X6_20 Cx rfl rfl ⟨Nat.le_of_ble_eq_true rfl, Nat.le_of_ble_eq_true rfl⟩) hW rfl hl.1 rfl (Nat.le_of_ble_eq_true rfl) dX6_init_38 ⟨Nat.le_of_ble_eq_true rfl, Nat.le_of_ble_eq_true rfl⟩) hL (fun u H locs hq hW hL => ?_)
  subst hq
  refine p_X6_25 Cx hnm hW hL (k := 120) (by decide) rfl dX6_init_41 (fun H locs hW hL => ?_)
  refine lv_aload_n hx hb dX6_init_44 rfl (lv_at hl 0 rfl) ?_
  refine n_X6_11 Cx hW rfl (Nat.le_of_ble_eq_true rfl) (Nat.le_of_ble_eq_true rfl) dX6_init_45 (fun H hW => ?_)
  refine lv_dup hx hb dX6_init_48 rfl ?_
  refine sBv (sInN (As := []) (rest := [.ref (G.2.2.1 + 127), .ref (G.2.2.1 + 120)]) (k := 127) Cx (t13_X0_init l G (uR (uR (uR (uR (uR (uR S 120 0 (.ref (G.2.2.1 + 121))) 120 1 (.ref (G.2.2.1 + 122))) 123 0 (.ref (G.2.2.1 + 124))) 120 2 (.ref (G.2.2.1 + 123))) 125 0 (.ref (G.2.2.1 + 126))) 120 3 (.ref (G.2.2.1 + 125)))) (c_X6_20 Cx rfl rfl ⟨Nat.le_of_ble_eq_true rfl, Nat.le_of_ble_eq_true rfl⟩) hW rfl hl.1 rfl (Nat.le_of_ble_eq_true rfl) dX6_init_49 ⟨Nat.le_of_ble_eq_true rfl, Nat.le_of_ble_eq_true rfl⟩) hL (fun u H locs hq hW hL => ?_)
  subst hq
  refine p_X6_28 Cx hnm hW hL (k := 120) (by decide) rfl dX6_init_52 (fun H locs hW hL => ?_)
  refine lv_aload_n hx hb dX6_init_55 rfl (lv_at hl 0 rfl) ?_
  refine n_X6_11 Cx hW rfl (Nat.le_of_ble_eq_true rfl) (Nat.le_of_ble_eq_true rfl) dX6_init_56 (fun H hW => ?_)
  refine lv_dup hx hb dX6_init_59 rfl ?_
  refine sBv (sInN (As := []) (rest := [.ref (G.2.2.1 + 129), .ref (G.2.2.1 + 120)]) (k := 129) Cx (t14_X0_init l G (uR (uR (uR (uR (uR (uR (uR (uR S 120 0 (.ref (G.2.2.1 + 121))) 120 1 (.ref (G.2.2.1 + 122))) 123 0 (.ref (G.2.2.1 + 124))) 120 2 (.ref (G.2.2.1 + 123))) 125 0 (.ref (G.2.2.1 + 126))) 120 3 (.ref (G.2.2.1 + 125))) 127 0 (.ref (G.2.2.1 + 128))) 120 4 (.ref (G.2.2.1 + 127)))) (c_X6_20 Cx rfl rfl ⟨Nat.le_of_ble_eq_true rfl, Nat.le_of_ble_eq_true rfl⟩) hW rfl hl.1 rfl (Nat.le_of_ble_eq_true rfl) dX6_init_60 ⟨Nat.le_of_ble_eq_true rfl, Nat.le_of_ble_eq_true rfl⟩) hL (fun u H locs hq hW hL => ?_)
  subst hq
  refine p_X6_31 Cx hnm hW hL (k := 120) (by decide) rfl dX6_init_63 (fun H locs hW hL => ?_)
  refine lv_aload_n hx hb dX6_init_66 rfl (lv_at hl 0 rfl) ?_
  refine n_X6_11 Cx hW rfl (Nat.le_of_ble_eq_true rfl) (Nat.le_of_ble_eq_true rfl) dX6_init_67 (fun H hW => ?_)
  refine lv_dup hx hb dX6_init_70 rfl ?_
  refine sBv (sInN (As := []) (rest := [.ref (G.2.2.1 + 131), .ref (G.2.2.1 + 120)]) (k := 131) Cx (t15_X0_init l G (uR (uR (uR (uR (uR (uR (uR (uR (uR (uR S 120 0 (.ref (G.2.2.1 + 121))) 120 1 (.ref (G.2.2.1 + 122))) 123 0 (.ref (G.2.2.1 + 124))) 120 2 (.ref (G.2.2.1 + 123))) 125 0 (.ref (G.2.2.1 + 126))) 120 3 (.ref (G.2.2.1 + 125))) 127 0 (.ref (G.2.2.1 + 128))) 120 4 (.ref (G.2.2.1 + 127))) 129 0 (.ref (G.2.2.1 + 130))) 120 5 (.ref (G.2.2.1 + 129)))) (c_X6_20 Cx rfl rfl ⟨Nat.le_of_ble_eq_true rfl, Nat.le_of_ble_eq_true rfl⟩) hW rfl hl.1 rfl (Nat.le_of_ble_eq_true rfl) dX6_init_71 ⟨Nat.le_of_ble_eq_true rfl, Nat.le_of_ble_eq_true rfl⟩) hL (fun u H locs hq hW hL => ?_)
  subst hq
  refine p_X6_34 Cx hnm hW hL (k := 120) (by decide) rfl dX6_init_74 (fun H locs hW hL => ?_)
  refine lv_aload_n hx hb dX6_init_77 rfl (lv_at hl 0 rfl) ?_
  refine n_X6_11 Cx hW rfl (Nat.le_of_ble_eq_true rfl) (Nat.le_of_ble_eq_true rfl) dX6_init_78 (fun H hW => ?_)
  refine lv_dup hx hb dX6_init_81 rfl ?_
  refine sBv (sInN (As := []) (rest := [.ref (G.2.2.1 + 133), .ref (G.2.2.1 + 120)]) (k := 133) Cx (t16_X0_init l G (uR (uR (uR (uR (uR (uR (uR (uR (uR (uR (uR (uR S 120 0 (.ref (G.2.2.1 + 121))) 120 1 (.ref (G.2.2.1 + 122))) 123 0 (.ref (G.2.2.1 + 124))) 120 2 (.ref (G.2.2.1 + 123))) 125 0 (.ref (G.2.2.1 + 126))) 120 3 (.ref (G.2.2.1 + 125))) 127 0 (.ref (G.2.2.1 + 128))) 120 4 (.ref (G.2.2.1 + 127))) 129 0 (.ref (G.2.2.1 + 130))) 120 5 (.ref (G.2.2.1 + 129))) 131 0 (.ref (G.2.2.1 + 132))) 120 6 (.ref (G.2.2.1 + 131)))) (c_X6_20 Cx rfl rfl ⟨Nat.le_of_ble_eq_true rfl, Nat.le_of_ble_eq_true rfl⟩) hW rfl hl.1 rfl (Nat.le_of_ble_eq_true rfl) dX6_init_82 ⟨Nat.le_of_ble_eq_true rfl, Nat.le_of_ble_eq_true rfl⟩) hL (fun u H locs hq hW hL => ?_)
  subst hq
  refine p_X6_37 Cx hnm hW hL (k := 120) (by decide) rfl dX6_init_85 (fun H locs hW hL => ?_)
  exact sVret Cx hr hlk hW hL rfl dX6_init_88

set_option maxRecDepth 100000 in
set_option maxHeartbeats 4000000 in
theorem t18_X0_init (l : Launch) (G : sG) (S : sS) : Met l yX0_init (.code yX0_init cX0_init 1 none :: tb) (rmk 1 1 32) (sPc G 142 S [.ref (G.2.2.1 + 141)]) (sQv G 143 (fun u => u = (uR S 141 0 (.ref (G.2.2.1 + 142))))) 1 32 (sF G) := by
  refine sEnter (by decide) (Nat.le_of_ble_eq_true rfl) ?_
  intro p e s m args below meth c Cx hr hlk hnm hW ls hl
  have Cx : sC G p m c cX0_init 1 s args RX0 := Cx
  obtain ⟨hx, hb, hml, hown, hts⟩ := id Cx.1
  have hL : sL G [] := sL_nil
  have hl : lv_has ls 1 [(0, .ref (G.2.2.1 + 141))] := hl
  refine lv_aload_n hx hb dX0_init_0 rfl (lv_at hl 0 rfl) ?_
  refine W.objInit hx hb hown (hts _ w_398) (hts _ w_233) (hts _ w_234) rfl (by rw [hml]; exact hl.1) rfl dX0_init_1 (Nat.le_of_ble_eq_true rfl) (Nat.le_of_ble_eq_true rfl) ?_
  refine W.eq (g2 := F0 m 4 ls []) rfl ?_
  refine lv_aload_n hx hb dX0_init_4 rfl (lv_at hl 0 rfl) ?_
  refine lv_bipush (v := iv 32) hx hb dX0_init_5 (by decide) ?_
  refine sNewa (atype := .int) (ty := .int) Cx (N := 32) rfl 0 rfl (fun U h => h) w_294 hW rfl (.inl rfl) (by decide) (by decide) (Nat.le_of_ble_eq_true rfl) (Nat.le_of_ble_eq_true rfl) (Nat.le_of_ble_eq_true rfl) dX0_init_7 (fun H hW => ?_)
  refine p_X0_9 Cx hnm hW hL (k := 141) (by decide) rfl dX0_init_9 (fun H locs hW hL => ?_)
  exact sVret Cx hr hlk hW hL rfl dX0_init_12

set_option maxRecDepth 100000 in
set_option maxHeartbeats 4000000 in
theorem t19_X0_init (l : Launch) (G : sG) (S : sS) : Met l yX0_init (.code yX0_init cX0_init 1 none :: tb) (rmk 1 1 32) (sPc G 144 S [.ref (G.2.2.1 + 143)]) (sQv G 145 (fun u => u = (uR S 143 0 (.ref (G.2.2.1 + 144))))) 1 32 (sF G) := by
  refine sEnter (by decide) (Nat.le_of_ble_eq_true rfl) ?_
  intro p e s m args below meth c Cx hr hlk hnm hW ls hl
  have Cx : sC G p m c cX0_init 1 s args RX0 := Cx
  obtain ⟨hx, hb, hml, hown, hts⟩ := id Cx.1
  have hL : sL G [] := sL_nil
  have hl : lv_has ls 1 [(0, .ref (G.2.2.1 + 143))] := hl
  refine lv_aload_n hx hb dX0_init_0 rfl (lv_at hl 0 rfl) ?_
  refine W.objInit hx hb hown (hts _ w_398) (hts _ w_233) (hts _ w_234) rfl (by rw [hml]; exact hl.1) rfl dX0_init_1 (Nat.le_of_ble_eq_true rfl) (Nat.le_of_ble_eq_true rfl) ?_
  refine W.eq (g2 := F0 m 4 ls []) rfl ?_
  refine lv_aload_n hx hb dX0_init_4 rfl (lv_at hl 0 rfl) ?_
  refine lv_bipush (v := iv 32) hx hb dX0_init_5 (by decide) ?_
  refine sNewa (atype := .int) (ty := .int) Cx (N := 32) rfl 0 rfl (fun U h => h) w_294 hW rfl (.inl rfl) (by decide) (by decide) (Nat.le_of_ble_eq_true rfl) (Nat.le_of_ble_eq_true rfl) (Nat.le_of_ble_eq_true rfl) dX0_init_7 (fun H hW => ?_)
  refine p_X0_9 Cx hnm hW hL (k := 143) (by decide) rfl dX0_init_9 (fun H locs hW hL => ?_)
  exact sVret Cx hr hlk hW hL rfl dX0_init_12

set_option maxRecDepth 100000 in
set_option maxHeartbeats 4000000 in
theorem t20_X0_init (l : Launch) (G : sG) (S : sS) : Met l yX0_init (.code yX0_init cX0_init 1 none :: tb) (rmk 1 1 32) (sPc G 146 S [.ref (G.2.2.1 + 145)]) (sQv G 147 (fun u => u = (uR S 145 0 (.ref (G.2.2.1 + 146))))) 1 32 (sF G) := by
  refine sEnter (by decide) (Nat.le_of_ble_eq_true rfl) ?_
  intro p e s m args below meth c Cx hr hlk hnm hW ls hl
  have Cx : sC G p m c cX0_init 1 s args RX0 := Cx
  obtain ⟨hx, hb, hml, hown, hts⟩ := id Cx.1
  have hL : sL G [] := sL_nil
  have hl : lv_has ls 1 [(0, .ref (G.2.2.1 + 145))] := hl
  refine lv_aload_n hx hb dX0_init_0 rfl (lv_at hl 0 rfl) ?_
  refine W.objInit hx hb hown (hts _ w_398) (hts _ w_233) (hts _ w_234) rfl (by rw [hml]; exact hl.1) rfl dX0_init_1 (Nat.le_of_ble_eq_true rfl) (Nat.le_of_ble_eq_true rfl) ?_
  refine W.eq (g2 := F0 m 4 ls []) rfl ?_
  refine lv_aload_n hx hb dX0_init_4 rfl (lv_at hl 0 rfl) ?_
  refine lv_bipush (v := iv 32) hx hb dX0_init_5 (by decide) ?_
  refine sNewa (atype := .int) (ty := .int) Cx (N := 32) rfl 0 rfl (fun U h => h) w_294 hW rfl (.inl rfl) (by decide) (by decide) (Nat.le_of_ble_eq_true rfl) (Nat.le_of_ble_eq_true rfl) (Nat.le_of_ble_eq_true rfl) dX0_init_7 (fun H hW => ?_)
  refine p_X0_9 Cx hnm hW hL (k := 145) (by decide) rfl dX0_init_9 (fun H locs hW hL => ?_)
  exact sVret Cx hr hlk hW hL rfl dX0_init_12

set_option maxRecDepth 100000 in
set_option maxHeartbeats 4000000 in
theorem t21_X0_init (l : Launch) (G : sG) (S : sS) : Met l yX0_init (.code yX0_init cX0_init 1 none :: tb) (rmk 1 1 32) (sPc G 148 S [.ref (G.2.2.1 + 147)]) (sQv G 149 (fun u => u = (uR S 147 0 (.ref (G.2.2.1 + 148))))) 1 32 (sF G) := by
  refine sEnter (by decide) (Nat.le_of_ble_eq_true rfl) ?_
  intro p e s m args below meth c Cx hr hlk hnm hW ls hl
  have Cx : sC G p m c cX0_init 1 s args RX0 := Cx
  obtain ⟨hx, hb, hml, hown, hts⟩ := id Cx.1
  have hL : sL G [] := sL_nil
  have hl : lv_has ls 1 [(0, .ref (G.2.2.1 + 147))] := hl
  refine lv_aload_n hx hb dX0_init_0 rfl (lv_at hl 0 rfl) ?_
  refine W.objInit hx hb hown (hts _ w_398) (hts _ w_233) (hts _ w_234) rfl (by rw [hml]; exact hl.1) rfl dX0_init_1 (Nat.le_of_ble_eq_true rfl) (Nat.le_of_ble_eq_true rfl) ?_
  refine W.eq (g2 := F0 m 4 ls []) rfl ?_
  refine lv_aload_n hx hb dX0_init_4 rfl (lv_at hl 0 rfl) ?_
  refine lv_bipush (v := iv 32) hx hb dX0_init_5 (by decide) ?_
  refine sNewa (atype := .int) (ty := .int) Cx (N := 32) rfl 0 rfl (fun U h => h) w_294 hW rfl (.inl rfl) (by decide) (by decide) (Nat.le_of_ble_eq_true rfl) (Nat.le_of_ble_eq_true rfl) (Nat.le_of_ble_eq_true rfl) dX0_init_7 (fun H hW => ?_)
  refine p_X0_9 Cx hnm hW hL (k := 147) (by decide) rfl dX0_init_9 (fun H locs hW hL => ?_)
  exact sVret Cx hr hlk hW hL rfl dX0_init_12

set_option maxRecDepth 100000 in
set_option maxHeartbeats 4000000 in
theorem t22_X0_init (l : Launch) (G : sG) (S : sS) : Met l yX0_init (.code yX0_init cX0_init 1 none :: tb) (rmk 1 1 32) (sPc G 150 S [.ref (G.2.2.1 + 149)]) (sQv G 151 (fun u => u = (uR S 149 0 (.ref (G.2.2.1 + 150))))) 1 32 (sF G) := by
  refine sEnter (by decide) (Nat.le_of_ble_eq_true rfl) ?_
  intro p e s m args below meth c Cx hr hlk hnm hW ls hl
  have Cx : sC G p m c cX0_init 1 s args RX0 := Cx
  obtain ⟨hx, hb, hml, hown, hts⟩ := id Cx.1
  have hL : sL G [] := sL_nil
  have hl : lv_has ls 1 [(0, .ref (G.2.2.1 + 149))] := hl
  refine lv_aload_n hx hb dX0_init_0 rfl (lv_at hl 0 rfl) ?_
  refine W.objInit hx hb hown (hts _ w_398) (hts _ w_233) (hts _ w_234) rfl (by rw [hml]; exact hl.1) rfl dX0_init_1 (Nat.le_of_ble_eq_true rfl) (Nat.le_of_ble_eq_true rfl) ?_
  refine W.eq (g2 := F0 m 4 ls []) rfl ?_
  refine lv_aload_n hx hb dX0_init_4 rfl (lv_at hl 0 rfl) ?_
  refine lv_bipush (v := iv 32) hx hb dX0_init_5 (by decide) ?_
  refine sNewa (atype := .int) (ty := .int) Cx (N := 32) rfl 0 rfl (fun U h => h) w_294 hW rfl (.inl rfl) (by decide) (by decide) (Nat.le_of_ble_eq_true rfl) (Nat.le_of_ble_eq_true rfl) (Nat.le_of_ble_eq_true rfl) dX0_init_7 (fun H hW => ?_)
  refine p_X0_9 Cx hnm hW hL (k := 149) (by decide) rfl dX0_init_9 (fun H locs hW hL => ?_)
  exact sVret Cx hr hlk hW hL rfl dX0_init_12

set_option maxRecDepth 100000 in
set_option maxHeartbeats 4000000 in
theorem t23_X0_init (l : Launch) (G : sG) (S : sS) : Met l yX0_init (.code yX0_init cX0_init 1 none :: tb) (rmk 1 1 32) (sPc G 152 S [.ref (G.2.2.1 + 151)]) (sQv G 153 (fun u => u = (uR S 151 0 (.ref (G.2.2.1 + 152))))) 1 32 (sF G) := by
  refine sEnter (by decide) (Nat.le_of_ble_eq_true rfl) ?_
  intro p e s m args below meth c Cx hr hlk hnm hW ls hl
  have Cx : sC G p m c cX0_init 1 s args RX0 := Cx
  obtain ⟨hx, hb, hml, hown, hts⟩ := id Cx.1
  have hL : sL G [] := sL_nil
  have hl : lv_has ls 1 [(0, .ref (G.2.2.1 + 151))] := hl
  refine lv_aload_n hx hb dX0_init_0 rfl (lv_at hl 0 rfl) ?_
  refine W.objInit hx hb hown (hts _ w_398) (hts _ w_233) (hts _ w_234) rfl (by rw [hml]; exact hl.1) rfl dX0_init_1 (Nat.le_of_ble_eq_true rfl) (Nat.le_of_ble_eq_true rfl) ?_
  refine W.eq (g2 := F0 m 4 ls []) rfl ?_
  refine lv_aload_n hx hb dX0_init_4 rfl (lv_at hl 0 rfl) ?_
  refine lv_bipush (v := iv 32) hx hb dX0_init_5 (by decide) ?_
  refine sNewa (atype := .int) (ty := .int) Cx (N := 32) rfl 0 rfl (fun U h => h) w_294 hW rfl (.inl rfl) (by decide) (by decide) (Nat.le_of_ble_eq_true rfl) (Nat.le_of_ble_eq_true rfl) (Nat.le_of_ble_eq_true rfl) dX0_init_7 (fun H hW => ?_)
  refine p_X0_9 Cx hnm hW hL (k := 151) (by decide) rfl dX0_init_9 (fun H locs hW hL => ?_)
  exact sVret Cx hr hlk hW hL rfl dX0_init_12

set_option maxRecDepth 100000 in
set_option maxHeartbeats 4000000 in
theorem t24_X0_init (l : Launch) (G : sG) (S : sS) : Met l yX0_init (.code yX0_init cX0_init 1 none :: tb) (rmk 1 1 32) (sPc G 154 S [.ref (G.2.2.1 + 153)]) (sQv G 155 (fun u => u = (uR S 153 0 (.ref (G.2.2.1 + 154))))) 1 32 (sF G) := by
  refine sEnter (by decide) (Nat.le_of_ble_eq_true rfl) ?_
  intro p e s m args below meth c Cx hr hlk hnm hW ls hl
  have Cx : sC G p m c cX0_init 1 s args RX0 := Cx
  obtain ⟨hx, hb, hml, hown, hts⟩ := id Cx.1
  have hL : sL G [] := sL_nil
  have hl : lv_has ls 1 [(0, .ref (G.2.2.1 + 153))] := hl
  refine lv_aload_n hx hb dX0_init_0 rfl (lv_at hl 0 rfl) ?_
  refine W.objInit hx hb hown (hts _ w_398) (hts _ w_233) (hts _ w_234) rfl (by rw [hml]; exact hl.1) rfl dX0_init_1 (Nat.le_of_ble_eq_true rfl) (Nat.le_of_ble_eq_true rfl) ?_
  refine W.eq (g2 := F0 m 4 ls []) rfl ?_
  refine lv_aload_n hx hb dX0_init_4 rfl (lv_at hl 0 rfl) ?_
  refine lv_bipush (v := iv 32) hx hb dX0_init_5 (by decide) ?_
  refine sNewa (atype := .int) (ty := .int) Cx (N := 32) rfl 0 rfl (fun U h => h) w_294 hW rfl (.inl rfl) (by decide) (by decide) (Nat.le_of_ble_eq_true rfl) (Nat.le_of_ble_eq_true rfl) (Nat.le_of_ble_eq_true rfl) dX0_init_7 (fun H hW => ?_)
  refine p_X0_9 Cx hnm hW hL (k := 153) (by decide) rfl dX0_init_9 (fun H locs hW hL => ?_)
  exact sVret Cx hr hlk hW hL rfl dX0_init_12

set_option maxRecDepth 100000 in
set_option maxHeartbeats 4000000 in
theorem t25_X0_init (l : Launch) (G : sG) (S : sS) : Met l yX0_init (.code yX0_init cX0_init 1 none :: tb) (rmk 1 1 32) (sPc G 156 S [.ref (G.2.2.1 + 155)]) (sQv G 157 (fun u => u = (uR S 155 0 (.ref (G.2.2.1 + 156))))) 1 32 (sF G) := by
  refine sEnter (by decide) (Nat.le_of_ble_eq_true rfl) ?_
  intro p e s m args below meth c Cx hr hlk hnm hW ls hl
  have Cx : sC G p m c cX0_init 1 s args RX0 := Cx
  obtain ⟨hx, hb, hml, hown, hts⟩ := id Cx.1
  have hL : sL G [] := sL_nil
  have hl : lv_has ls 1 [(0, .ref (G.2.2.1 + 155))] := hl
  refine lv_aload_n hx hb dX0_init_0 rfl (lv_at hl 0 rfl) ?_
  refine W.objInit hx hb hown (hts _ w_398) (hts _ w_233) (hts _ w_234) rfl (by rw [hml]; exact hl.1) rfl dX0_init_1 (Nat.le_of_ble_eq_true rfl) (Nat.le_of_ble_eq_true rfl) ?_
  refine W.eq (g2 := F0 m 4 ls []) rfl ?_
  refine lv_aload_n hx hb dX0_init_4 rfl (lv_at hl 0 rfl) ?_
  refine lv_bipush (v := iv 32) hx hb dX0_init_5 (by decide) ?_
  refine sNewa (atype := .int) (ty := .int) Cx (N := 32) rfl 0 rfl (fun U h => h) w_294 hW rfl (.inl rfl) (by decide) (by decide) (Nat.le_of_ble_eq_true rfl) (Nat.le_of_ble_eq_true rfl) (Nat.le_of_ble_eq_true rfl) dX0_init_7 (fun H hW => ?_)
  refine p_X0_9 Cx hnm hW hL (k := 155) (by decide) rfl dX0_init_9 (fun H locs hW hL => ?_)
  exact sVret Cx hr hlk hW hL rfl dX0_init_12

set_option maxRecDepth 100000 in
set_option maxHeartbeats 4000000 in
theorem t17_X2_init (l : Launch) (G : sG) (S : sS) : Met l yX2_init (.code yX2_init cX2_init 1 none :: tb) (rmk 2 21 112187) (sPc G 136 S [.ref (G.2.2.1 + 135)]) (sQv G 157 (fun u => u = (uR (uR (uR (uR (uR (uR (uR (uR (uR (uR (uR (uR (uR (uR (uR (uR (uR (uR (uR (uR (uR S 135 0 (.ref (G.2.2.1 + 136))) 135 1 (.ref (G.2.2.1 + 137))) 135 2 (.ref (G.2.2.1 + 138))) 135 3 (.ref (G.2.2.1 + 139))) 135 4 (.ref (G.2.2.1 + 140))) 141 0 (.ref (G.2.2.1 + 142))) 135 5 (.ref (G.2.2.1 + 141))) 143 0 (.ref (G.2.2.1 + 144))) 135 6 (.ref (G.2.2.1 + 143))) 145 0 (.ref (G.2.2.1 + 146))) 135 7 (.ref (G.2.2.1 + 145))) 147 0 (.ref (G.2.2.1 + 148))) 135 8 (.ref (G.2.2.1 + 147))) 149 0 (.ref (G.2.2.1 + 150))) 135 9 (.ref (G.2.2.1 + 149))) 151 0 (.ref (G.2.2.1 + 152))) 135 10 (.ref (G.2.2.1 + 151))) 153 0 (.ref (G.2.2.1 + 154))) 135 11 (.ref (G.2.2.1 + 153))) 155 0 (.ref (G.2.2.1 + 156))) 135 12 (.ref (G.2.2.1 + 155))))) 21 112187 (sF G) := by
  refine sEnter (by decide) (Nat.le_of_ble_eq_true rfl) ?_
  intro p e s m args below meth c Cx hr hlk hnm hW ls hl
  have Cx : sC G p m c cX2_init 1 s args RX2 := Cx
  obtain ⟨hx, hb, hml, hown, hts⟩ := id Cx.1
  have hL : sL G [] := sL_nil
  have hl : lv_has ls 1 [(0, .ref (G.2.2.1 + 135))] := hl
  refine lv_aload_n hx hb dX2_init_0 rfl (lv_at hl 0 rfl) ?_
  refine W.objInit hx hb hown (hts _ w_452) (hts _ w_233) (hts _ w_234) rfl (by rw [hml]; exact hl.1) rfl dX2_init_1 (Nat.le_of_ble_eq_true rfl) (Nat.le_of_ble_eq_true rfl) ?_
  refine W.eq (g2 := F0 m 4 ls []) rfl ?_
  refine lv_aload_n hx hb dX2_init_4 rfl (lv_at hl 0 rfl) ?_
  refine lv_sipush (v := iv 4816) hx hb dX2_init_5 (by decide) ?_
  refine sNewa (atype := .int) (ty := .int) Cx (N := 4816) rfl 0 rfl (fun U h => h) w_294 hW rfl (.inl rfl) (by decide) (by decide) (Nat.le_of_ble_eq_true rfl) (Nat.le_of_ble_eq_true rfl) (Nat.le_of_ble_eq_true rfl) dX2_init_8 (fun H hW => ?_)
  refine p_X2_13 Cx hW hL (k := 135) (by decide) rfl dX2_init_10 (fun H locs hW hL => ?_)
  refine lv_aload_n hx hb dX2_init_13 rfl (lv_at hl 0 rfl) ?_
  refine lv_sipush (v := iv 4816) hx hb dX2_init_14 (by decide) ?_
  refine sNewa (atype := .int) (ty := .int) Cx (N := 4816) rfl 0 rfl (fun U h => h) w_294 hW rfl (.inl rfl) (by decide) (by decide) (Nat.le_of_ble_eq_true rfl) (Nat.le_of_ble_eq_true rfl) (Nat.le_of_ble_eq_true rfl) dX2_init_17 (fun H hW => ?_)
  refine p_X2_17 Cx hW hL (k := 135) (by decide) rfl dX2_init_19 (fun H locs hW hL => ?_)
  refine lv_aload_n hx hb dX2_init_22 rfl (lv_at hl 0 rfl) ?_
  refine lv_bipush (v := iv 41) hx hb dX2_init_23 (by decide) ?_
  refine sNewa (atype := .int) (ty := .int) Cx (N := 41) rfl 0 rfl (fun U h => h) w_294 hW rfl (.inl rfl) (by decide) (by decide) (Nat.le_of_ble_eq_true rfl) (Nat.le_of_ble_eq_true rfl) (Nat.le_of_ble_eq_true rfl) dX2_init_25 (fun H hW => ?_)
  refine p_X2_20 Cx hnm hW hL (k := 135) (by decide) rfl dX2_init_27 (fun H locs hW hL => ?_)
  refine lv_aload_n hx hb dX2_init_30 rfl (lv_at hl 0 rfl) ?_
  refine lv_bipush (v := iv 14) hx hb dX2_init_31 (by decide) ?_
  refine sNewa (atype := .int) (ty := .int) Cx (N := 14) rfl 0 rfl (fun U h => h) w_294 hW rfl (.inl rfl) (by decide) (by decide) (Nat.le_of_ble_eq_true rfl) (Nat.le_of_ble_eq_true rfl) (Nat.le_of_ble_eq_true rfl) dX2_init_33 (fun H hW => ?_)
  refine p_X2_23 Cx hnm hW hL (k := 135) (by decide) rfl dX2_init_35 (fun H locs hW hL => ?_)
  refine lv_aload_n hx hb dX2_init_38 rfl (lv_at hl 0 rfl) ?_
  refine lv_ldc hx hb hown (hts _ w_453) dX2_init_39 ?_
  refine sNewa (atype := .int) (ty := .int) Cx (N := 102220) rfl 0 rfl (fun U h => h) w_294 hW rfl (.inl rfl) (by decide) (by decide) (Nat.le_of_ble_eq_true rfl) (Nat.le_of_ble_eq_true rfl) (Nat.le_of_ble_eq_true rfl) dX2_init_41 (fun H hW => ?_)
  refine p_X2_27 Cx hnm hW hL (k := 135) (by decide) rfl dX2_init_43 (fun H locs hW hL => ?_)
  refine lv_aload_n hx hb dX2_init_46 rfl (lv_at hl 0 rfl) ?_
  refine n_X2_3 Cx hW rfl (Nat.le_of_ble_eq_true rfl) (Nat.le_of_ble_eq_true rfl) dX2_init_47 (fun H hW => ?_)
  refine lv_dup hx hb dX2_init_50 rfl ?_
  refine sBv (sInN (As := []) (rest := [.ref (G.2.2.1 + 141), .ref (G.2.2.1 + 135)]) (k := 141) Cx (t18_X0_init l G (uR (uR (uR (uR (uR S 135 0 (.ref (G.2.2.1 + 136))) 135 1 (.ref (G.2.2.1 + 137))) 135 2 (.ref (G.2.2.1 + 138))) 135 3 (.ref (G.2.2.1 + 139))) 135 4 (.ref (G.2.2.1 + 140)))) (c_X2_30 Cx rfl rfl ⟨Nat.le_of_ble_eq_true rfl, Nat.le_of_ble_eq_true rfl⟩) hW rfl hl.1 rfl (Nat.le_of_ble_eq_true rfl) dX2_init_51 ⟨Nat.le_of_ble_eq_true rfl, Nat.le_of_ble_eq_true rfl⟩) hL (fun u H locs hq hW hL => ?_)
  subst hq
  refine p_X2_31 Cx hnm hW hL (k := 135) (by decide) rfl dX2_init_54 (fun H locs hW hL => ?_)
  refine lv_aload_n hx hb dX2_init_57 rfl (lv_at hl 0 rfl) ?_
  refine n_X2_3 Cx hW rfl (Nat.le_of_ble_eq_true rfl) (Nat.le_of_ble_eq_true rfl) dX2_init_58 (fun H hW => ?_)
  refine lv_dup hx hb dX2_init_61 rfl ?_
  refine sBv (sInN (As := []) (rest := [.ref (G.2.2.1 + 143), .ref (G.2.2.1 + 135)]) (k := 143) Cx (t19_X0_init l G (uR (uR (uR (uR (uR (uR (uR S 135 0 (.ref (G.2.2.1 + 136))) 135 1 (.ref (G.2.2.1 + 137))) 135 2 (.ref (G.2.2.1 + 138))) 135 3 (.ref (G.2.2.1 + 139))) 135 4 (.ref (G.2.2.1 + 140))) 141 0 (.ref (G.2.2.1 + 142))) 135 5 (.ref (G.2.2.1 + 141)))) (c_X2_30 Cx rfl rfl ⟨Nat.le_of_ble_eq_true rfl, Nat.le_of_ble_eq_true rfl⟩) hW rfl hl.1 rfl (Nat.le_of_ble_eq_true rfl) dX2_init_62 ⟨Nat.le_of_ble_eq_true rfl, Nat.le_of_ble_eq_true rfl⟩) hL (fun u H locs hq hW hL => ?_)
  subst hq
  refine p_X2_35 Cx hnm hW hL (k := 135) (by decide) rfl dX2_init_65 (fun H locs hW hL => ?_)
  refine lv_aload_n hx hb dX2_init_68 rfl (lv_at hl 0 rfl) ?_
  refine n_X2_3 Cx hW rfl (Nat.le_of_ble_eq_true rfl) (Nat.le_of_ble_eq_true rfl) dX2_init_69 (fun H hW => ?_)
  refine lv_dup hx hb dX2_init_72 rfl ?_
  refine sBv (sInN (As := []) (rest := [.ref (G.2.2.1 + 145), .ref (G.2.2.1 + 135)]) (k := 145) Cx (t20_X0_init l G (uR (uR (uR (uR (uR (uR (uR (uR (uR S 135 0 (.ref (G.2.2.1 + 136))) 135 1 (.ref (G.2.2.1 + 137))) 135 2 (.ref (G.2.2.1 + 138))) 135 3 (.ref (G.2.2.1 + 139))) 135 4 (.ref (G.2.2.1 + 140))) 141 0 (.ref (G.2.2.1 + 142))) 135 5 (.ref (G.2.2.1 + 141))) 143 0 (.ref (G.2.2.1 + 144))) 135 6 (.ref (G.2.2.1 + 143)))) (c_X2_30 Cx rfl rfl ⟨Nat.le_of_ble_eq_true rfl, Nat.le_of_ble_eq_true rfl⟩) hW rfl hl.1 rfl (Nat.le_of_ble_eq_true rfl) dX2_init_73 ⟨Nat.le_of_ble_eq_true rfl, Nat.le_of_ble_eq_true rfl⟩) hL (fun u H locs hq hW hL => ?_)
  subst hq
  refine p_X2_38 Cx hnm hW hL (k := 135) (by decide) rfl dX2_init_76 (fun H locs hW hL => ?_)
  refine lv_aload_n hx hb dX2_init_79 rfl (lv_at hl 0 rfl) ?_
  refine n_X2_3 Cx hW rfl (Nat.le_of_ble_eq_true rfl) (Nat.le_of_ble_eq_true rfl) dX2_init_80 (fun H hW => ?_)
  refine lv_dup hx hb dX2_init_83 rfl ?_
  refine sBv (sInN (As := []) (rest := [.ref (G.2.2.1 + 147), .ref (G.2.2.1 + 135)]) (k := 147) Cx (t21_X0_init l G (uR (uR (uR (uR (uR (uR (uR (uR (uR (uR (uR S 135 0 (.ref (G.2.2.1 + 136))) 135 1 (.ref (G.2.2.1 + 137))) 135 2 (.ref (G.2.2.1 + 138))) 135 3 (.ref (G.2.2.1 + 139))) 135 4 (.ref (G.2.2.1 + 140))) 141 0 (.ref (G.2.2.1 + 142))) 135 5 (.ref (G.2.2.1 + 141))) 143 0 (.ref (G.2.2.1 + 144))) 135 6 (.ref (G.2.2.1 + 143))) 145 0 (.ref (G.2.2.1 + 146))) 135 7 (.ref (G.2.2.1 + 145)))) (c_X2_30 Cx rfl rfl ⟨Nat.le_of_ble_eq_true rfl, Nat.le_of_ble_eq_true rfl⟩) hW rfl hl.1 rfl (Nat.le_of_ble_eq_true rfl) dX2_init_84 ⟨Nat.le_of_ble_eq_true rfl, Nat.le_of_ble_eq_true rfl⟩) hL (fun u H locs hq hW hL => ?_)
  subst hq
  refine p_X2_41 Cx hnm hW hL (k := 135) (by decide) rfl dX2_init_87 (fun H locs hW hL => ?_)
  refine lv_aload_n hx hb dX2_init_90 rfl (lv_at hl 0 rfl) ?_
  refine n_X2_3 Cx hW rfl (Nat.le_of_ble_eq_true rfl) (Nat.le_of_ble_eq_true rfl) dX2_init_91 (fun H hW => ?_)
  refine lv_dup hx hb dX2_init_94 rfl ?_
  refine sBv (sInN (As := []) (rest := [.ref (G.2.2.1 + 149), .ref (G.2.2.1 + 135)]) (k := 149) Cx (t22_X0_init l G (uR (uR (uR (uR (uR (uR (uR (uR (uR (uR (uR (uR (uR S 135 0 (.ref (G.2.2.1 + 136))) 135 1 (.ref (G.2.2.1 + 137))) 135 2 (.ref (G.2.2.1 + 138))) 135 3 (.ref (G.2.2.1 + 139))) 135 4 (.ref (G.2.2.1 + 140))) 141 0 (.ref (G.2.2.1 + 142))) 135 5 (.ref (G.2.2.1 + 141))) 143 0 (.ref (G.2.2.1 + 144))) 135 6 (.ref (G.2.2.1 + 143))) 145 0 (.ref (G.2.2.1 + 146))) 135 7 (.ref (G.2.2.1 + 145))) 147 0 (.ref (G.2.2.1 + 148))) 135 8 (.ref (G.2.2.1 + 147)))) (c_X2_30 Cx rfl rfl ⟨Nat.le_of_ble_eq_true rfl, Nat.le_of_ble_eq_true rfl⟩) hW rfl hl.1 rfl (Nat.le_of_ble_eq_true rfl) dX2_init_95 ⟨Nat.le_of_ble_eq_true rfl, Nat.le_of_ble_eq_true rfl⟩) hL (fun u H locs hq hW hL => ?_)
  subst hq
  refine p_X2_44 Cx hnm hW hL (k := 135) (by decide) rfl dX2_init_98 (fun H locs hW hL => ?_)
  refine lv_aload_n hx hb dX2_init_101 rfl (lv_at hl 0 rfl) ?_
  refine n_X2_3 Cx hW rfl (Nat.le_of_ble_eq_true rfl) (Nat.le_of_ble_eq_true rfl) dX2_init_102 (fun H hW => ?_)
  refine lv_dup hx hb dX2_init_105 rfl ?_
  refine sBv (sInN (As := []) (rest := [.ref (G.2.2.1 + 151), .ref (G.2.2.1 + 135)]) (k := 151) Cx (t23_X0_init l G (uR (uR (uR (uR (uR (uR (uR (uR (uR (uR (uR (uR (uR (uR (uR S 135 0 (.ref (G.2.2.1 + 136))) 135 1 (.ref (G.2.2.1 + 137))) 135 2 (.ref (G.2.2.1 + 138))) 135 3 (.ref (G.2.2.1 + 139))) 135 4 (.ref (G.2.2.1 + 140))) 141 0 (.ref (G.2.2.1 + 142))) 135 5 (.ref (G.2.2.1 + 141))) 143 0 (.ref (G.2.2.1 + 144))) 135 6 (.ref (G.2.2.1 + 143))) 145 0 (.ref (G.2.2.1 + 146))) 135 7 (.ref (G.2.2.1 + 145))) 147 0 (.ref (G.2.2.1 + 148))) 135 8 (.ref (G.2.2.1 + 147))) 149 0 (.ref (G.2.2.1 + 150))) 135 9 (.ref (G.2.2.1 + 149)))) (c_X2_30 Cx rfl rfl ⟨Nat.le_of_ble_eq_true rfl, Nat.le_of_ble_eq_true rfl⟩) hW rfl hl.1 rfl (Nat.le_of_ble_eq_true rfl) dX2_init_106 ⟨Nat.le_of_ble_eq_true rfl, Nat.le_of_ble_eq_true rfl⟩) hL (fun u H locs hq hW hL => ?_)
  subst hq
  refine p_X2_47 Cx hnm hW hL (k := 135) (by decide) rfl dX2_init_109 (fun H locs hW hL => ?_)
  refine lv_aload_n hx hb dX2_init_112 rfl (lv_at hl 0 rfl) ?_
  refine n_X2_3 Cx hW rfl (Nat.le_of_ble_eq_true rfl) (Nat.le_of_ble_eq_true rfl) dX2_init_113 (fun H hW => ?_)
  refine lv_dup hx hb dX2_init_116 rfl ?_
  refine sBv (sInN (As := []) (rest := [.ref (G.2.2.1 + 153), .ref (G.2.2.1 + 135)]) (k := 153) Cx (t24_X0_init l G (uR (uR (uR (uR (uR (uR (uR (uR (uR (uR (uR (uR (uR (uR (uR (uR (uR S 135 0 (.ref (G.2.2.1 + 136))) 135 1 (.ref (G.2.2.1 + 137))) 135 2 (.ref (G.2.2.1 + 138))) 135 3 (.ref (G.2.2.1 + 139))) 135 4 (.ref (G.2.2.1 + 140))) 141 0 (.ref (G.2.2.1 + 142))) 135 5 (.ref (G.2.2.1 + 141))) 143 0 (.ref (G.2.2.1 + 144))) 135 6 (.ref (G.2.2.1 + 143))) 145 0 (.ref (G.2.2.1 + 146))) 135 7 (.ref (G.2.2.1 + 145))) 147 0 (.ref (G.2.2.1 + 148))) 135 8 (.ref (G.2.2.1 + 147))) 149 0 (.ref (G.2.2.1 + 150))) 135 9 (.ref (G.2.2.1 + 149))) 151 0 (.ref (G.2.2.1 + 152))) 135 10 (.ref (G.2.2.1 + 151)))) (c_X2_30 Cx rfl rfl ⟨Nat.le_of_ble_eq_true rfl, Nat.le_of_ble_eq_true rfl⟩) hW rfl hl.1 rfl (Nat.le_of_ble_eq_true rfl) dX2_init_117 ⟨Nat.le_of_ble_eq_true rfl, Nat.le_of_ble_eq_true rfl⟩) hL (fun u H locs hq hW hL => ?_)
  subst hq
  refine p_X2_50 Cx hnm hW hL (k := 135) (by decide) rfl dX2_init_120 (fun H locs hW hL => ?_)
  refine lv_aload_n hx hb dX2_init_123 rfl (lv_at hl 0 rfl) ?_
  refine n_X2_3 Cx hW rfl (Nat.le_of_ble_eq_true rfl) (Nat.le_of_ble_eq_true rfl) dX2_init_124 (fun H hW => ?_)
  refine lv_dup hx hb dX2_init_127 rfl ?_
  refine sBv (sInN (As := []) (rest := [.ref (G.2.2.1 + 155), .ref (G.2.2.1 + 135)]) (k := 155) Cx (t25_X0_init l G (uR (uR (uR (uR (uR (uR (uR (uR (uR (uR (uR (uR (uR (uR (uR (uR (uR (uR (uR S 135 0 (.ref (G.2.2.1 + 136))) 135 1 (.ref (G.2.2.1 + 137))) 135 2 (.ref (G.2.2.1 + 138))) 135 3 (.ref (G.2.2.1 + 139))) 135 4 (.ref (G.2.2.1 + 140))) 141 0 (.ref (G.2.2.1 + 142))) 135 5 (.ref (G.2.2.1 + 141))) 143 0 (.ref (G.2.2.1 + 144))) 135 6 (.ref (G.2.2.1 + 143))) 145 0 (.ref (G.2.2.1 + 146))) 135 7 (.ref (G.2.2.1 + 145))) 147 0 (.ref (G.2.2.1 + 148))) 135 8 (.ref (G.2.2.1 + 147))) 149 0 (.ref (G.2.2.1 + 150))) 135 9 (.ref (G.2.2.1 + 149))) 151 0 (.ref (G.2.2.1 + 152))) 135 10 (.ref (G.2.2.1 + 151))) 153 0 (.ref (G.2.2.1 + 154))) 135 11 (.ref (G.2.2.1 + 153)))) (c_X2_30 Cx rfl rfl ⟨Nat.le_of_ble_eq_true rfl, Nat.le_of_ble_eq_true rfl⟩) hW rfl hl.1 rfl (Nat.le_of_ble_eq_true rfl) dX2_init_128 ⟨Nat.le_of_ble_eq_true rfl, Nat.le_of_ble_eq_true rfl⟩) hL (fun u H locs hq hW hL => ?_)
  subst hq
  refine p_X2_53 Cx hnm hW hL (k := 135) (by decide) rfl dX2_init_131 (fun H locs hW hL => ?_)
  exact sVret Cx hr hlk hW hL rfl dX2_init_134

set_option maxRecDepth 100000 in
set_option maxHeartbeats 4000000 in
theorem t27_X10_init (l : Launch) (G : sG) (S : sS) : Met l yX10_init (.code yX10_init cX10_init 2 none :: tb) (rmk 1 1 1500) (sPc G 159 S [.ref (G.2.2.1 + 158), .int (iv 1500)]) (sQv G 160 (fun u => u = (uR S 158 0 (.ref (G.2.2.1 + 159))))) 1 1500 (sF G) := by
  refine sEnter (by decide) (Nat.le_of_ble_eq_true rfl) ?_
  intro p e s m args below meth c Cx hr hlk hnm hW ls hl
  have Cx : sC G p m c cX10_init 2 s args RX10 := Cx
  obtain ⟨hx, hb, hml, hown, hts⟩ := id Cx.1
  have hL : sL G [] := sL_nil
  have hl : lv_has ls 2 [(0, .ref (G.2.2.1 + 158)), (1, .int (iv 1500))] := hl
  refine lv_aload_n hx hb dX10_init_0 rfl (lv_at hl 0 rfl) ?_
  refine W.objInit hx hb hown (hts _ w_240) (hts _ w_233) (hts _ w_234) rfl (by rw [hml]; exact hl.1) rfl dX10_init_1 (Nat.le_of_ble_eq_true rfl) (Nat.le_of_ble_eq_true rfl) ?_
  refine W.eq (g2 := F0 m 4 ls []) rfl ?_
  refine lv_aload_n hx hb dX10_init_4 rfl (lv_at hl 0 rfl) ?_
  refine lv_iload_n hx hb dX10_init_5 rfl (lv_at hl 1 rfl) ?_
  refine lv_iconst (v := iv 0) hx hb dX10_init_6 (by decide) ?_
  refine r_max hx hb (hml.trans hl.1.symm) hown (hts _ w_241) (hts _ w_242) (hts _ w_206) (hts _ w_243) (Nat.le_of_ble_eq_true rfl) (Nat.le_of_ble_eq_true rfl) (Nat.le_of_ble_eq_true rfl) (Nat.le_of_ble_eq_true rfl) (by decide) (by decide) dX10_init_7 (fun z hz => ?_)
  obtain rfl : z = 1500 := by omega
  refine sNewa (atype := .byte) (ty := .byte) Cx (N := 1500) rfl 2 rfl (fun U h => h) w_254 hW rfl (.inl rfl) (by decide) (by decide) (Nat.le_of_ble_eq_true rfl) (Nat.le_of_ble_eq_true rfl) (Nat.le_of_ble_eq_true rfl) dX10_init_10 (fun H hW => ?_)
  refine p_X10_15 Cx hnm hW hL (k := 158) (by decide) rfl dX10_init_12 (fun H locs hW hL => ?_)
  exact sVret Cx hr hlk hW hL rfl dX10_init_15

set_option maxRecDepth 100000 in
set_option maxHeartbeats 4000000 in
theorem t28_X10_init (l : Launch) (G : sG) (S : sS) : Met l yX10_init (.code yX10_init cX10_init 2 none :: tb) (rmk 1 1 30000) (sPc G 161 S [.ref (G.2.2.1 + 160), .int (iv 30000)]) (sQv G 162 (fun u => u = (uR S 160 0 (.ref (G.2.2.1 + 161))))) 1 30000 (sF G) := by
  refine sEnter (by decide) (Nat.le_of_ble_eq_true rfl) ?_
  intro p e s m args below meth c Cx hr hlk hnm hW ls hl
  have Cx : sC G p m c cX10_init 2 s args RX10 := Cx
  obtain ⟨hx, hb, hml, hown, hts⟩ := id Cx.1
  have hL : sL G [] := sL_nil
  have hl : lv_has ls 2 [(0, .ref (G.2.2.1 + 160)), (1, .int (iv 30000))] := hl
  refine lv_aload_n hx hb dX10_init_0 rfl (lv_at hl 0 rfl) ?_
  refine W.objInit hx hb hown (hts _ w_240) (hts _ w_233) (hts _ w_234) rfl (by rw [hml]; exact hl.1) rfl dX10_init_1 (Nat.le_of_ble_eq_true rfl) (Nat.le_of_ble_eq_true rfl) ?_
  refine W.eq (g2 := F0 m 4 ls []) rfl ?_
  refine lv_aload_n hx hb dX10_init_4 rfl (lv_at hl 0 rfl) ?_
  refine lv_iload_n hx hb dX10_init_5 rfl (lv_at hl 1 rfl) ?_
  refine lv_iconst (v := iv 0) hx hb dX10_init_6 (by decide) ?_
  refine r_max hx hb (hml.trans hl.1.symm) hown (hts _ w_241) (hts _ w_242) (hts _ w_206) (hts _ w_243) (Nat.le_of_ble_eq_true rfl) (Nat.le_of_ble_eq_true rfl) (Nat.le_of_ble_eq_true rfl) (Nat.le_of_ble_eq_true rfl) (by decide) (by decide) dX10_init_7 (fun z hz => ?_)
  obtain rfl : z = 30000 := by omega
  refine sNewa (atype := .byte) (ty := .byte) Cx (N := 30000) rfl 2 rfl (fun U h => h) w_254 hW rfl (.inl rfl) (by decide) (by decide) (Nat.le_of_ble_eq_true rfl) (Nat.le_of_ble_eq_true rfl) (Nat.le_of_ble_eq_true rfl) dX10_init_10 (fun H hW => ?_)
  refine p_X10_15 Cx hnm hW hL (k := 160) (by decide) rfl dX10_init_12 (fun H locs hW hL => ?_)
  exact sVret Cx hr hlk hW hL rfl dX10_init_15

set_option maxRecDepth 100000 in
set_option maxHeartbeats 4000000 in
theorem t29_X0_init (l : Launch) (G : sG) (S : sS) : Met l yX0_init (.code yX0_init cX0_init 1 none :: tb) (rmk 1 1 32) (sPc G 164 S [.ref (G.2.2.1 + 163)]) (sQv G 165 (fun u => u = (uR S 163 0 (.ref (G.2.2.1 + 164))))) 1 32 (sF G) := by
  refine sEnter (by decide) (Nat.le_of_ble_eq_true rfl) ?_
  intro p e s m args below meth c Cx hr hlk hnm hW ls hl
  have Cx : sC G p m c cX0_init 1 s args RX0 := Cx
  obtain ⟨hx, hb, hml, hown, hts⟩ := id Cx.1
  have hL : sL G [] := sL_nil
  have hl : lv_has ls 1 [(0, .ref (G.2.2.1 + 163))] := hl
  refine lv_aload_n hx hb dX0_init_0 rfl (lv_at hl 0 rfl) ?_
  refine W.objInit hx hb hown (hts _ w_398) (hts _ w_233) (hts _ w_234) rfl (by rw [hml]; exact hl.1) rfl dX0_init_1 (Nat.le_of_ble_eq_true rfl) (Nat.le_of_ble_eq_true rfl) ?_
  refine W.eq (g2 := F0 m 4 ls []) rfl ?_
  refine lv_aload_n hx hb dX0_init_4 rfl (lv_at hl 0 rfl) ?_
  refine lv_bipush (v := iv 32) hx hb dX0_init_5 (by decide) ?_
  refine sNewa (atype := .int) (ty := .int) Cx (N := 32) rfl 0 rfl (fun U h => h) w_294 hW rfl (.inl rfl) (by decide) (by decide) (Nat.le_of_ble_eq_true rfl) (Nat.le_of_ble_eq_true rfl) (Nat.le_of_ble_eq_true rfl) dX0_init_7 (fun H hW => ?_)
  refine p_X0_9 Cx hnm hW hL (k := 163) (by decide) rfl dX0_init_9 (fun H locs hW hL => ?_)
  exact sVret Cx hr hlk hW hL rfl dX0_init_12

set_option maxRecDepth 100000 in
set_option maxHeartbeats 4000000 in
theorem t30_X0_init (l : Launch) (G : sG) (S : sS) : Met l yX0_init (.code yX0_init cX0_init 1 none :: tb) (rmk 1 1 32) (sPc G 166 S [.ref (G.2.2.1 + 165)]) (sQv G 167 (fun u => u = (uR S 165 0 (.ref (G.2.2.1 + 166))))) 1 32 (sF G) := by
  refine sEnter (by decide) (Nat.le_of_ble_eq_true rfl) ?_
  intro p e s m args below meth c Cx hr hlk hnm hW ls hl
  have Cx : sC G p m c cX0_init 1 s args RX0 := Cx
  obtain ⟨hx, hb, hml, hown, hts⟩ := id Cx.1
  have hL : sL G [] := sL_nil
  have hl : lv_has ls 1 [(0, .ref (G.2.2.1 + 165))] := hl
  refine lv_aload_n hx hb dX0_init_0 rfl (lv_at hl 0 rfl) ?_
  refine W.objInit hx hb hown (hts _ w_398) (hts _ w_233) (hts _ w_234) rfl (by rw [hml]; exact hl.1) rfl dX0_init_1 (Nat.le_of_ble_eq_true rfl) (Nat.le_of_ble_eq_true rfl) ?_
  refine W.eq (g2 := F0 m 4 ls []) rfl ?_
  refine lv_aload_n hx hb dX0_init_4 rfl (lv_at hl 0 rfl) ?_
  refine lv_bipush (v := iv 32) hx hb dX0_init_5 (by decide) ?_
  refine sNewa (atype := .int) (ty := .int) Cx (N := 32) rfl 0 rfl (fun U h => h) w_294 hW rfl (.inl rfl) (by decide) (by decide) (Nat.le_of_ble_eq_true rfl) (Nat.le_of_ble_eq_true rfl) (Nat.le_of_ble_eq_true rfl) dX0_init_7 (fun H hW => ?_)
  refine p_X0_9 Cx hnm hW hL (k := 165) (by decide) rfl dX0_init_9 (fun H locs hW hL => ?_)
  exact sVret Cx hr hlk hW hL rfl dX0_init_12

set_option maxRecDepth 100000 in
set_option maxHeartbeats 4000000 in
theorem t31_X0_init (l : Launch) (G : sG) (S : sS) : Met l yX0_init (.code yX0_init cX0_init 1 none :: tb) (rmk 1 1 32) (sPc G 168 S [.ref (G.2.2.1 + 167)]) (sQv G 169 (fun u => u = (uR S 167 0 (.ref (G.2.2.1 + 168))))) 1 32 (sF G) := by
  refine sEnter (by decide) (Nat.le_of_ble_eq_true rfl) ?_
  intro p e s m args below meth c Cx hr hlk hnm hW ls hl
  have Cx : sC G p m c cX0_init 1 s args RX0 := Cx
  obtain ⟨hx, hb, hml, hown, hts⟩ := id Cx.1
  have hL : sL G [] := sL_nil
  have hl : lv_has ls 1 [(0, .ref (G.2.2.1 + 167))] := hl
  refine lv_aload_n hx hb dX0_init_0 rfl (lv_at hl 0 rfl) ?_
  refine W.objInit hx hb hown (hts _ w_398) (hts _ w_233) (hts _ w_234) rfl (by rw [hml]; exact hl.1) rfl dX0_init_1 (Nat.le_of_ble_eq_true rfl) (Nat.le_of_ble_eq_true rfl) ?_
  refine W.eq (g2 := F0 m 4 ls []) rfl ?_
  refine lv_aload_n hx hb dX0_init_4 rfl (lv_at hl 0 rfl) ?_
  refine lv_bipush (v := iv 32) hx hb dX0_init_5 (by decide) ?_
  refine sNewa (atype := .int) (ty := .int) Cx (N := 32) rfl 0 rfl (fun U h => h) w_294 hW rfl (.inl rfl) (by decide) (by decide) (Nat.le_of_ble_eq_true rfl) (Nat.le_of_ble_eq_true rfl) (Nat.le_of_ble_eq_true rfl) dX0_init_7 (fun H hW => ?_)
  refine p_X0_9 Cx hnm hW hL (k := 167) (by decide) rfl dX0_init_9 (fun H locs hW hL => ?_)
  exact sVret Cx hr hlk hW hL rfl dX0_init_12

set_option maxRecDepth 100000 in
set_option maxHeartbeats 4000000 in
theorem t32_X0_init (l : Launch) (G : sG) (S : sS) : Met l yX0_init (.code yX0_init cX0_init 1 none :: tb) (rmk 1 1 32) (sPc G 170 S [.ref (G.2.2.1 + 169)]) (sQv G 171 (fun u => u = (uR S 169 0 (.ref (G.2.2.1 + 170))))) 1 32 (sF G) := by
  refine sEnter (by decide) (Nat.le_of_ble_eq_true rfl) ?_
  intro p e s m args below meth c Cx hr hlk hnm hW ls hl
  have Cx : sC G p m c cX0_init 1 s args RX0 := Cx
  obtain ⟨hx, hb, hml, hown, hts⟩ := id Cx.1
  have hL : sL G [] := sL_nil
  have hl : lv_has ls 1 [(0, .ref (G.2.2.1 + 169))] := hl
  refine lv_aload_n hx hb dX0_init_0 rfl (lv_at hl 0 rfl) ?_
  refine W.objInit hx hb hown (hts _ w_398) (hts _ w_233) (hts _ w_234) rfl (by rw [hml]; exact hl.1) rfl dX0_init_1 (Nat.le_of_ble_eq_true rfl) (Nat.le_of_ble_eq_true rfl) ?_
  refine W.eq (g2 := F0 m 4 ls []) rfl ?_
  refine lv_aload_n hx hb dX0_init_4 rfl (lv_at hl 0 rfl) ?_
  refine lv_bipush (v := iv 32) hx hb dX0_init_5 (by decide) ?_
  refine sNewa (atype := .int) (ty := .int) Cx (N := 32) rfl 0 rfl (fun U h => h) w_294 hW rfl (.inl rfl) (by decide) (by decide) (Nat.le_of_ble_eq_true rfl) (Nat.le_of_ble_eq_true rfl) (Nat.le_of_ble_eq_true rfl) dX0_init_7 (fun H hW => ?_)
  refine p_X0_9 Cx hnm hW hL (k := 169) (by decide) rfl dX0_init_9 (fun H locs hW hL => ?_)
  exact sVret Cx hr hlk hW hL rfl dX0_init_12

set_option maxRecDepth 100000 in
set_option maxHeartbeats 4000000 in
theorem t33_X0_init (l : Launch) (G : sG) (S : sS) : Met l yX0_init (.code yX0_init cX0_init 1 none :: tb) (rmk 1 1 32) (sPc G 172 S [.ref (G.2.2.1 + 171)]) (sQv G 173 (fun u => u = (uR S 171 0 (.ref (G.2.2.1 + 172))))) 1 32 (sF G) := by
  refine sEnter (by decide) (Nat.le_of_ble_eq_true rfl) ?_
  intro p e s m args below meth c Cx hr hlk hnm hW ls hl
  have Cx : sC G p m c cX0_init 1 s args RX0 := Cx
  obtain ⟨hx, hb, hml, hown, hts⟩ := id Cx.1
  have hL : sL G [] := sL_nil
  have hl : lv_has ls 1 [(0, .ref (G.2.2.1 + 171))] := hl
  refine lv_aload_n hx hb dX0_init_0 rfl (lv_at hl 0 rfl) ?_
  refine W.objInit hx hb hown (hts _ w_398) (hts _ w_233) (hts _ w_234) rfl (by rw [hml]; exact hl.1) rfl dX0_init_1 (Nat.le_of_ble_eq_true rfl) (Nat.le_of_ble_eq_true rfl) ?_
  refine W.eq (g2 := F0 m 4 ls []) rfl ?_
  refine lv_aload_n hx hb dX0_init_4 rfl (lv_at hl 0 rfl) ?_
  refine lv_bipush (v := iv 32) hx hb dX0_init_5 (by decide) ?_
  refine sNewa (atype := .int) (ty := .int) Cx (N := 32) rfl 0 rfl (fun U h => h) w_294 hW rfl (.inl rfl) (by decide) (by decide) (Nat.le_of_ble_eq_true rfl) (Nat.le_of_ble_eq_true rfl) (Nat.le_of_ble_eq_true rfl) dX0_init_7 (fun H hW => ?_)
  refine p_X0_9 Cx hnm hW hL (k := 171) (by decide) rfl dX0_init_9 (fun H locs hW hL => ?_)
  exact sVret Cx hr hlk hW hL rfl dX0_init_12

set_option maxRecDepth 100000 in
set_option maxHeartbeats 4000000 in
theorem t34_X0_init (l : Launch) (G : sG) (S : sS) : Met l yX0_init (.code yX0_init cX0_init 1 none :: tb) (rmk 1 1 32) (sPc G 174 S [.ref (G.2.2.1 + 173)]) (sQv G 175 (fun u => u = (uR S 173 0 (.ref (G.2.2.1 + 174))))) 1 32 (sF G) := by
  refine sEnter (by decide) (Nat.le_of_ble_eq_true rfl) ?_
  intro p e s m args below meth c Cx hr hlk hnm hW ls hl
  have Cx : sC G p m c cX0_init 1 s args RX0 := Cx
  obtain ⟨hx, hb, hml, hown, hts⟩ := id Cx.1
  have hL : sL G [] := sL_nil
  have hl : lv_has ls 1 [(0, .ref (G.2.2.1 + 173))] := hl
  refine lv_aload_n hx hb dX0_init_0 rfl (lv_at hl 0 rfl) ?_
  refine W.objInit hx hb hown (hts _ w_398) (hts _ w_233) (hts _ w_234) rfl (by rw [hml]; exact hl.1) rfl dX0_init_1 (Nat.le_of_ble_eq_true rfl) (Nat.le_of_ble_eq_true rfl) ?_
  refine W.eq (g2 := F0 m 4 ls []) rfl ?_
  refine lv_aload_n hx hb dX0_init_4 rfl (lv_at hl 0 rfl) ?_
  refine lv_bipush (v := iv 32) hx hb dX0_init_5 (by decide) ?_
  refine sNewa (atype := .int) (ty := .int) Cx (N := 32) rfl 0 rfl (fun U h => h) w_294 hW rfl (.inl rfl) (by decide) (by decide) (Nat.le_of_ble_eq_true rfl) (Nat.le_of_ble_eq_true rfl) (Nat.le_of_ble_eq_true rfl) dX0_init_7 (fun H hW => ?_)
  refine p_X0_9 Cx hnm hW hL (k := 173) (by decide) rfl dX0_init_9 (fun H locs hW hL => ?_)
  exact sVret Cx hr hlk hW hL rfl dX0_init_12

set_option maxRecDepth 100000 in
set_option maxHeartbeats 4000000 in
theorem t35_X0_init (l : Launch) (G : sG) (S : sS) : Met l yX0_init (.code yX0_init cX0_init 1 none :: tb) (rmk 1 1 32) (sPc G 176 S [.ref (G.2.2.1 + 175)]) (sQv G 177 (fun u => u = (uR S 175 0 (.ref (G.2.2.1 + 176))))) 1 32 (sF G) := by
  refine sEnter (by decide) (Nat.le_of_ble_eq_true rfl) ?_
  intro p e s m args below meth c Cx hr hlk hnm hW ls hl
  have Cx : sC G p m c cX0_init 1 s args RX0 := Cx
  obtain ⟨hx, hb, hml, hown, hts⟩ := id Cx.1
  have hL : sL G [] := sL_nil
  have hl : lv_has ls 1 [(0, .ref (G.2.2.1 + 175))] := hl
  refine lv_aload_n hx hb dX0_init_0 rfl (lv_at hl 0 rfl) ?_
  refine W.objInit hx hb hown (hts _ w_398) (hts _ w_233) (hts _ w_234) rfl (by rw [hml]; exact hl.1) rfl dX0_init_1 (Nat.le_of_ble_eq_true rfl) (Nat.le_of_ble_eq_true rfl) ?_
  refine W.eq (g2 := F0 m 4 ls []) rfl ?_
  refine lv_aload_n hx hb dX0_init_4 rfl (lv_at hl 0 rfl) ?_
  refine lv_bipush (v := iv 32) hx hb dX0_init_5 (by decide) ?_
  refine sNewa (atype := .int) (ty := .int) Cx (N := 32) rfl 0 rfl (fun U h => h) w_294 hW rfl (.inl rfl) (by decide) (by decide) (Nat.le_of_ble_eq_true rfl) (Nat.le_of_ble_eq_true rfl) (Nat.le_of_ble_eq_true rfl) dX0_init_7 (fun H hW => ?_)
  refine p_X0_9 Cx hnm hW hL (k := 175) (by decide) rfl dX0_init_9 (fun H locs hW hL => ?_)
  exact sVret Cx hr hlk hW hL rfl dX0_init_12

set_option maxRecDepth 100000 in
set_option maxHeartbeats 4000000 in
theorem t26_X5_init (l : Launch) (G : sG) (S : sS) : Met l yX5_init (.code yX5_init cX5_init 1 none :: tb) (rmk 2 19 31863) (sPc G 158 S [.ref (G.2.2.1 + 157)]) (sQv G 177 (fun u => u = (uR (uR (uR (uR (uR (uR (uR (uR (uR (uR (uR (uR (uR (uR (uR (uR (uR (uR (uR S 158 0 (.ref (G.2.2.1 + 159))) 157 0 (.ref (G.2.2.1 + 158))) 160 0 (.ref (G.2.2.1 + 161))) 157 1 (.ref (G.2.2.1 + 160))) 157 2 (.ref (G.2.2.1 + 162))) 163 0 (.ref (G.2.2.1 + 164))) 157 3 (.ref (G.2.2.1 + 163))) 165 0 (.ref (G.2.2.1 + 166))) 157 4 (.ref (G.2.2.1 + 165))) 167 0 (.ref (G.2.2.1 + 168))) 157 5 (.ref (G.2.2.1 + 167))) 169 0 (.ref (G.2.2.1 + 170))) 157 6 (.ref (G.2.2.1 + 169))) 171 0 (.ref (G.2.2.1 + 172))) 157 7 (.ref (G.2.2.1 + 171))) 173 0 (.ref (G.2.2.1 + 174))) 157 8 (.ref (G.2.2.1 + 173))) 175 0 (.ref (G.2.2.1 + 176))) 157 9 (.ref (G.2.2.1 + 175))))) 19 31863 (sF G) := by
  refine sEnter (by decide) (Nat.le_of_ble_eq_true rfl) ?_
  intro p e s m args below meth c Cx hr hlk hnm hW ls hl
  have Cx : sC G p m c cX5_init 1 s args RX5 := Cx
  obtain ⟨hx, hb, hml, hown, hts⟩ := id Cx.1
  have hL : sL G [] := sL_nil
  have hl : lv_has ls 1 [(0, .ref (G.2.2.1 + 157))] := hl
  refine lv_aload_n hx hb dX5_init_0 rfl (lv_at hl 0 rfl) ?_
  refine W.objInit hx hb hown (hts _ w_522) (hts _ w_233) (hts _ w_234) rfl (by rw [hml]; exact hl.1) rfl dX5_init_1 (Nat.le_of_ble_eq_true rfl) (Nat.le_of_ble_eq_true rfl) ?_
  refine W.eq (g2 := F0 m 4 ls []) rfl ?_
  refine lv_aload_n hx hb dX5_init_4 rfl (lv_at hl 0 rfl) ?_
  refine n_X5_9 Cx hW rfl (Nat.le_of_ble_eq_true rfl) (Nat.le_of_ble_eq_true rfl) dX5_init_5 (fun H hW => ?_)
  refine lv_dup hx hb dX5_init_8 rfl ?_
  refine lv_sipush (v := iv 1500) hx hb dX5_init_9 (by decide) ?_
  refine sBv (sIn (As := [.int (iv 1500)]) (rest := [.ref (G.2.2.1 + 158), .ref (G.2.2.1 + 157)]) (k := 158) Cx (t27_X10_init l G S) (c_X5_13 Cx rfl rfl ⟨Nat.le_of_ble_eq_true rfl, Nat.le_of_ble_eq_true rfl⟩) hW rfl hl.1 rfl (Nat.le_of_ble_eq_true rfl) dX5_init_12 ⟨Nat.le_of_ble_eq_true rfl, Nat.le_of_ble_eq_true rfl⟩) hL (fun u H locs hq hW hL => ?_)
  subst hq
  refine p_X5_16 Cx hnm hW hL (k := 157) (by decide) rfl dX5_init_15 (fun H locs hW hL => ?_)
  refine lv_aload_n hx hb dX5_init_18 rfl (lv_at hl 0 rfl) ?_
  refine n_X5_9 Cx hW rfl (Nat.le_of_ble_eq_true rfl) (Nat.le_of_ble_eq_true rfl) dX5_init_19 (fun H hW => ?_)
  refine lv_dup hx hb dX5_init_22 rfl ?_
  refine lv_sipush (v := iv 30000) hx hb dX5_init_23 (by decide) ?_
  refine sBv (sIn (As := [.int (iv 30000)]) (rest := [.ref (G.2.2.1 + 160), .ref (G.2.2.1 + 157)]) (k := 160) Cx (t28_X10_init l G (uR (uR S 158 0 (.ref (G.2.2.1 + 159))) 157 0 (.ref (G.2.2.1 + 158)))) (c_X5_13 Cx rfl rfl ⟨Nat.le_of_ble_eq_true rfl, Nat.le_of_ble_eq_true rfl⟩) hW rfl hl.1 rfl (Nat.le_of_ble_eq_true rfl) dX5_init_26 ⟨Nat.le_of_ble_eq_true rfl, Nat.le_of_ble_eq_true rfl⟩) hL (fun u H locs hq hW hL => ?_)
  subst hq
  refine p_X5_20 Cx hnm hW hL (k := 157) (by decide) rfl dX5_init_29 (fun H locs hW hL => ?_)
  refine lv_aload_n hx hb dX5_init_32 rfl (lv_at hl 0 rfl) ?_
  refine lv_bipush (v := iv 112) hx hb dX5_init_33 (by decide) ?_
  refine sNewa (atype := .int) (ty := .int) Cx (N := 112) rfl 0 rfl (fun U h => h) w_294 hW rfl (.inl rfl) (by decide) (by decide) (Nat.le_of_ble_eq_true rfl) (Nat.le_of_ble_eq_true rfl) (Nat.le_of_ble_eq_true rfl) dX5_init_35 (fun H hW => ?_)
  refine p_X5_25 Cx hnm hW hL (k := 157) (by decide) rfl dX5_init_37 (fun H locs hW hL => ?_)
  refine lv_aload_n hx hb dX5_init_40 rfl (lv_at hl 0 rfl) ?_
  refine n_X5_23 Cx hW rfl (Nat.le_of_ble_eq_true rfl) (Nat.le_of_ble_eq_true rfl) dX5_init_41 (fun H hW => ?_)
  refine lv_dup hx hb dX5_init_44 rfl ?_
  refine sBv (sInN (As := []) (rest := [.ref (G.2.2.1 + 163), .ref (G.2.2.1 + 157)]) (k := 163) Cx (t29_X0_init l G (uR (uR (uR (uR (uR S 158 0 (.ref (G.2.2.1 + 159))) 157 0 (.ref (G.2.2.1 + 158))) 160 0 (.ref (G.2.2.1 + 161))) 157 1 (.ref (G.2.2.1 + 160))) 157 2 (.ref (G.2.2.1 + 162)))) (c_X5_29 Cx rfl rfl ⟨Nat.le_of_ble_eq_true rfl, Nat.le_of_ble_eq_true rfl⟩) hW rfl hl.1 rfl (Nat.le_of_ble_eq_true rfl) dX5_init_45 ⟨Nat.le_of_ble_eq_true rfl, Nat.le_of_ble_eq_true rfl⟩) hL (fun u H locs hq hW hL => ?_)
  subst hq
  refine p_X5_30 Cx hnm hW hL (k := 157) (by decide) rfl dX5_init_48 (fun H locs hW hL => ?_)
  refine lv_aload_n hx hb dX5_init_51 rfl (lv_at hl 0 rfl) ?_
  refine n_X5_23 Cx hW rfl (Nat.le_of_ble_eq_true rfl) (Nat.le_of_ble_eq_true rfl) dX5_init_52 (fun H hW => ?_)
  refine lv_dup hx hb dX5_init_55 rfl ?_
  refine sBv (sInN (As := []) (rest := [.ref (G.2.2.1 + 165), .ref (G.2.2.1 + 157)]) (k := 165) Cx (t30_X0_init l G (uR (uR (uR (uR (uR (uR (uR S 158 0 (.ref (G.2.2.1 + 159))) 157 0 (.ref (G.2.2.1 + 158))) 160 0 (.ref (G.2.2.1 + 161))) 157 1 (.ref (G.2.2.1 + 160))) 157 2 (.ref (G.2.2.1 + 162))) 163 0 (.ref (G.2.2.1 + 164))) 157 3 (.ref (G.2.2.1 + 163)))) (c_X5_29 Cx rfl rfl ⟨Nat.le_of_ble_eq_true rfl, Nat.le_of_ble_eq_true rfl⟩) hW rfl hl.1 rfl (Nat.le_of_ble_eq_true rfl) dX5_init_56 ⟨Nat.le_of_ble_eq_true rfl, Nat.le_of_ble_eq_true rfl⟩) hL (fun u H locs hq hW hL => ?_)
  subst hq
  refine p_X5_34 Cx hnm hW hL (k := 157) (by decide) rfl dX5_init_59 (fun H locs hW hL => ?_)
  refine lv_aload_n hx hb dX5_init_62 rfl (lv_at hl 0 rfl) ?_
  refine n_X5_23 Cx hW rfl (Nat.le_of_ble_eq_true rfl) (Nat.le_of_ble_eq_true rfl) dX5_init_63 (fun H hW => ?_)
  refine lv_dup hx hb dX5_init_66 rfl ?_
  refine sBv (sInN (As := []) (rest := [.ref (G.2.2.1 + 167), .ref (G.2.2.1 + 157)]) (k := 167) Cx (t31_X0_init l G (uR (uR (uR (uR (uR (uR (uR (uR (uR S 158 0 (.ref (G.2.2.1 + 159))) 157 0 (.ref (G.2.2.1 + 158))) 160 0 (.ref (G.2.2.1 + 161))) 157 1 (.ref (G.2.2.1 + 160))) 157 2 (.ref (G.2.2.1 + 162))) 163 0 (.ref (G.2.2.1 + 164))) 157 3 (.ref (G.2.2.1 + 163))) 165 0 (.ref (G.2.2.1 + 166))) 157 4 (.ref (G.2.2.1 + 165)))) (c_X5_29 Cx rfl rfl ⟨Nat.le_of_ble_eq_true rfl, Nat.le_of_ble_eq_true rfl⟩) hW rfl hl.1 rfl (Nat.le_of_ble_eq_true rfl) dX5_init_67 ⟨Nat.le_of_ble_eq_true rfl, Nat.le_of_ble_eq_true rfl⟩) hL (fun u H locs hq hW hL => ?_)
  subst hq
  refine p_X5_37 Cx hnm hW hL (k := 157) (by decide) rfl dX5_init_70 (fun H locs hW hL => ?_)
  refine lv_aload_n hx hb dX5_init_73 rfl (lv_at hl 0 rfl) ?_
  refine n_X5_23 Cx hW rfl (Nat.le_of_ble_eq_true rfl) (Nat.le_of_ble_eq_true rfl) dX5_init_74 (fun H hW => ?_)
  refine lv_dup hx hb dX5_init_77 rfl ?_
  refine sBv (sInN (As := []) (rest := [.ref (G.2.2.1 + 169), .ref (G.2.2.1 + 157)]) (k := 169) Cx (t32_X0_init l G (uR (uR (uR (uR (uR (uR (uR (uR (uR (uR (uR S 158 0 (.ref (G.2.2.1 + 159))) 157 0 (.ref (G.2.2.1 + 158))) 160 0 (.ref (G.2.2.1 + 161))) 157 1 (.ref (G.2.2.1 + 160))) 157 2 (.ref (G.2.2.1 + 162))) 163 0 (.ref (G.2.2.1 + 164))) 157 3 (.ref (G.2.2.1 + 163))) 165 0 (.ref (G.2.2.1 + 166))) 157 4 (.ref (G.2.2.1 + 165))) 167 0 (.ref (G.2.2.1 + 168))) 157 5 (.ref (G.2.2.1 + 167)))) (c_X5_29 Cx rfl rfl ⟨Nat.le_of_ble_eq_true rfl, Nat.le_of_ble_eq_true rfl⟩) hW rfl hl.1 rfl (Nat.le_of_ble_eq_true rfl) dX5_init_78 ⟨Nat.le_of_ble_eq_true rfl, Nat.le_of_ble_eq_true rfl⟩) hL (fun u H locs hq hW hL => ?_)
  subst hq
  refine p_X5_40 Cx hnm hW hL (k := 157) (by decide) rfl dX5_init_81 (fun H locs hW hL => ?_)
  refine lv_aload_n hx hb dX5_init_84 rfl (lv_at hl 0 rfl) ?_
  refine n_X5_23 Cx hW rfl (Nat.le_of_ble_eq_true rfl) (Nat.le_of_ble_eq_true rfl) dX5_init_85 (fun H hW => ?_)
  refine lv_dup hx hb dX5_init_88 rfl ?_
  refine sBv (sInN (As := []) (rest := [.ref (G.2.2.1 + 171), .ref (G.2.2.1 + 157)]) (k := 171) Cx (t33_X0_init l G (uR (uR (uR (uR (uR (uR (uR (uR (uR (uR (uR (uR (uR S 158 0 (.ref (G.2.2.1 + 159))) 157 0 (.ref (G.2.2.1 + 158))) 160 0 (.ref (G.2.2.1 + 161))) 157 1 (.ref (G.2.2.1 + 160))) 157 2 (.ref (G.2.2.1 + 162))) 163 0 (.ref (G.2.2.1 + 164))) 157 3 (.ref (G.2.2.1 + 163))) 165 0 (.ref (G.2.2.1 + 166))) 157 4 (.ref (G.2.2.1 + 165))) 167 0 (.ref (G.2.2.1 + 168))) 157 5 (.ref (G.2.2.1 + 167))) 169 0 (.ref (G.2.2.1 + 170))) 157 6 (.ref (G.2.2.1 + 169)))) (c_X5_29 Cx rfl rfl ⟨Nat.le_of_ble_eq_true rfl, Nat.le_of_ble_eq_true rfl⟩) hW rfl hl.1 rfl (Nat.le_of_ble_eq_true rfl) dX5_init_89 ⟨Nat.le_of_ble_eq_true rfl, Nat.le_of_ble_eq_true rfl⟩) hL (fun u H locs hq hW hL => ?_)
  subst hq
  refine p_X5_43 Cx hnm hW hL (k := 157) (by decide) rfl dX5_init_92 (fun H locs hW hL => ?_)
  refine lv_aload_n hx hb dX5_init_95 rfl (lv_at hl 0 rfl) ?_
  refine n_X5_23 Cx hW rfl (Nat.le_of_ble_eq_true rfl) (Nat.le_of_ble_eq_true rfl) dX5_init_96 (fun H hW => ?_)
  refine lv_dup hx hb dX5_init_99 rfl ?_
  refine sBv (sInN (As := []) (rest := [.ref (G.2.2.1 + 173), .ref (G.2.2.1 + 157)]) (k := 173) Cx (t34_X0_init l G (uR (uR (uR (uR (uR (uR (uR (uR (uR (uR (uR (uR (uR (uR (uR S 158 0 (.ref (G.2.2.1 + 159))) 157 0 (.ref (G.2.2.1 + 158))) 160 0 (.ref (G.2.2.1 + 161))) 157 1 (.ref (G.2.2.1 + 160))) 157 2 (.ref (G.2.2.1 + 162))) 163 0 (.ref (G.2.2.1 + 164))) 157 3 (.ref (G.2.2.1 + 163))) 165 0 (.ref (G.2.2.1 + 166))) 157 4 (.ref (G.2.2.1 + 165))) 167 0 (.ref (G.2.2.1 + 168))) 157 5 (.ref (G.2.2.1 + 167))) 169 0 (.ref (G.2.2.1 + 170))) 157 6 (.ref (G.2.2.1 + 169))) 171 0 (.ref (G.2.2.1 + 172))) 157 7 (.ref (G.2.2.1 + 171)))) (c_X5_29 Cx rfl rfl ⟨Nat.le_of_ble_eq_true rfl, Nat.le_of_ble_eq_true rfl⟩) hW rfl hl.1 rfl (Nat.le_of_ble_eq_true rfl) dX5_init_100 ⟨Nat.le_of_ble_eq_true rfl, Nat.le_of_ble_eq_true rfl⟩) hL (fun u H locs hq hW hL => ?_)
  subst hq
  refine p_X5_46 Cx hnm hW hL (k := 157) (by decide) rfl dX5_init_103 (fun H locs hW hL => ?_)
  refine lv_aload_n hx hb dX5_init_106 rfl (lv_at hl 0 rfl) ?_
  refine n_X5_23 Cx hW rfl (Nat.le_of_ble_eq_true rfl) (Nat.le_of_ble_eq_true rfl) dX5_init_107 (fun H hW => ?_)
  refine lv_dup hx hb dX5_init_110 rfl ?_
  refine sBv (sInN (As := []) (rest := [.ref (G.2.2.1 + 175), .ref (G.2.2.1 + 157)]) (k := 175) Cx (t35_X0_init l G (uR (uR (uR (uR (uR (uR (uR (uR (uR (uR (uR (uR (uR (uR (uR (uR (uR S 158 0 (.ref (G.2.2.1 + 159))) 157 0 (.ref (G.2.2.1 + 158))) 160 0 (.ref (G.2.2.1 + 161))) 157 1 (.ref (G.2.2.1 + 160))) 157 2 (.ref (G.2.2.1 + 162))) 163 0 (.ref (G.2.2.1 + 164))) 157 3 (.ref (G.2.2.1 + 163))) 165 0 (.ref (G.2.2.1 + 166))) 157 4 (.ref (G.2.2.1 + 165))) 167 0 (.ref (G.2.2.1 + 168))) 157 5 (.ref (G.2.2.1 + 167))) 169 0 (.ref (G.2.2.1 + 170))) 157 6 (.ref (G.2.2.1 + 169))) 171 0 (.ref (G.2.2.1 + 172))) 157 7 (.ref (G.2.2.1 + 171))) 173 0 (.ref (G.2.2.1 + 174))) 157 8 (.ref (G.2.2.1 + 173)))) (c_X5_29 Cx rfl rfl ⟨Nat.le_of_ble_eq_true rfl, Nat.le_of_ble_eq_true rfl⟩) hW rfl hl.1 rfl (Nat.le_of_ble_eq_true rfl) dX5_init_111 ⟨Nat.le_of_ble_eq_true rfl, Nat.le_of_ble_eq_true rfl⟩) hL (fun u H locs hq hW hL => ?_)
  subst hq
  refine p_X5_49 Cx hnm hW hL (k := 157) (by decide) rfl dX5_init_114 (fun H locs hW hL => ?_)
  exact sVret Cx hr hlk hW hL rfl dX5_init_117

set_option maxRecDepth 100000 in
set_option maxHeartbeats 4000000 in
theorem t36_X0_init (l : Launch) (G : sG) (S : sS) : Met l yX0_init (.code yX0_init cX0_init 1 none :: tb) (rmk 1 1 32) (sPc G 178 S [.ref (G.2.2.1 + 177)]) (sQv G 179 (fun u => u = (uR S 177 0 (.ref (G.2.2.1 + 178))))) 1 32 (sF G) := by
  refine sEnter (by decide) (Nat.le_of_ble_eq_true rfl) ?_
  intro p e s m args below meth c Cx hr hlk hnm hW ls hl
  have Cx : sC G p m c cX0_init 1 s args RX0 := Cx
  obtain ⟨hx, hb, hml, hown, hts⟩ := id Cx.1
  have hL : sL G [] := sL_nil
  have hl : lv_has ls 1 [(0, .ref (G.2.2.1 + 177))] := hl
  refine lv_aload_n hx hb dX0_init_0 rfl (lv_at hl 0 rfl) ?_
  refine W.objInit hx hb hown (hts _ w_398) (hts _ w_233) (hts _ w_234) rfl (by rw [hml]; exact hl.1) rfl dX0_init_1 (Nat.le_of_ble_eq_true rfl) (Nat.le_of_ble_eq_true rfl) ?_
  refine W.eq (g2 := F0 m 4 ls []) rfl ?_
  refine lv_aload_n hx hb dX0_init_4 rfl (lv_at hl 0 rfl) ?_
  refine lv_bipush (v := iv 32) hx hb dX0_init_5 (by decide) ?_
  refine sNewa (atype := .int) (ty := .int) Cx (N := 32) rfl 0 rfl (fun U h => h) w_294 hW rfl (.inl rfl) (by decide) (by decide) (Nat.le_of_ble_eq_true rfl) (Nat.le_of_ble_eq_true rfl) (Nat.le_of_ble_eq_true rfl) dX0_init_7 (fun H hW => ?_)
  refine p_X0_9 Cx hnm hW hL (k := 177) (by decide) rfl dX0_init_9 (fun H locs hW hL => ?_)
  exact sVret Cx hr hlk hW hL rfl dX0_init_12

set_option maxRecDepth 100000 in
set_option maxHeartbeats 4000000 in
theorem t37_X0_init (l : Launch) (G : sG) (S : sS) : Met l yX0_init (.code yX0_init cX0_init 1 none :: tb) (rmk 1 1 32) (sPc G 180 S [.ref (G.2.2.1 + 179)]) (sQv G 181 (fun u => u = (uR S 179 0 (.ref (G.2.2.1 + 180))))) 1 32 (sF G) := by
  refine sEnter (by decide) (Nat.le_of_ble_eq_true rfl) ?_
  intro p e s m args below meth c Cx hr hlk hnm hW ls hl
  have Cx : sC G p m c cX0_init 1 s args RX0 := Cx
  obtain ⟨hx, hb, hml, hown, hts⟩ := id Cx.1
  have hL : sL G [] := sL_nil
  have hl : lv_has ls 1 [(0, .ref (G.2.2.1 + 179))] := hl
  refine lv_aload_n hx hb dX0_init_0 rfl (lv_at hl 0 rfl) ?_
  refine W.objInit hx hb hown (hts _ w_398) (hts _ w_233) (hts _ w_234) rfl (by rw [hml]; exact hl.1) rfl dX0_init_1 (Nat.le_of_ble_eq_true rfl) (Nat.le_of_ble_eq_true rfl) ?_
  refine W.eq (g2 := F0 m 4 ls []) rfl ?_
  refine lv_aload_n hx hb dX0_init_4 rfl (lv_at hl 0 rfl) ?_
  refine lv_bipush (v := iv 32) hx hb dX0_init_5 (by decide) ?_
  refine sNewa (atype := .int) (ty := .int) Cx (N := 32) rfl 0 rfl (fun U h => h) w_294 hW rfl (.inl rfl) (by decide) (by decide) (Nat.le_of_ble_eq_true rfl) (Nat.le_of_ble_eq_true rfl) (Nat.le_of_ble_eq_true rfl) dX0_init_7 (fun H hW => ?_)
  refine p_X0_9 Cx hnm hW hL (k := 179) (by decide) rfl dX0_init_9 (fun H locs hW hL => ?_)
  exact sVret Cx hr hlk hW hL rfl dX0_init_12

set_option maxRecDepth 100000 in
set_option maxHeartbeats 4000000 in
theorem t38_X0_init (l : Launch) (G : sG) (S : sS) : Met l yX0_init (.code yX0_init cX0_init 1 none :: tb) (rmk 1 1 32) (sPc G 182 S [.ref (G.2.2.1 + 181)]) (sQv G 183 (fun u => u = (uR S 181 0 (.ref (G.2.2.1 + 182))))) 1 32 (sF G) := by
  refine sEnter (by decide) (Nat.le_of_ble_eq_true rfl) ?_
  intro p e s m args below meth c Cx hr hlk hnm hW ls hl
  have Cx : sC G p m c cX0_init 1 s args RX0 := Cx
  obtain ⟨hx, hb, hml, hown, hts⟩ := id Cx.1
  have hL : sL G [] := sL_nil
  have hl : lv_has ls 1 [(0, .ref (G.2.2.1 + 181))] := hl
  refine lv_aload_n hx hb dX0_init_0 rfl (lv_at hl 0 rfl) ?_
  refine W.objInit hx hb hown (hts _ w_398) (hts _ w_233) (hts _ w_234) rfl (by rw [hml]; exact hl.1) rfl dX0_init_1 (Nat.le_of_ble_eq_true rfl) (Nat.le_of_ble_eq_true rfl) ?_
  refine W.eq (g2 := F0 m 4 ls []) rfl ?_
  refine lv_aload_n hx hb dX0_init_4 rfl (lv_at hl 0 rfl) ?_
  refine lv_bipush (v := iv 32) hx hb dX0_init_5 (by decide) ?_
  refine sNewa (atype := .int) (ty := .int) Cx (N := 32) rfl 0 rfl (fun U h => h) w_294 hW rfl (.inl rfl) (by decide) (by decide) (Nat.le_of_ble_eq_true rfl) (Nat.le_of_ble_eq_true rfl) (Nat.le_of_ble_eq_true rfl) dX0_init_7 (fun H hW => ?_)
  refine p_X0_9 Cx hnm hW hL (k := 181) (by decide) rfl dX0_init_9 (fun H locs hW hL => ?_)
  exact sVret Cx hr hlk hW hL rfl dX0_init_12

set_option maxRecDepth 100000 in
set_option maxHeartbeats 4000000 in
theorem t39_X0_init (l : Launch) (G : sG) (S : sS) : Met l yX0_init (.code yX0_init cX0_init 1 none :: tb) (rmk 1 1 32) (sPc G 184 S [.ref (G.2.2.1 + 183)]) (sQv G 185 (fun u => u = (uR S 183 0 (.ref (G.2.2.1 + 184))))) 1 32 (sF G) := by
  refine sEnter (by decide) (Nat.le_of_ble_eq_true rfl) ?_
  intro p e s m args below meth c Cx hr hlk hnm hW ls hl
  have Cx : sC G p m c cX0_init 1 s args RX0 := Cx
  obtain ⟨hx, hb, hml, hown, hts⟩ := id Cx.1
  have hL : sL G [] := sL_nil
  have hl : lv_has ls 1 [(0, .ref (G.2.2.1 + 183))] := hl
  refine lv_aload_n hx hb dX0_init_0 rfl (lv_at hl 0 rfl) ?_
  refine W.objInit hx hb hown (hts _ w_398) (hts _ w_233) (hts _ w_234) rfl (by rw [hml]; exact hl.1) rfl dX0_init_1 (Nat.le_of_ble_eq_true rfl) (Nat.le_of_ble_eq_true rfl) ?_
  refine W.eq (g2 := F0 m 4 ls []) rfl ?_
  refine lv_aload_n hx hb dX0_init_4 rfl (lv_at hl 0 rfl) ?_
  refine lv_bipush (v := iv 32) hx hb dX0_init_5 (by decide) ?_
  refine sNewa (atype := .int) (ty := .int) Cx (N := 32) rfl 0 rfl (fun U h => h) w_294 hW rfl (.inl rfl) (by decide) (by decide) (Nat.le_of_ble_eq_true rfl) (Nat.le_of_ble_eq_true rfl) (Nat.le_of_ble_eq_true rfl) dX0_init_7 (fun H hW => ?_)
  refine p_X0_9 Cx hnm hW hL (k := 183) (by decide) rfl dX0_init_9 (fun H locs hW hL => ?_)
  exact sVret Cx hr hlk hW hL rfl dX0_init_12

set_option maxRecDepth 100000 in
set_option maxHeartbeats 4000000 in
theorem t40_X3_init (l : Launch) (G : sG) (S : sS) : Met l yX3_init (.code yX3_init cX3_init 1 none :: tb) (rmk 1 2 234) (sPc G 186 S [.ref (G.2.2.1 + 185)]) (sQv G 188 (fun u => u = (uR (uR S 185 0 (.ref (G.2.2.1 + 186))) 185 1 (.ref (G.2.2.1 + 187))))) 2 234 (sF G) := by
  refine sEnter (by decide) (Nat.le_of_ble_eq_true rfl) ?_
  intro p e s m args below meth c Cx hr hlk hnm hW ls hl
  have Cx : sC G p m c cX3_init 1 s args RX3 := Cx
  obtain ⟨hx, hb, hml, hown, hts⟩ := id Cx.1
  have hL : sL G [] := sL_nil
  have hl : lv_has ls 1 [(0, .ref (G.2.2.1 + 185))] := hl
  refine lv_aload_n hx hb dX3_init_0 rfl (lv_at hl 0 rfl) ?_
  refine W.objInit hx hb hown (hts _ w_260) (hts _ w_233) (hts _ w_234) rfl (by rw [hml]; exact hl.1) rfl dX3_init_1 (Nat.le_of_ble_eq_true rfl) (Nat.le_of_ble_eq_true rfl) ?_
  refine W.eq (g2 := F0 m 4 ls []) rfl ?_
  refine lv_aload_n hx hb dX3_init_4 rfl (lv_at hl 0 rfl) ?_
  refine lv_sipush (v := iv 221) hx hb dX3_init_5 (by decide) ?_
  refine sNewa (atype := .int) (ty := .int) Cx (N := 221) rfl 0 rfl (fun U h => h) w_294 hW rfl (.inl rfl) (by decide) (by decide) (Nat.le_of_ble_eq_true rfl) (Nat.le_of_ble_eq_true rfl) (Nat.le_of_ble_eq_true rfl) dX3_init_8 (fun H hW => ?_)
  refine p_X3_11 Cx hnm hW hL (k := 185) (by decide) rfl dX3_init_10 (fun H locs hW hL => ?_)
  refine lv_aload_n hx hb dX3_init_13 rfl (lv_at hl 0 rfl) ?_
  refine lv_bipush (v := iv 13) hx hb dX3_init_14 (by decide) ?_
  refine sNewa (atype := .boolean) (ty := .boolean) Cx (N := 13) rfl 3 rfl (fun U h => h) w_295 hW rfl (.inl rfl) (by decide) (by decide) (Nat.le_of_ble_eq_true rfl) (Nat.le_of_ble_eq_true rfl) (Nat.le_of_ble_eq_true rfl) dX3_init_16 (fun H hW => ?_)
  refine p_X3_15 Cx hnm hW hL (k := 185) (by decide) rfl dX3_init_18 (fun H locs hW hL => ?_)
  exact sVret Cx hr hlk hW hL rfl dX3_init_21

set_option maxRecDepth 100000 in
set_option maxHeartbeats 4000000 in
theorem t9_X7_init (l : Launch) (G : sG) (S : sS) : Met l yX7_init (.code yX7_init cX7_init 1 none :: tb) (rmk 3 68 149271) (sPc G 120 S [.ref (G.2.2.1 + 119)]) (sQv G 188 (fun u => u = (uR (uR (uR (uR (uR (uR (uR (uR (uR (uR (uR (uR (uR (uR (uR (uR (uR (uR (uR (uR (uR (uR (uR (uR (uR (uR (uR (uR (uR (uR (uR (uR (uR (uR (uR (uR (uR (uR (uR (uR (uR (uR (uR (uR (uR (uR (uR (uR (uR (uR (uR (uR (uR (uR (uR (uR (uR (uR (uR (uR (uR (uR (uR (uR (uR (uR (uR (uR S 120 0 (.ref (G.2.2.1 + 121))) 120 1 (.ref (G.2.2.1 + 122))) 123 0 (.ref (G.2.2.1 + 124))) 120 2 (.ref (G.2.2.1 + 123))) 125 0 (.ref (G.2.2.1 + 126))) 120 3 (.ref (G.2.2.1 + 125))) 127 0 (.ref (G.2.2.1 + 128))) 120 4 (.ref (G.2.2.1 + 127))) 129 0 (.ref (G.2.2.1 + 130))) 120 5 (.ref (G.2.2.1 + 129))) 131 0 (.ref (G.2.2.1 + 132))) 120 6 (.ref (G.2.2.1 + 131))) 133 0 (.ref (G.2.2.1 + 134))) 120 7 (.ref (G.2.2.1 + 133))) 119 0 (.ref (G.2.2.1 + 120))) 135 0 (.ref (G.2.2.1 + 136))) 135 1 (.ref (G.2.2.1 + 137))) 135 2 (.ref (G.2.2.1 + 138))) 135 3 (.ref (G.2.2.1 + 139))) 135 4 (.ref (G.2.2.1 + 140))) 141 0 (.ref (G.2.2.1 + 142))) 135 5 (.ref (G.2.2.1 + 141))) 143 0 (.ref (G.2.2.1 + 144))) 135 6 (.ref (G.2.2.1 + 143))) 145 0 (.ref (G.2.2.1 + 146))) 135 7 (.ref (G.2.2.1 + 145))) 147 0 (.ref (G.2.2.1 + 148))) 135 8 (.ref (G.2.2.1 + 147))) 149 0 (.ref (G.2.2.1 + 150))) 135 9 (.ref (G.2.2.1 + 149))) 151 0 (.ref (G.2.2.1 + 152))) 135 10 (.ref (G.2.2.1 + 151))) 153 0 (.ref (G.2.2.1 + 154))) 135 11 (.ref (G.2.2.1 + 153))) 155 0 (.ref (G.2.2.1 + 156))) 135 12 (.ref (G.2.2.1 + 155))) 119 1 (.ref (G.2.2.1 + 135))) 158 0 (.ref (G.2.2.1 + 159))) 157 0 (.ref (G.2.2.1 + 158))) 160 0 (.ref (G.2.2.1 + 161))) 157 1 (.ref (G.2.2.1 + 160))) 157 2 (.ref (G.2.2.1 + 162))) 163 0 (.ref (G.2.2.1 + 164))) 157 3 (.ref (G.2.2.1 + 163))) 165 0 (.ref (G.2.2.1 + 166))) 157 4 (.ref (G.2.2.1 + 165))) 167 0 (.ref (G.2.2.1 + 168))) 157 5 (.ref (G.2.2.1 + 167))) 169 0 (.ref (G.2.2.1 + 170))) 157 6 (.ref (G.2.2.1 + 169))) 171 0 (.ref (G.2.2.1 + 172))) 157 7 (.ref (G.2.2.1 + 171))) 173 0 (.ref (G.2.2.1 + 174))) 157 8 (.ref (G.2.2.1 + 173))) 175 0 (.ref (G.2.2.1 + 176))) 157 9 (.ref (G.2.2.1 + 175))) 119 2 (.ref (G.2.2.1 + 157))) 177 0 (.ref (G.2.2.1 + 178))) 119 3 (.ref (G.2.2.1 + 177))) 179 0 (.ref (G.2.2.1 + 180))) 119 4 (.ref (G.2.2.1 + 179))) 181 0 (.ref (G.2.2.1 + 182))) 119 5 (.ref (G.2.2.1 + 181))) 183 0 (.ref (G.2.2.1 + 184))) 119 6 (.ref (G.2.2.1 + 183))) 185 0 (.ref (G.2.2.1 + 186))) 185 1 (.ref (G.2.2.1 + 187))) 119 7 (.ref (G.2.2.1 + 185))))) 68 149271 (sF G) := by
  refine sEnter (by decide) (Nat.le_of_ble_eq_true rfl) ?_
  intro p e s m args below meth c Cx hr hlk hnm hW ls hl
  have Cx : sC G p m c cX7_init 1 s args RX7 := Cx
  obtain ⟨hx, hb, hml, hown, hts⟩ := id Cx.1
  have hL : sL G [] := sL_nil
  have hl : lv_has ls 1 [(0, .ref (G.2.2.1 + 119))] := hl
  refine lv_aload_n hx hb dX7_init_0 rfl (lv_at hl 0 rfl) ?_
  refine W.objInit hx hb hown (hts _ w_386) (hts _ w_233) (hts _ w_234) rfl (by rw [hml]; exact hl.1) rfl dX7_init_1 (Nat.le_of_ble_eq_true rfl) (Nat.le_of_ble_eq_true rfl) ?_
  refine W.eq (g2 := F0 m 4 ls []) rfl ?_
  refine lv_aload_n hx hb dX7_init_4 rfl (lv_at hl 0 rfl) ?_
  refine n_X7_9 Cx hW rfl (Nat.le_of_ble_eq_true rfl) (Nat.le_of_ble_eq_true rfl) dX7_init_5 (fun H hW => ?_)
  refine lv_dup hx hb dX7_init_8 rfl ?_
  refine sBv (sInN (As := []) (rest := [.ref (G.2.2.1 + 120), .ref (G.2.2.1 + 119)]) (k := 120) Cx (t10_X6_init l G S) (c_X7_11 Cx rfl rfl ⟨Nat.le_of_ble_eq_true rfl, Nat.le_of_ble_eq_true rfl⟩) hW rfl hl.1 rfl (Nat.le_of_ble_eq_true rfl) dX7_init_9 ⟨Nat.le_of_ble_eq_true rfl, Nat.le_of_ble_eq_true rfl⟩) hL (fun u H locs hq hW hL => ?_)
  subst hq
  refine p_X7_12 Cx hnm hW hL (k := 119) (by decide) rfl dX7_init_12 (fun H locs hW hL => ?_)
  refine lv_aload_n hx hb dX7_init_15 rfl (lv_at hl 0 rfl) ?_
  refine n_X7_18 Cx hW rfl (Nat.le_of_ble_eq_true rfl) (Nat.le_of_ble_eq_true rfl) dX7_init_16 (fun H hW => ?_)
  refine lv_dup hx hb dX7_init_19 rfl ?_
  refine sBv (sInN (As := []) (rest := [.ref (G.2.2.1 + 135), .ref (G.2.2.1 + 119)]) (k := 135) Cx (t17_X2_init l G (uR (uR (uR (uR (uR (uR (uR (uR (uR (uR (uR (uR (uR (uR (uR S 120 0 (.ref (G.2.2.1 + 121))) 120 1 (.ref (G.2.2.1 + 122))) 123 0 (.ref (G.2.2.1 + 124))) 120 2 (.ref (G.2.2.1 + 123))) 125 0 (.ref (G.2.2.1 + 126))) 120 3 (.ref (G.2.2.1 + 125))) 127 0 (.ref (G.2.2.1 + 128))) 120 4 (.ref (G.2.2.1 + 127))) 129 0 (.ref (G.2.2.1 + 130))) 120 5 (.ref (G.2.2.1 + 129))) 131 0 (.ref (G.2.2.1 + 132))) 120 6 (.ref (G.2.2.1 + 131))) 133 0 (.ref (G.2.2.1 + 134))) 120 7 (.ref (G.2.2.1 + 133))) 119 0 (.ref (G.2.2.1 + 120)))) (c_X7_20 Cx rfl rfl ⟨Nat.le_of_ble_eq_true rfl, Nat.le_of_ble_eq_true rfl⟩) hW rfl hl.1 rfl (Nat.le_of_ble_eq_true rfl) dX7_init_20 ⟨Nat.le_of_ble_eq_true rfl, Nat.le_of_ble_eq_true rfl⟩) hL (fun u H locs hq hW hL => ?_)
  subst hq
  refine p_X7_21 Cx hnm hW hL (k := 119) (by decide) rfl dX7_init_23 (fun H locs hW hL => ?_)
  refine lv_aload_n hx hb dX7_init_26 rfl (lv_at hl 0 rfl) ?_
  refine n_X7_25 Cx hW rfl (Nat.le_of_ble_eq_true rfl) (Nat.le_of_ble_eq_true rfl) dX7_init_27 (fun H hW => ?_)
  refine lv_dup hx hb dX7_init_30 rfl ?_
  refine sBv (sInN (As := []) (rest := [.ref (G.2.2.1 + 157), .ref (G.2.2.1 + 119)]) (k := 157) Cx (t26_X5_init l G (uR (uR (uR (uR (uR (uR (uR (uR (uR (uR (uR (uR (uR (uR (uR (uR (uR (uR (uR (uR (uR (uR (uR (uR (uR (uR (uR (uR (uR (uR (uR (uR (uR (uR (uR (uR (uR S 120 0 (.ref (G.2.2.1 + 121))) 120 1 (.ref (G.2.2.1 + 122))) 123 0 (.ref (G.2.2.1 + 124))) 120 2 (.ref (G.2.2.1 + 123))) 125 0 (.ref (G.2.2.1 + 126))) 120 3 (.ref (G.2.2.1 + 125))) 127 0 (.ref (G.2.2.1 + 128))) 120 4 (.ref (G.2.2.1 + 127))) 129 0 (.ref (G.2.2.1 + 130))) 120 5 (.ref (G.2.2.1 + 129))) 131 0 (.ref (G.2.2.1 + 132))) 120 6 (.ref (G.2.2.1 + 131))) 133 0 (.ref (G.2.2.1 + 134))) 120 7 (.ref (G.2.2.1 + 133))) 119 0 (.ref (G.2.2.1 + 120))) 135 0 (.ref (G.2.2.1 + 136))) 135 1 (.ref (G.2.2.1 + 137))) 135 2 (.ref (G.2.2.1 + 138))) 135 3 (.ref (G.2.2.1 + 139))) 135 4 (.ref (G.2.2.1 + 140))) 141 0 (.ref (G.2.2.1 + 142))) 135 5 (.ref (G.2.2.1 + 141))) 143 0 (.ref (G.2.2.1 + 144))) 135 6 (.ref (G.2.2.1 + 143))) 145 0 (.ref (G.2.2.1 + 146))) 135 7 (.ref (G.2.2.1 + 145))) 147 0 (.ref (G.2.2.1 + 148))) 135 8 (.ref (G.2.2.1 + 147))) 149 0 (.ref (G.2.2.1 + 150))) 135 9 (.ref (G.2.2.1 + 149))) 151 0 (.ref (G.2.2.1 + 152))) 135 10 (.ref (G.2.2.1 + 151))) 153 0 (.ref (G.2.2.1 + 154))) 135 11 (.ref (G.2.2.1 + 153))) 155 0 (.ref (G.2.2.1 + 156))) 135 12 (.ref (G.2.2.1 + 155))) 119 1 (.ref (G.2.2.1 + 135)))) (c_X7_27 Cx rfl rfl ⟨Nat.le_of_ble_eq_true rfl, Nat.le_of_ble_eq_true rfl⟩) hW rfl hl.1 rfl (Nat.le_of_ble_eq_true rfl) dX7_init_31 ⟨Nat.le_of_ble_eq_true rfl, Nat.le_of_ble_eq_true rfl⟩) hL (fun u H locs hq hW hL => ?_)
  subst hq
  refine p_X7_28 Cx hnm hW hL (k := 119) (by decide) rfl dX7_init_34 (fun H locs hW hL => ?_)
  refine lv_aload_n hx hb dX7_init_37 rfl (lv_at hl 0 rfl) ?_
  refine n_X7_32 Cx hW rfl (Nat.le_of_ble_eq_true rfl) (Nat.le_of_ble_eq_true rfl) dX7_init_38 (fun H hW => ?_)
  refine lv_dup hx hb dX7_init_41 rfl ?_
  refine sBv (sInN (As := []) (rest := [.ref (G.2.2.1 + 177), .ref (G.2.2.1 + 119)]) (k := 177) Cx (t36_X0_init l G (uR (uR (uR (uR (uR (uR (uR (uR (uR (uR (uR (uR (uR (uR (uR (uR (uR (uR (uR (uR (uR (uR (uR (uR (uR (uR (uR (uR (uR (uR (uR (uR (uR (uR (uR (uR (uR (uR (uR (uR (uR (uR (uR (uR (uR (uR (uR (uR (uR (uR (uR (uR (uR (uR (uR (uR (uR S 120 0 (.ref (G.2.2.1 + 121))) 120 1 (.ref (G.2.2.1 + 122))) 123 0 (.ref (G.2.2.1 + 124))) 120 2 (.ref (G.2.2.1 + 123))) 125 0 (.ref (G.2.2.1 + 126))) 120 3 (.ref (G.2.2.1 + 125))) 127 0 (.ref (G.2.2.1 + 128))) 120 4 (.ref (G.2.2.1 + 127))) 129 0 (.ref (G.2.2.1 + 130))) 120 5 (.ref (G.2.2.1 + 129))) 131 0 (.ref (G.2.2.1 + 132))) 120 6 (.ref (G.2.2.1 + 131))) 133 0 (.ref (G.2.2.1 + 134))) 120 7 (.ref (G.2.2.1 + 133))) 119 0 (.ref (G.2.2.1 + 120))) 135 0 (.ref (G.2.2.1 + 136))) 135 1 (.ref (G.2.2.1 + 137))) 135 2 (.ref (G.2.2.1 + 138))) 135 3 (.ref (G.2.2.1 + 139))) 135 4 (.ref (G.2.2.1 + 140))) 141 0 (.ref (G.2.2.1 + 142))) 135 5 (.ref (G.2.2.1 + 141))) 143 0 (.ref (G.2.2.1 + 144))) 135 6 (.ref (G.2.2.1 + 143))) 145 0 (.ref (G.2.2.1 + 146))) 135 7 (.ref (G.2.2.1 + 145))) 147 0 (.ref (G.2.2.1 + 148))) 135 8 (.ref (G.2.2.1 + 147))) 149 0 (.ref (G.2.2.1 + 150))) 135 9 (.ref (G.2.2.1 + 149))) 151 0 (.ref (G.2.2.1 + 152))) 135 10 (.ref (G.2.2.1 + 151))) 153 0 (.ref (G.2.2.1 + 154))) 135 11 (.ref (G.2.2.1 + 153))) 155 0 (.ref (G.2.2.1 + 156))) 135 12 (.ref (G.2.2.1 + 155))) 119 1 (.ref (G.2.2.1 + 135))) 158 0 (.ref (G.2.2.1 + 159))) 157 0 (.ref (G.2.2.1 + 158))) 160 0 (.ref (G.2.2.1 + 161))) 157 1 (.ref (G.2.2.1 + 160))) 157 2 (.ref (G.2.2.1 + 162))) 163 0 (.ref (G.2.2.1 + 164))) 157 3 (.ref (G.2.2.1 + 163))) 165 0 (.ref (G.2.2.1 + 166))) 157 4 (.ref (G.2.2.1 + 165))) 167 0 (.ref (G.2.2.1 + 168))) 157 5 (.ref (G.2.2.1 + 167))) 169 0 (.ref (G.2.2.1 + 170))) 157 6 (.ref (G.2.2.1 + 169))) 171 0 (.ref (G.2.2.1 + 172))) 157 7 (.ref (G.2.2.1 + 171))) 173 0 (.ref (G.2.2.1 + 174))) 157 8 (.ref (G.2.2.1 + 173))) 175 0 (.ref (G.2.2.1 + 176))) 157 9 (.ref (G.2.2.1 + 175))) 119 2 (.ref (G.2.2.1 + 157)))) (c_X7_34 Cx rfl rfl ⟨Nat.le_of_ble_eq_true rfl, Nat.le_of_ble_eq_true rfl⟩) hW rfl hl.1 rfl (Nat.le_of_ble_eq_true rfl) dX7_init_42 ⟨Nat.le_of_ble_eq_true rfl, Nat.le_of_ble_eq_true rfl⟩) hL (fun u H locs hq hW hL => ?_)
  subst hq
  refine p_X7_35 Cx hnm hW hL (k := 119) (by decide) rfl dX7_init_45 (fun H locs hW hL => ?_)
  refine lv_aload_n hx hb dX7_init_48 rfl (lv_at hl 0 rfl) ?_
  refine n_X7_32 Cx hW rfl (Nat.le_of_ble_eq_true rfl) (Nat.le_of_ble_eq_true rfl) dX7_init_49 (fun H hW => ?_)
  refine lv_dup hx hb dX7_init_52 rfl ?_
  refine sBv (sInN (As := []) (rest := [.ref (G.2.2.1 + 179), .ref (G.2.2.1 + 119)]) (k := 179) Cx (t37_X0_init l G (uR (uR (uR (uR (uR (uR (uR (uR (uR (uR (uR (uR (uR (uR (uR (uR (uR (uR (uR (uR (uR (uR (uR (uR (uR (uR (uR (uR (uR (uR (uR (uR (uR (uR (uR (uR (uR (uR (uR (uR (uR (uR (uR (uR (uR (uR (uR (uR (uR (uR (uR (uR (uR (uR (uR (uR (uR (uR (uR S 120 0 (.ref (G.2.2.1 + 121))) 120 1 (.ref (G.2.2.1 + 122))) 123 0 (.ref (G.2.2.1 + 124))) 120 2 (.ref (G.2.2.1 + 123))) 125 0 (.ref (G.2.2.1 + 126))) 120 3 (.ref (G.2.2.1 + 125))) 127 0 (.ref (G.2.2.1 + 128))) 120 4 (.ref (G.2.2.1 + 127))) 129 0 (.ref (G.2.2.1 + 130))) 120 5 (.ref (G.2.2.1 + 129))) 131 0 (.ref (G.2.2.1 + 132))) 120 6 (.ref (G.2.2.1 + 131))) 133 0 (.ref (G.2.2.1 + 134))) 120 7 (.ref (G.2.2.1 + 133))) 119 0 (.ref (G.2.2.1 + 120))) 135 0 (.ref (G.2.2.1 + 136))) 135 1 (.ref (G.2.2.1 + 137))) 135 2 (.ref (G.2.2.1 + 138))) 135 3 (.ref (G.2.2.1 + 139))) 135 4 (.ref (G.2.2.1 + 140))) 141 0 (.ref (G.2.2.1 + 142))) 135 5 (.ref (G.2.2.1 + 141))) 143 0 (.ref (G.2.2.1 + 144))) 135 6 (.ref (G.2.2.1 + 143))) 145 0 (.ref (G.2.2.1 + 146))) 135 7 (.ref (G.2.2.1 + 145))) 147 0 (.ref (G.2.2.1 + 148))) 135 8 (.ref (G.2.2.1 + 147))) 149 0 (.ref (G.2.2.1 + 150))) 135 9 (.ref (G.2.2.1 + 149))) 151 0 (.ref (G.2.2.1 + 152))) 135 10 (.ref (G.2.2.1 + 151))) 153 0 (.ref (G.2.2.1 + 154))) 135 11 (.ref (G.2.2.1 + 153))) 155 0 (.ref (G.2.2.1 + 156))) 135 12 (.ref (G.2.2.1 + 155))) 119 1 (.ref (G.2.2.1 + 135))) 158 0 (.ref (G.2.2.1 + 159))) 157 0 (.ref (G.2.2.1 + 158))) 160 0 (.ref (G.2.2.1 + 161))) 157 1 (.ref (G.2.2.1 + 160))) 157 2 (.ref (G.2.2.1 + 162))) 163 0 (.ref (G.2.2.1 + 164))) 157 3 (.ref (G.2.2.1 + 163))) 165 0 (.ref (G.2.2.1 + 166))) 157 4 (.ref (G.2.2.1 + 165))) 167 0 (.ref (G.2.2.1 + 168))) 157 5 (.ref (G.2.2.1 + 167))) 169 0 (.ref (G.2.2.1 + 170))) 157 6 (.ref (G.2.2.1 + 169))) 171 0 (.ref (G.2.2.1 + 172))) 157 7 (.ref (G.2.2.1 + 171))) 173 0 (.ref (G.2.2.1 + 174))) 157 8 (.ref (G.2.2.1 + 173))) 175 0 (.ref (G.2.2.1 + 176))) 157 9 (.ref (G.2.2.1 + 175))) 119 2 (.ref (G.2.2.1 + 157))) 177 0 (.ref (G.2.2.1 + 178))) 119 3 (.ref (G.2.2.1 + 177)))) (c_X7_34 Cx rfl rfl ⟨Nat.le_of_ble_eq_true rfl, Nat.le_of_ble_eq_true rfl⟩) hW rfl hl.1 rfl (Nat.le_of_ble_eq_true rfl) dX7_init_53 ⟨Nat.le_of_ble_eq_true rfl, Nat.le_of_ble_eq_true rfl⟩) hL (fun u H locs hq hW hL => ?_)
  subst hq
  refine p_X7_39 Cx hnm hW hL (k := 119) (by decide) rfl dX7_init_56 (fun H locs hW hL => ?_)
  refine lv_aload_n hx hb dX7_init_59 rfl (lv_at hl 0 rfl) ?_
  refine n_X7_32 Cx hW rfl (Nat.le_of_ble_eq_true rfl) (Nat.le_of_ble_eq_true rfl) dX7_init_60 (fun H hW => ?_)
  refine lv_dup hx hb dX7_init_63 rfl ?_
  refine sBv (sInN (As := []) (rest := [.ref (G.2.2.1 + 181), .ref (G.2.2.1 + 119)]) (k := 181) Cx (t38_X0_init l G (uR (uR (uR (uR (uR (uR (uR (uR (uR (uR (uR (uR (uR (uR (uR (uR (uR (uR (uR (uR (uR (uR (uR (uR (uR (uR (uR (uR (uR (uR (uR (uR (uR (uR (uR (uR (uR (uR (uR (uR (uR (uR (uR (uR (uR (uR (uR (uR (uR (uR (uR (uR (uR (uR (uR (uR (uR (uR (uR (uR (uR S 120 0 (.ref (G.2.2.1 + 121))) 120 1 (.ref (G.2.2.1 + 122))) 123 0 (.ref (G.2.2.1 + 124))) 120 2 (.ref (G.2.2.1 + 123))) 125 0 (.ref (G.2.2.1 + 126))) 120 3 (.ref (G.2.2.1 + 125))) 127 0 (.ref (G.2.2.1 + 128))) 120 4 (.ref (G.2.2.1 + 127))) 129 0 (.ref (G.2.2.1 + 130))) 120 5 (.ref (G.2.2.1 + 129))) 131 0 (.ref (G.2.2.1 + 132))) 120 6 (.ref (G.2.2.1 + 131))) 133 0 (.ref (G.2.2.1 + 134))) 120 7 (.ref (G.2.2.1 + 133))) 119 0 (.ref (G.2.2.1 + 120))) 135 0 (.ref (G.2.2.1 + 136))) 135 1 (.ref (G.2.2.1 + 137))) 135 2 (.ref (G.2.2.1 + 138))) 135 3 (.ref (G.2.2.1 + 139))) 135 4 (.ref (G.2.2.1 + 140))) 141 0 (.ref (G.2.2.1 + 142))) 135 5 (.ref (G.2.2.1 + 141))) 143 0 (.ref (G.2.2.1 + 144))) 135 6 (.ref (G.2.2.1 + 143))) 145 0 (.ref (G.2.2.1 + 146))) 135 7 (.ref (G.2.2.1 + 145))) 147 0 (.ref (G.2.2.1 + 148))) 135 8 (.ref (G.2.2.1 + 147))) 149 0 (.ref (G.2.2.1 + 150))) 135 9 (.ref (G.2.2.1 + 149))) 151 0 (.ref (G.2.2.1 + 152))) 135 10 (.ref (G.2.2.1 + 151))) 153 0 (.ref (G.2.2.1 + 154))) 135 11 (.ref (G.2.2.1 + 153))) 155 0 (.ref (G.2.2.1 + 156))) 135 12 (.ref (G.2.2.1 + 155))) 119 1 (.ref (G.2.2.1 + 135))) 158 0 (.ref (G.2.2.1 + 159))) 157 0 (.ref (G.2.2.1 + 158))) 160 0 (.ref (G.2.2.1 + 161))) 157 1 (.ref (G.2.2.1 + 160))) 157 2 (.ref (G.2.2.1 + 162))) 163 0 (.ref (G.2.2.1 + 164))) 157 3 (.ref (G.2.2.1 + 163))) 165 0 (.ref (G.2.2.1 + 166))) 157 4 (.ref (G.2.2.1 + 165))) 167 0 (.ref (G.2.2.1 + 168))) 157 5 (.ref (G.2.2.1 + 167))) 169 0 (.ref (G.2.2.1 + 170))) 157 6 (.ref (G.2.2.1 + 169))) 171 0 (.ref (G.2.2.1 + 172))) 157 7 (.ref (G.2.2.1 + 171))) 173 0 (.ref (G.2.2.1 + 174))) 157 8 (.ref (G.2.2.1 + 173))) 175 0 (.ref (G.2.2.1 + 176))) 157 9 (.ref (G.2.2.1 + 175))) 119 2 (.ref (G.2.2.1 + 157))) 177 0 (.ref (G.2.2.1 + 178))) 119 3 (.ref (G.2.2.1 + 177))) 179 0 (.ref (G.2.2.1 + 180))) 119 4 (.ref (G.2.2.1 + 179)))) (c_X7_34 Cx rfl rfl ⟨Nat.le_of_ble_eq_true rfl, Nat.le_of_ble_eq_true rfl⟩) hW rfl hl.1 rfl (Nat.le_of_ble_eq_true rfl) dX7_init_64 ⟨Nat.le_of_ble_eq_true rfl, Nat.le_of_ble_eq_true rfl⟩) hL (fun u H locs hq hW hL => ?_)
  subst hq
  refine p_X7_42 Cx hnm hW hL (k := 119) (by decide) rfl dX7_init_67 (fun H locs hW hL => ?_)
  refine lv_aload_n hx hb dX7_init_70 rfl (lv_at hl 0 rfl) ?_
  refine n_X7_32 Cx hW rfl (Nat.le_of_ble_eq_true rfl) (Nat.le_of_ble_eq_true rfl) dX7_init_71 (fun H hW => ?_)
  refine lv_dup hx hb dX7_init_74 rfl ?_
  refine sBv (sInN (As := []) (rest := [.ref (G.2.2.1 + 183), .ref (G.2.2.1 + 119)]) (k := 183) Cx (t39_X0_init l G (uR (uR (uR (uR (uR (uR (uR (uR (uR (uR (uR (uR (uR (uR (uR (uR (uR (uR (uR (uR (uR (uR (uR (uR (uR (uR (uR (uR (uR (uR (uR (uR (uR (uR (uR (uR (uR (uR (uR (uR (uR (uR (uR (uR (uR (uR (uR (uR (uR (uR (uR (uR (uR (uR (uR (uR (uR (uR (uR (uR (uR (uR (uR S 120 0 (.ref (G.2.2.1 + 121))) 120 1 (.ref (G.2.2.1 + 122))) 123 0 (.ref (G.2.2.1 + 124))) 120 2 (.ref (G.2.2.1 + 123))) 125 0 (.ref (G.2.2.1 + 126))) 120 3 (.ref (G.2.2.1 + 125))) 127 0 (.ref (G.2.2.1 + 128))) 120 4 (.ref (G.2.2.1 + 127))) 129 0 (.ref (G.2.2.1 + 130))) 120 5 (.ref (G.2.2.1 + 129))) 131 0 (.ref (G.2.2.1 + 132))) 120 6 (.ref (G.2.2.1 + 131))) 133 0 (.ref (G.2.2.1 + 134))) 120 7 (.ref (G.2.2.1 + 133))) 119 0 (.ref (G.2.2.1 + 120))) 135 0 (.ref (G.2.2.1 + 136))) 135 1 (.ref (G.2.2.1 + 137))) 135 2 (.ref (G.2.2.1 + 138))) 135 3 (.ref (G.2.2.1 + 139))) 135 4 (.ref (G.2.2.1 + 140))) 141 0 (.ref (G.2.2.1 + 142))) 135 5 (.ref (G.2.2.1 + 141))) 143 0 (.ref (G.2.2.1 + 144))) 135 6 (.ref (G.2.2.1 + 143))) 145 0 (.ref (G.2.2.1 + 146))) 135 7 (.ref (G.2.2.1 + 145))) 147 0 (.ref (G.2.2.1 + 148))) 135 8 (.ref (G.2.2.1 + 147))) 149 0 (.ref (G.2.2.1 + 150))) 135 9 (.ref (G.2.2.1 + 149))) 151 0 (.ref (G.2.2.1 + 152))) 135 10 (.ref (G.2.2.1 + 151))) 153 0 (.ref (G.2.2.1 + 154))) 135 11 (.ref (G.2.2.1 + 153))) 155 0 (.ref (G.2.2.1 + 156))) 135 12 (.ref (G.2.2.1 + 155))) 119 1 (.ref (G.2.2.1 + 135))) 158 0 (.ref (G.2.2.1 + 159))) 157 0 (.ref (G.2.2.1 + 158))) 160 0 (.ref (G.2.2.1 + 161))) 157 1 (.ref (G.2.2.1 + 160))) 157 2 (.ref (G.2.2.1 + 162))) 163 0 (.ref (G.2.2.1 + 164))) 157 3 (.ref (G.2.2.1 + 163))) 165 0 (.ref (G.2.2.1 + 166))) 157 4 (.ref (G.2.2.1 + 165))) 167 0 (.ref (G.2.2.1 + 168))) 157 5 (.ref (G.2.2.1 + 167))) 169 0 (.ref (G.2.2.1 + 170))) 157 6 (.ref (G.2.2.1 + 169))) 171 0 (.ref (G.2.2.1 + 172))) 157 7 (.ref (G.2.2.1 + 171))) 173 0 (.ref (G.2.2.1 + 174))) 157 8 (.ref (G.2.2.1 + 173))) 175 0 (.ref (G.2.2.1 + 176))) 157 9 (.ref (G.2.2.1 + 175))) 119 2 (.ref (G.2.2.1 + 157))) 177 0 (.ref (G.2.2.1 + 178))) 119 3 (.ref (G.2.2.1 + 177))) 179 0 (.ref (G.2.2.1 + 180))) 119 4 (.ref (G.2.2.1 + 179))) 181 0 (.ref (G.2.2.1 + 182))) 119 5 (.ref (G.2.2.1 + 181)))) (c_X7_34 Cx rfl rfl ⟨Nat.le_of_ble_eq_true rfl, Nat.le_of_ble_eq_true rfl⟩) hW rfl hl.1 rfl (Nat.le_of_ble_eq_true rfl) dX7_init_75 ⟨Nat.le_of_ble_eq_true rfl, Nat.le_of_ble_eq_true rfl⟩) hL (fun u H locs hq hW hL => ?_)
  subst hq
  refine p_X7_45 Cx hnm hW hL (k := 119) (by decide) rfl dX7_init_78 (fun H locs hW hL => ?_)
  refine lv_aload_n hx hb dX7_init_81 rfl (lv_at hl 0 rfl) ?_
  refine n_X7_48 Cx hW rfl (Nat.le_of_ble_eq_true rfl) (Nat.le_of_ble_eq_true rfl) dX7_init_82 (fun H hW => ?_)
  refine lv_dup hx hb dX7_init_85 rfl ?_
  refine sBv (sInN (As := []) (rest := [.ref (G.2.2.1 + 185), .ref (G.2.2.1 + 119)]) (k := 185) Cx (t40_X3_init l G (uR (uR (uR (uR (uR (uR (uR (uR (uR (uR (uR (uR (uR (uR (uR (uR (uR (uR (uR (uR (uR (uR (uR (uR (uR (uR (uR (uR (uR (uR (uR (uR (uR (uR (uR (uR (uR (uR (uR (uR (uR (uR (uR (uR (uR (uR (uR (uR (uR (uR (uR (uR (uR (uR (uR (uR (uR (uR (uR (uR (uR (uR (uR (uR (uR S 120 0 (.ref (G.2.2.1 + 121))) 120 1 (.ref (G.2.2.1 + 122))) 123 0 (.ref (G.2.2.1 + 124))) 120 2 (.ref (G.2.2.1 + 123))) 125 0 (.ref (G.2.2.1 + 126))) 120 3 (.ref (G.2.2.1 + 125))) 127 0 (.ref (G.2.2.1 + 128))) 120 4 (.ref (G.2.2.1 + 127))) 129 0 (.ref (G.2.2.1 + 130))) 120 5 (.ref (G.2.2.1 + 129))) 131 0 (.ref (G.2.2.1 + 132))) 120 6 (.ref (G.2.2.1 + 131))) 133 0 (.ref (G.2.2.1 + 134))) 120 7 (.ref (G.2.2.1 + 133))) 119 0 (.ref (G.2.2.1 + 120))) 135 0 (.ref (G.2.2.1 + 136))) 135 1 (.ref (G.2.2.1 + 137))) 135 2 (.ref (G.2.2.1 + 138))) 135 3 (.ref (G.2.2.1 + 139))) 135 4 (.ref (G.2.2.1 + 140))) 141 0 (.ref (G.2.2.1 + 142))) 135 5 (.ref (G.2.2.1 + 141))) 143 0 (.ref (G.2.2.1 + 144))) 135 6 (.ref (G.2.2.1 + 143))) 145 0 (.ref (G.2.2.1 + 146))) 135 7 (.ref (G.2.2.1 + 145))) 147 0 (.ref (G.2.2.1 + 148))) 135 8 (.ref (G.2.2.1 + 147))) 149 0 (.ref (G.2.2.1 + 150))) 135 9 (.ref (G.2.2.1 + 149))) 151 0 (.ref (G.2.2.1 + 152))) 135 10 (.ref (G.2.2.1 + 151))) 153 0 (.ref (G.2.2.1 + 154))) 135 11 (.ref (G.2.2.1 + 153))) 155 0 (.ref (G.2.2.1 + 156))) 135 12 (.ref (G.2.2.1 + 155))) 119 1 (.ref (G.2.2.1 + 135))) 158 0 (.ref (G.2.2.1 + 159))) 157 0 (.ref (G.2.2.1 + 158))) 160 0 (.ref (G.2.2.1 + 161))) 157 1 (.ref (G.2.2.1 + 160))) 157 2 (.ref (G.2.2.1 + 162))) 163 0 (.ref (G.2.2.1 + 164))) 157 3 (.ref (G.2.2.1 + 163))) 165 0 (.ref (G.2.2.1 + 166))) 157 4 (.ref (G.2.2.1 + 165))) 167 0 (.ref (G.2.2.1 + 168))) 157 5 (.ref (G.2.2.1 + 167))) 169 0 (.ref (G.2.2.1 + 170))) 157 6 (.ref (G.2.2.1 + 169))) 171 0 (.ref (G.2.2.1 + 172))) 157 7 (.ref (G.2.2.1 + 171))) 173 0 (.ref (G.2.2.1 + 174))) 157 8 (.ref (G.2.2.1 + 173))) 175 0 (.ref (G.2.2.1 + 176))) 157 9 (.ref (G.2.2.1 + 175))) 119 2 (.ref (G.2.2.1 + 157))) 177 0 (.ref (G.2.2.1 + 178))) 119 3 (.ref (G.2.2.1 + 177))) 179 0 (.ref (G.2.2.1 + 180))) 119 4 (.ref (G.2.2.1 + 179))) 181 0 (.ref (G.2.2.1 + 182))) 119 5 (.ref (G.2.2.1 + 181))) 183 0 (.ref (G.2.2.1 + 184))) 119 6 (.ref (G.2.2.1 + 183)))) (c_X7_50 Cx rfl rfl ⟨Nat.le_of_ble_eq_true rfl, Nat.le_of_ble_eq_true rfl⟩) hW rfl hl.1 rfl (Nat.le_of_ble_eq_true rfl) dX7_init_86 ⟨Nat.le_of_ble_eq_true rfl, Nat.le_of_ble_eq_true rfl⟩) hL (fun u H locs hq hW hL => ?_)
  subst hq
  refine p_X7_51 Cx hW hL (k := 119) (by decide) rfl dX7_init_89 (fun H locs hW hL => ?_)
  exact sVret Cx hr hlk hW hL rfl dX7_init_92

set_option maxRecDepth 100000 in
set_option maxHeartbeats 4000000 in
theorem t43_X10_init (l : Launch) (G : sG) (S : sS) : Met l yX10_init (.code yX10_init cX10_init 2 none :: tb) (rmk 1 1 0) (sPc G 191 S [.ref (G.2.2.1 + 190), .int (iv 0)]) (sQv G 192 (fun u => u = (uR S 190 0 (.ref (G.2.2.1 + 191))))) 1 0 (sF G) := by
  refine sEnter (by decide) (Nat.le_of_ble_eq_true rfl) ?_
  intro p e s m args below meth c Cx hr hlk hnm hW ls hl
  have Cx : sC G p m c cX10_init 2 s args RX10 := Cx
  obtain ⟨hx, hb, hml, hown, hts⟩ := id Cx.1
  have hL : sL G [] := sL_nil
  have hl : lv_has ls 2 [(0, .ref (G.2.2.1 + 190)), (1, .int (iv 0))] := hl
  refine lv_aload_n hx hb dX10_init_0 rfl (lv_at hl 0 rfl) ?_
  refine W.objInit hx hb hown (hts _ w_240) (hts _ w_233) (hts _ w_234) rfl (by rw [hml]; exact hl.1) rfl dX10_init_1 (Nat.le_of_ble_eq_true rfl) (Nat.le_of_ble_eq_true rfl) ?_
  refine W.eq (g2 := F0 m 4 ls []) rfl ?_
  refine lv_aload_n hx hb dX10_init_4 rfl (lv_at hl 0 rfl) ?_
  refine lv_iload_n hx hb dX10_init_5 rfl (lv_at hl 1 rfl) ?_
  refine lv_iconst (v := iv 0) hx hb dX10_init_6 (by decide) ?_
  refine r_max hx hb (hml.trans hl.1.symm) hown (hts _ w_241) (hts _ w_242) (hts _ w_206) (hts _ w_243) (Nat.le_of_ble_eq_true rfl) (Nat.le_of_ble_eq_true rfl) (Nat.le_of_ble_eq_true rfl) (Nat.le_of_ble_eq_true rfl) (by decide) (by decide) dX10_init_7 (fun z hz => ?_)
  obtain rfl : z = 0 := by omega
  refine sNewa (atype := .byte) (ty := .byte) Cx (N := 0) rfl 2 rfl (fun U h => h) w_254 hW rfl (.inl rfl) (by decide) (by decide) (Nat.le_of_ble_eq_true rfl) (Nat.le_of_ble_eq_true rfl) (Nat.le_of_ble_eq_true rfl) dX10_init_10 (fun H hW => ?_)
  refine p_X10_15 Cx hnm hW hL (k := 190) (by decide) rfl dX10_init_12 (fun H locs hW hL => ?_)
  exact sVret Cx hr hlk hW hL rfl dX10_init_15

set_option maxRecDepth 100000 in
set_option maxHeartbeats 4000000 in
theorem t42_X4_init (l : Launch) (G : sG) (S : sS) : Met l yX4_init (.code yX4_init cX4_init 1 none :: tb) (rmk 2 3 30004) (sPc G 190 S [.ref (G.2.2.1 + 189)]) (sQv G 193 (fun u => u = (uR (uR (uR S 190 0 (.ref (G.2.2.1 + 191))) 189 0 (.ref (G.2.2.1 + 190))) 189 1 (.ref (G.2.2.1 + 192))))) 3 30004 (sF G) := by
  refine sEnter (by decide) (Nat.le_of_ble_eq_true rfl) ?_
  intro p e s m args below meth c Cx hr hlk hnm hW ls hl
  have Cx : sC G p m c cX4_init 1 s args RX4 := Cx
  obtain ⟨hx, hb, hml, hown, hts⟩ := id Cx.1
  have hL : sL G [] := sL_nil
  have hl : lv_has ls 1 [(0, .ref (G.2.2.1 + 189))] := hl
  refine lv_aload_n hx hb dX4_init_0 rfl (lv_at hl 0 rfl) ?_
  refine W.objInit hx hb hown (hts _ w_627) (hts _ w_233) (hts _ w_234) rfl (by rw [hml]; exact hl.1) rfl dX4_init_1 (Nat.le_of_ble_eq_true rfl) (Nat.le_of_ble_eq_true rfl) ?_
  refine W.eq (g2 := F0 m 4 ls []) rfl ?_
  refine lv_aload_n hx hb dX4_init_4 rfl (lv_at hl 0 rfl) ?_
  refine n_X4_9 Cx hW rfl (Nat.le_of_ble_eq_true rfl) (Nat.le_of_ble_eq_true rfl) dX4_init_5 (fun H hW => ?_)
  refine lv_dup hx hb dX4_init_8 rfl ?_
  refine lv_iconst (v := iv 0) hx hb dX4_init_9 (by decide) ?_
  refine sBv (sIn (As := [.int (iv 0)]) (rest := [.ref (G.2.2.1 + 190), .ref (G.2.2.1 + 189)]) (k := 190) Cx (t43_X10_init l G S) (c_X4_11 Cx rfl rfl ⟨Nat.le_of_ble_eq_true rfl, Nat.le_of_ble_eq_true rfl⟩) hW rfl hl.1 rfl (Nat.le_of_ble_eq_true rfl) dX4_init_10 ⟨Nat.le_of_ble_eq_true rfl, Nat.le_of_ble_eq_true rfl⟩) hL (fun u H locs hq hW hL => ?_)
  subst hq
  refine p_X4_14 Cx hW hL (k := 189) (by decide) rfl dX4_init_13 (fun H locs hW hL => ?_)
  refine lv_aload_n hx hb dX4_init_16 rfl (lv_at hl 0 rfl) ?_
  refine lv_sipush (v := iv 30001) hx hb dX4_init_17 (by decide) ?_
  refine sNewa (atype := .int) (ty := .int) Cx (N := 30001) rfl 0 rfl (fun U h => h) w_294 hW rfl (.inl rfl) (by decide) (by decide) (Nat.le_of_ble_eq_true rfl) (Nat.le_of_ble_eq_true rfl) (Nat.le_of_ble_eq_true rfl) dX4_init_20 (fun H hW => ?_)
  refine p_X4_20 Cx hnm hW hL (k := 189) (by decide) rfl dX4_init_22 (fun H locs hW hL => ?_)
  exact sVret Cx hr hlk hW hL rfl dX4_init_25

set_option maxRecDepth 100000 in
set_option maxHeartbeats 4000000 in
theorem t45_X0_init (l : Launch) (G : sG) (S : sS) : Met l yX0_init (.code yX0_init cX0_init 1 none :: tb) (rmk 1 1 32) (sPc G 197 S [.ref (G.2.2.1 + 196)]) (sQv G 198 (fun u => u = (uR S 196 0 (.ref (G.2.2.1 + 197))))) 1 32 (sF G) := by
  refine sEnter (by decide) (Nat.le_of_ble_eq_true rfl) ?_
  intro p e s m args below meth c Cx hr hlk hnm hW ls hl
  have Cx : sC G p m c cX0_init 1 s args RX0 := Cx
  obtain ⟨hx, hb, hml, hown, hts⟩ := id Cx.1
  have hL : sL G [] := sL_nil
  have hl : lv_has ls 1 [(0, .ref (G.2.2.1 + 196))] := hl
  refine lv_aload_n hx hb dX0_init_0 rfl (lv_at hl 0 rfl) ?_
  refine W.objInit hx hb hown (hts _ w_398) (hts _ w_233) (hts _ w_234) rfl (by rw [hml]; exact hl.1) rfl dX0_init_1 (Nat.le_of_ble_eq_true rfl) (Nat.le_of_ble_eq_true rfl) ?_
  refine W.eq (g2 := F0 m 4 ls []) rfl ?_
  refine lv_aload_n hx hb dX0_init_4 rfl (lv_at hl 0 rfl) ?_
  refine lv_bipush (v := iv 32) hx hb dX0_init_5 (by decide) ?_
  refine sNewa (atype := .int) (ty := .int) Cx (N := 32) rfl 0 rfl (fun U h => h) w_294 hW rfl (.inl rfl) (by decide) (by decide) (Nat.le_of_ble_eq_true rfl) (Nat.le_of_ble_eq_true rfl) (Nat.le_of_ble_eq_true rfl) dX0_init_7 (fun H hW => ?_)
  refine p_X0_9 Cx hnm hW hL (k := 196) (by decide) rfl dX0_init_9 (fun H locs hW hL => ?_)
  exact sVret Cx hr hlk hW hL rfl dX0_init_12

set_option maxRecDepth 100000 in
set_option maxHeartbeats 4000000 in
theorem t46_X0_init (l : Launch) (G : sG) (S : sS) : Met l yX0_init (.code yX0_init cX0_init 1 none :: tb) (rmk 1 1 32) (sPc G 199 S [.ref (G.2.2.1 + 198)]) (sQv G 200 (fun u => u = (uR S 198 0 (.ref (G.2.2.1 + 199))))) 1 32 (sF G) := by
  refine sEnter (by decide) (Nat.le_of_ble_eq_true rfl) ?_
  intro p e s m args below meth c Cx hr hlk hnm hW ls hl
  have Cx : sC G p m c cX0_init 1 s args RX0 := Cx
  obtain ⟨hx, hb, hml, hown, hts⟩ := id Cx.1
  have hL : sL G [] := sL_nil
  have hl : lv_has ls 1 [(0, .ref (G.2.2.1 + 198))] := hl
  refine lv_aload_n hx hb dX0_init_0 rfl (lv_at hl 0 rfl) ?_
  refine W.objInit hx hb hown (hts _ w_398) (hts _ w_233) (hts _ w_234) rfl (by rw [hml]; exact hl.1) rfl dX0_init_1 (Nat.le_of_ble_eq_true rfl) (Nat.le_of_ble_eq_true rfl) ?_
  refine W.eq (g2 := F0 m 4 ls []) rfl ?_
  refine lv_aload_n hx hb dX0_init_4 rfl (lv_at hl 0 rfl) ?_
  refine lv_bipush (v := iv 32) hx hb dX0_init_5 (by decide) ?_
  refine sNewa (atype := .int) (ty := .int) Cx (N := 32) rfl 0 rfl (fun U h => h) w_294 hW rfl (.inl rfl) (by decide) (by decide) (Nat.le_of_ble_eq_true rfl) (Nat.le_of_ble_eq_true rfl) (Nat.le_of_ble_eq_true rfl) dX0_init_7 (fun H hW => ?_)
  refine p_X0_9 Cx hnm hW hL (k := 198) (by decide) rfl dX0_init_9 (fun H locs hW hL => ?_)
  exact sVret Cx hr hlk hW hL rfl dX0_init_12

set_option maxRecDepth 100000 in
set_option maxHeartbeats 4000000 in
theorem t47_X0_init (l : Launch) (G : sG) (S : sS) : Met l yX0_init (.code yX0_init cX0_init 1 none :: tb) (rmk 1 1 32) (sPc G 201 S [.ref (G.2.2.1 + 200)]) (sQv G 202 (fun u => u = (uR S 200 0 (.ref (G.2.2.1 + 201))))) 1 32 (sF G) := by
  refine sEnter (by decide) (Nat.le_of_ble_eq_true rfl) ?_
  intro p e s m args below meth c Cx hr hlk hnm hW ls hl
  have Cx : sC G p m c cX0_init 1 s args RX0 := Cx
  obtain ⟨hx, hb, hml, hown, hts⟩ := id Cx.1
  have hL : sL G [] := sL_nil
  have hl : lv_has ls 1 [(0, .ref (G.2.2.1 + 200))] := hl
  refine lv_aload_n hx hb dX0_init_0 rfl (lv_at hl 0 rfl) ?_
  refine W.objInit hx hb hown (hts _ w_398) (hts _ w_233) (hts _ w_234) rfl (by rw [hml]; exact hl.1) rfl dX0_init_1 (Nat.le_of_ble_eq_true rfl) (Nat.le_of_ble_eq_true rfl) ?_
  refine W.eq (g2 := F0 m 4 ls []) rfl ?_
  refine lv_aload_n hx hb dX0_init_4 rfl (lv_at hl 0 rfl) ?_
  refine lv_bipush (v := iv 32) hx hb dX0_init_5 (by decide) ?_
  refine sNewa (atype := .int) (ty := .int) Cx (N := 32) rfl 0 rfl (fun U h => h) w_294 hW rfl (.inl rfl) (by decide) (by decide) (Nat.le_of_ble_eq_true rfl) (Nat.le_of_ble_eq_true rfl) (Nat.le_of_ble_eq_true rfl) dX0_init_7 (fun H hW => ?_)
  refine p_X0_9 Cx hnm hW hL (k := 200) (by decide) rfl dX0_init_9 (fun H locs hW hL => ?_)
  exact sVret Cx hr hlk hW hL rfl dX0_init_12

set_option maxRecDepth 100000 in
set_option maxHeartbeats 4000000 in
theorem t48_X0_init (l : Launch) (G : sG) (S : sS) : Met l yX0_init (.code yX0_init cX0_init 1 none :: tb) (rmk 1 1 32) (sPc G 203 S [.ref (G.2.2.1 + 202)]) (sQv G 204 (fun u => u = (uR S 202 0 (.ref (G.2.2.1 + 203))))) 1 32 (sF G) := by
  refine sEnter (by decide) (Nat.le_of_ble_eq_true rfl) ?_
  intro p e s m args below meth c Cx hr hlk hnm hW ls hl
  have Cx : sC G p m c cX0_init 1 s args RX0 := Cx
  obtain ⟨hx, hb, hml, hown, hts⟩ := id Cx.1
  have hL : sL G [] := sL_nil
  have hl : lv_has ls 1 [(0, .ref (G.2.2.1 + 202))] := hl
  refine lv_aload_n hx hb dX0_init_0 rfl (lv_at hl 0 rfl) ?_
  refine W.objInit hx hb hown (hts _ w_398) (hts _ w_233) (hts _ w_234) rfl (by rw [hml]; exact hl.1) rfl dX0_init_1 (Nat.le_of_ble_eq_true rfl) (Nat.le_of_ble_eq_true rfl) ?_
  refine W.eq (g2 := F0 m 4 ls []) rfl ?_
  refine lv_aload_n hx hb dX0_init_4 rfl (lv_at hl 0 rfl) ?_
  refine lv_bipush (v := iv 32) hx hb dX0_init_5 (by decide) ?_
  refine sNewa (atype := .int) (ty := .int) Cx (N := 32) rfl 0 rfl (fun U h => h) w_294 hW rfl (.inl rfl) (by decide) (by decide) (Nat.le_of_ble_eq_true rfl) (Nat.le_of_ble_eq_true rfl) (Nat.le_of_ble_eq_true rfl) dX0_init_7 (fun H hW => ?_)
  refine p_X0_9 Cx hnm hW hL (k := 202) (by decide) rfl dX0_init_9 (fun H locs hW hL => ?_)
  exact sVret Cx hr hlk hW hL rfl dX0_init_12

set_option maxRecDepth 100000 in
set_option maxHeartbeats 4000000 in
theorem t49_X0_init (l : Launch) (G : sG) (S : sS) : Met l yX0_init (.code yX0_init cX0_init 1 none :: tb) (rmk 1 1 32) (sPc G 205 S [.ref (G.2.2.1 + 204)]) (sQv G 206 (fun u => u = (uR S 204 0 (.ref (G.2.2.1 + 205))))) 1 32 (sF G) := by
  refine sEnter (by decide) (Nat.le_of_ble_eq_true rfl) ?_
  intro p e s m args below meth c Cx hr hlk hnm hW ls hl
  have Cx : sC G p m c cX0_init 1 s args RX0 := Cx
  obtain ⟨hx, hb, hml, hown, hts⟩ := id Cx.1
  have hL : sL G [] := sL_nil
  have hl : lv_has ls 1 [(0, .ref (G.2.2.1 + 204))] := hl
  refine lv_aload_n hx hb dX0_init_0 rfl (lv_at hl 0 rfl) ?_
  refine W.objInit hx hb hown (hts _ w_398) (hts _ w_233) (hts _ w_234) rfl (by rw [hml]; exact hl.1) rfl dX0_init_1 (Nat.le_of_ble_eq_true rfl) (Nat.le_of_ble_eq_true rfl) ?_
  refine W.eq (g2 := F0 m 4 ls []) rfl ?_
  refine lv_aload_n hx hb dX0_init_4 rfl (lv_at hl 0 rfl) ?_
  refine lv_bipush (v := iv 32) hx hb dX0_init_5 (by decide) ?_
  refine sNewa (atype := .int) (ty := .int) Cx (N := 32) rfl 0 rfl (fun U h => h) w_294 hW rfl (.inl rfl) (by decide) (by decide) (Nat.le_of_ble_eq_true rfl) (Nat.le_of_ble_eq_true rfl) (Nat.le_of_ble_eq_true rfl) dX0_init_7 (fun H hW => ?_)
  refine p_X0_9 Cx hnm hW hL (k := 204) (by decide) rfl dX0_init_9 (fun H locs hW hL => ?_)
  exact sVret Cx hr hlk hW hL rfl dX0_init_12

set_option maxRecDepth 100000 in
set_option maxHeartbeats 4000000 in
theorem t50_X0_init (l : Launch) (G : sG) (S : sS) : Met l yX0_init (.code yX0_init cX0_init 1 none :: tb) (rmk 1 1 32) (sPc G 207 S [.ref (G.2.2.1 + 206)]) (sQv G 208 (fun u => u = (uR S 206 0 (.ref (G.2.2.1 + 207))))) 1 32 (sF G) := by
  refine sEnter (by decide) (Nat.le_of_ble_eq_true rfl) ?_
  intro p e s m args below meth c Cx hr hlk hnm hW ls hl
  have Cx : sC G p m c cX0_init 1 s args RX0 := Cx
  obtain ⟨hx, hb, hml, hown, hts⟩ := id Cx.1
  have hL : sL G [] := sL_nil
  have hl : lv_has ls 1 [(0, .ref (G.2.2.1 + 206))] := hl
  refine lv_aload_n hx hb dX0_init_0 rfl (lv_at hl 0 rfl) ?_
  refine W.objInit hx hb hown (hts _ w_398) (hts _ w_233) (hts _ w_234) rfl (by rw [hml]; exact hl.1) rfl dX0_init_1 (Nat.le_of_ble_eq_true rfl) (Nat.le_of_ble_eq_true rfl) ?_
  refine W.eq (g2 := F0 m 4 ls []) rfl ?_
  refine lv_aload_n hx hb dX0_init_4 rfl (lv_at hl 0 rfl) ?_
  refine lv_bipush (v := iv 32) hx hb dX0_init_5 (by decide) ?_
  refine sNewa (atype := .int) (ty := .int) Cx (N := 32) rfl 0 rfl (fun U h => h) w_294 hW rfl (.inl rfl) (by decide) (by decide) (Nat.le_of_ble_eq_true rfl) (Nat.le_of_ble_eq_true rfl) (Nat.le_of_ble_eq_true rfl) dX0_init_7 (fun H hW => ?_)
  refine p_X0_9 Cx hnm hW hL (k := 206) (by decide) rfl dX0_init_9 (fun H locs hW hL => ?_)
  exact sVret Cx hr hlk hW hL rfl dX0_init_12

set_option maxRecDepth 100000 in
set_option maxHeartbeats 4000000 in
theorem t44_X6_init (l : Launch) (G : sG) (S : sS) : Met l yX6_init (.code yX6_init cX6_init 1 none :: tb) (rmk 2 14 4802) (sPc G 194 S [.ref (G.2.2.1 + 193)]) (sQv G 208 (fun u => u = (uR (uR (uR (uR (uR (uR (uR (uR (uR (uR (uR (uR (uR (uR S 193 0 (.ref (G.2.2.1 + 194))) 193 1 (.ref (G.2.2.1 + 195))) 196 0 (.ref (G.2.2.1 + 197))) 193 2 (.ref (G.2.2.1 + 196))) 198 0 (.ref (G.2.2.1 + 199))) 193 3 (.ref (G.2.2.1 + 198))) 200 0 (.ref (G.2.2.1 + 201))) 193 4 (.ref (G.2.2.1 + 200))) 202 0 (.ref (G.2.2.1 + 203))) 193 5 (.ref (G.2.2.1 + 202))) 204 0 (.ref (G.2.2.1 + 205))) 193 6 (.ref (G.2.2.1 + 204))) 206 0 (.ref (G.2.2.1 + 207))) 193 7 (.ref (G.2.2.1 + 206))))) 14 4802 (sF G) := by
  refine sEnter (by decide) (Nat.le_of_ble_eq_true rfl) ?_
  intro p e s m args below meth c Cx hr hlk hnm hW ls hl
  have Cx : sC G p m c cX6_init 1 s args RX6 := Cx
  obtain ⟨hx, hb, hml, hown, hts⟩ := id Cx.1
  have hL : sL G [] := sL_nil
  have hl : lv_has ls 1 [(0, .ref (G.2.2.1 + 193))] := hl
  refine lv_aload_n hx hb dX6_init_0 rfl (lv_at hl 0 rfl) ?_
  refine W.objInit hx hb hown (hts _ w_392) (hts _ w_233) (hts _ w_234) rfl (by rw [hml]; exact hl.1) rfl dX6_init_1 (Nat.le_of_ble_eq_true rfl) (Nat.le_of_ble_eq_true rfl) ?_
  refine W.eq (g2 := F0 m 4 ls []) rfl ?_
  refine lv_aload_n hx hb dX6_init_4 rfl (lv_at hl 0 rfl) ?_
  refine lv_sipush (v := iv 4264) hx hb dX6_init_5 (by decide) ?_
  refine sNewa (atype := .int) (ty := .int) Cx (N := 4264) rfl 0 rfl (fun U h => h) w_294 hW rfl (.inl rfl) (by decide) (by decide) (Nat.le_of_ble_eq_true rfl) (Nat.le_of_ble_eq_true rfl) (Nat.le_of_ble_eq_true rfl) dX6_init_8 (fun H hW => ?_)
  refine p_X6_13 Cx hnm hW hL (k := 193) (by decide) rfl dX6_init_10 (fun H locs hW hL => ?_)
  refine lv_aload_n hx hb dX6_init_13 rfl (lv_at hl 0 rfl) ?_
  refine lv_sipush (v := iv 328) hx hb dX6_init_14 (by decide) ?_
  refine sNewa (atype := .int) (ty := .int) Cx (N := 328) rfl 0 rfl (fun U h => h) w_294 hW rfl (.inl rfl) (by decide) (by decide) (Nat.le_of_ble_eq_true rfl) (Nat.le_of_ble_eq_true rfl) (Nat.le_of_ble_eq_true rfl) dX6_init_17 (fun H hW => ?_)
  refine p_X6_17 Cx hnm hW hL (k := 193) (by decide) rfl dX6_init_19 (fun H locs hW hL => ?_)
  refine lv_aload_n hx hb dX6_init_22 rfl (lv_at hl 0 rfl) ?_
  refine n_X6_11 Cx hW rfl (Nat.le_of_ble_eq_true rfl) (Nat.le_of_ble_eq_true rfl) dX6_init_23 (fun H hW => ?_)
  refine lv_dup hx hb dX6_init_26 rfl ?_
  refine sBv (sInN (As := []) (rest := [.ref (G.2.2.1 + 196), .ref (G.2.2.1 + 193)]) (k := 196) Cx (t45_X0_init l G (uR (uR S 193 0 (.ref (G.2.2.1 + 194))) 193 1 (.ref (G.2.2.1 + 195)))) (c_X6_20 Cx rfl rfl ⟨Nat.le_of_ble_eq_true rfl, Nat.le_of_ble_eq_true rfl⟩) hW rfl hl.1 rfl (Nat.le_of_ble_eq_true rfl) dX6_init_27 ⟨Nat.le_of_ble_eq_true rfl, Nat.le_of_ble_eq_true rfl⟩) hL (fun u H locs hq hW hL => ?_)
  subst hq
  refine p_X6_21 Cx hnm hW hL (k := 193) (by decide) rfl dX6_init_30 (fun H locs hW hL => ?_)
  refine lv_aload_n hx hb dX6_init_33 rfl (lv_at hl 0 rfl) ?_
  refine n_X6_11 Cx hW rfl (Nat.le_of_ble_eq_true rfl) (Nat.le_of_ble_eq_true rfl) dX6_init_34 (fun H hW => ?_)
  refine lv_dup hx hb dX6_init_37 rfl ?_
  refine sBv (sInN (As := []) (rest := [.ref (G.2.2.1 + 198), .ref (G.2.2.1 + 193)]) (k := 198) Cx (t46_X0_init l G (uR (uR (uR (uR S 193 0 (.ref (G.2.2.1 + 194))) 193 1 (.ref (G.2.2.1 + 195))) 196 0 (.ref (G.2.2.1 + 197))) 193 2 (.ref (G.2.2.1 + 196)))) (c_X6_20 Cx rfl rfl ⟨Nat.le_of_ble_eq_true rfl, Nat.le_of_ble_eq_true rfl⟩) hW rfl hl.1 rfl (Nat.le_of_ble_eq_true rfl) dX6_init_38 ⟨Nat.le_of_ble_eq_true rfl, Nat.le_of_ble_eq_true rfl⟩) hL (fun u H locs hq hW hL => ?_)
  subst hq
  refine p_X6_25 Cx hnm hW hL (k := 193) (by decide) rfl dX6_init_41 (fun H locs hW hL => ?_)
  refine lv_aload_n hx hb dX6_init_44 rfl (lv_at hl 0 rfl) ?_
  refine n_X6_11 Cx hW rfl (Nat.le_of_ble_eq_true rfl) (Nat.le_of_ble_eq_true rfl) dX6_init_45 (fun H hW => ?_)
  refine lv_dup hx hb dX6_init_48 rfl ?_
  refine sBv (sInN (As := []) (rest := [.ref (G.2.2.1 + 200), .ref (G.2.2.1 + 193)]) (k := 200) Cx (t47_X0_init l G (uR (uR (uR (uR (uR (uR S 193 0 (.ref (G.2.2.1 + 194))) 193 1 (.ref (G.2.2.1 + 195))) 196 0 (.ref (G.2.2.1 + 197))) 193 2 (.ref (G.2.2.1 + 196))) 198 0 (.ref (G.2.2.1 + 199))) 193 3 (.ref (G.2.2.1 + 198)))) (c_X6_20 Cx rfl rfl ⟨Nat.le_of_ble_eq_true rfl, Nat.le_of_ble_eq_true rfl⟩) hW rfl hl.1 rfl (Nat.le_of_ble_eq_true rfl) dX6_init_49 ⟨Nat.le_of_ble_eq_true rfl, Nat.le_of_ble_eq_true rfl⟩) hL (fun u H locs hq hW hL => ?_)
  subst hq
  refine p_X6_28 Cx hnm hW hL (k := 193) (by decide) rfl dX6_init_52 (fun H locs hW hL => ?_)
  refine lv_aload_n hx hb dX6_init_55 rfl (lv_at hl 0 rfl) ?_
  refine n_X6_11 Cx hW rfl (Nat.le_of_ble_eq_true rfl) (Nat.le_of_ble_eq_true rfl) dX6_init_56 (fun H hW => ?_)
  refine lv_dup hx hb dX6_init_59 rfl ?_
  refine sBv (sInN (As := []) (rest := [.ref (G.2.2.1 + 202), .ref (G.2.2.1 + 193)]) (k := 202) Cx (t48_X0_init l G (uR (uR (uR (uR (uR (uR (uR (uR S 193 0 (.ref (G.2.2.1 + 194))) 193 1 (.ref (G.2.2.1 + 195))) 196 0 (.ref (G.2.2.1 + 197))) 193 2 (.ref (G.2.2.1 + 196))) 198 0 (.ref (G.2.2.1 + 199))) 193 3 (.ref (G.2.2.1 + 198))) 200 0 (.ref (G.2.2.1 + 201))) 193 4 (.ref (G.2.2.1 + 200)))) (c_X6_20 Cx rfl rfl ⟨Nat.le_of_ble_eq_true rfl, Nat.le_of_ble_eq_true rfl⟩) hW rfl hl.1 rfl (Nat.le_of_ble_eq_true rfl) dX6_init_60 ⟨Nat.le_of_ble_eq_true rfl, Nat.le_of_ble_eq_true rfl⟩) hL (fun u H locs hq hW hL => ?_)
  subst hq
  refine p_X6_31 Cx hnm hW hL (k := 193) (by decide) rfl dX6_init_63 (fun H locs hW hL => ?_)
  refine lv_aload_n hx hb dX6_init_66 rfl (lv_at hl 0 rfl) ?_
  refine n_X6_11 Cx hW rfl (Nat.le_of_ble_eq_true rfl) (Nat.le_of_ble_eq_true rfl) dX6_init_67 (fun H hW => ?_)
  refine lv_dup hx hb dX6_init_70 rfl ?_
  refine sBv (sInN (As := []) (rest := [.ref (G.2.2.1 + 204), .ref (G.2.2.1 + 193)]) (k := 204) Cx (t49_X0_init l G (uR (uR (uR (uR (uR (uR (uR (uR (uR (uR S 193 0 (.ref (G.2.2.1 + 194))) 193 1 (.ref (G.2.2.1 + 195))) 196 0 (.ref (G.2.2.1 + 197))) 193 2 (.ref (G.2.2.1 + 196))) 198 0 (.ref (G.2.2.1 + 199))) 193 3 (.ref (G.2.2.1 + 198))) 200 0 (.ref (G.2.2.1 + 201))) 193 4 (.ref (G.2.2.1 + 200))) 202 0 (.ref (G.2.2.1 + 203))) 193 5 (.ref (G.2.2.1 + 202)))) (c_X6_20 Cx rfl rfl ⟨Nat.le_of_ble_eq_true rfl, Nat.le_of_ble_eq_true rfl⟩) hW rfl hl.1 rfl (Nat.le_of_ble_eq_true rfl) dX6_init_71 ⟨Nat.le_of_ble_eq_true rfl, Nat.le_of_ble_eq_true rfl⟩) hL (fun u H locs hq hW hL => ?_)
  subst hq
  refine p_X6_34 Cx hnm hW hL (k := 193) (by decide) rfl dX6_init_74 (fun H locs hW hL => ?_)
  refine lv_aload_n hx hb dX6_init_77 rfl (lv_at hl 0 rfl) ?_
  refine n_X6_11 Cx hW rfl (Nat.le_of_ble_eq_true rfl) (Nat.le_of_ble_eq_true rfl) dX6_init_78 (fun H hW => ?_)
  refine lv_dup hx hb dX6_init_81 rfl ?_
  refine sBv (sInN (As := []) (rest := [.ref (G.2.2.1 + 206), .ref (G.2.2.1 + 193)]) (k := 206) Cx (t50_X0_init l G (uR (uR (uR (uR (uR (uR (uR (uR (uR (uR (uR (uR S 193 0 (.ref (G.2.2.1 + 194))) 193 1 (.ref (G.2.2.1 + 195))) 196 0 (.ref (G.2.2.1 + 197))) 193 2 (.ref (G.2.2.1 + 196))) 198 0 (.ref (G.2.2.1 + 199))) 193 3 (.ref (G.2.2.1 + 198))) 200 0 (.ref (G.2.2.1 + 201))) 193 4 (.ref (G.2.2.1 + 200))) 202 0 (.ref (G.2.2.1 + 203))) 193 5 (.ref (G.2.2.1 + 202))) 204 0 (.ref (G.2.2.1 + 205))) 193 6 (.ref (G.2.2.1 + 204)))) (c_X6_20 Cx rfl rfl ⟨Nat.le_of_ble_eq_true rfl, Nat.le_of_ble_eq_true rfl⟩) hW rfl hl.1 rfl (Nat.le_of_ble_eq_true rfl) dX6_init_82 ⟨Nat.le_of_ble_eq_true rfl, Nat.le_of_ble_eq_true rfl⟩) hL (fun u H locs hq hW hL => ?_)
  subst hq
  refine p_X6_37 Cx hnm hW hL (k := 193) (by decide) rfl dX6_init_85 (fun H locs hW hL => ?_)
  exact sVret Cx hr hlk hW hL rfl dX6_init_88

set_option maxRecDepth 100000 in
set_option maxHeartbeats 4000000 in
theorem t51_X0_init (l : Launch) (G : sG) (S : sS) : Met l yX0_init (.code yX0_init cX0_init 1 none :: tb) (rmk 1 1 32) (sPc G 210 S [.ref (G.2.2.1 + 209)]) (sQv G 211 (fun u => u = (uR S 209 0 (.ref (G.2.2.1 + 210))))) 1 32 (sF G) := by
  refine sEnter (by decide) (Nat.le_of_ble_eq_true rfl) ?_
  intro p e s m args below meth c Cx hr hlk hnm hW ls hl
  have Cx : sC G p m c cX0_init 1 s args RX0 := Cx
  obtain ⟨hx, hb, hml, hown, hts⟩ := id Cx.1
  have hL : sL G [] := sL_nil
  have hl : lv_has ls 1 [(0, .ref (G.2.2.1 + 209))] := hl
  refine lv_aload_n hx hb dX0_init_0 rfl (lv_at hl 0 rfl) ?_
  refine W.objInit hx hb hown (hts _ w_398) (hts _ w_233) (hts _ w_234) rfl (by rw [hml]; exact hl.1) rfl dX0_init_1 (Nat.le_of_ble_eq_true rfl) (Nat.le_of_ble_eq_true rfl) ?_
  refine W.eq (g2 := F0 m 4 ls []) rfl ?_
  refine lv_aload_n hx hb dX0_init_4 rfl (lv_at hl 0 rfl) ?_
  refine lv_bipush (v := iv 32) hx hb dX0_init_5 (by decide) ?_
  refine sNewa (atype := .int) (ty := .int) Cx (N := 32) rfl 0 rfl (fun U h => h) w_294 hW rfl (.inl rfl) (by decide) (by decide) (Nat.le_of_ble_eq_true rfl) (Nat.le_of_ble_eq_true rfl) (Nat.le_of_ble_eq_true rfl) dX0_init_7 (fun H hW => ?_)
  refine p_X0_9 Cx hnm hW hL (k := 209) (by decide) rfl dX0_init_9 (fun H locs hW hL => ?_)
  exact sVret Cx hr hlk hW hL rfl dX0_init_12

set_option maxRecDepth 100000 in
set_option maxHeartbeats 4000000 in
theorem t52_X0_init (l : Launch) (G : sG) (S : sS) : Met l yX0_init (.code yX0_init cX0_init 1 none :: tb) (rmk 1 1 32) (sPc G 212 S [.ref (G.2.2.1 + 211)]) (sQv G 213 (fun u => u = (uR S 211 0 (.ref (G.2.2.1 + 212))))) 1 32 (sF G) := by
  refine sEnter (by decide) (Nat.le_of_ble_eq_true rfl) ?_
  intro p e s m args below meth c Cx hr hlk hnm hW ls hl
  have Cx : sC G p m c cX0_init 1 s args RX0 := Cx
  obtain ⟨hx, hb, hml, hown, hts⟩ := id Cx.1
  have hL : sL G [] := sL_nil
  have hl : lv_has ls 1 [(0, .ref (G.2.2.1 + 211))] := hl
  refine lv_aload_n hx hb dX0_init_0 rfl (lv_at hl 0 rfl) ?_
  refine W.objInit hx hb hown (hts _ w_398) (hts _ w_233) (hts _ w_234) rfl (by rw [hml]; exact hl.1) rfl dX0_init_1 (Nat.le_of_ble_eq_true rfl) (Nat.le_of_ble_eq_true rfl) ?_
  refine W.eq (g2 := F0 m 4 ls []) rfl ?_
  refine lv_aload_n hx hb dX0_init_4 rfl (lv_at hl 0 rfl) ?_
  refine lv_bipush (v := iv 32) hx hb dX0_init_5 (by decide) ?_
  refine sNewa (atype := .int) (ty := .int) Cx (N := 32) rfl 0 rfl (fun U h => h) w_294 hW rfl (.inl rfl) (by decide) (by decide) (Nat.le_of_ble_eq_true rfl) (Nat.le_of_ble_eq_true rfl) (Nat.le_of_ble_eq_true rfl) dX0_init_7 (fun H hW => ?_)
  refine p_X0_9 Cx hnm hW hL (k := 211) (by decide) rfl dX0_init_9 (fun H locs hW hL => ?_)
  exact sVret Cx hr hlk hW hL rfl dX0_init_12

set_option maxRecDepth 100000 in
set_option maxHeartbeats 4000000 in
theorem t53_X0_init (l : Launch) (G : sG) (S : sS) : Met l yX0_init (.code yX0_init cX0_init 1 none :: tb) (rmk 1 1 32) (sPc G 214 S [.ref (G.2.2.1 + 213)]) (sQv G 215 (fun u => u = (uR S 213 0 (.ref (G.2.2.1 + 214))))) 1 32 (sF G) := by
  refine sEnter (by decide) (Nat.le_of_ble_eq_true rfl) ?_
  intro p e s m args below meth c Cx hr hlk hnm hW ls hl
  have Cx : sC G p m c cX0_init 1 s args RX0 := Cx
  obtain ⟨hx, hb, hml, hown, hts⟩ := id Cx.1
  have hL : sL G [] := sL_nil
  have hl : lv_has ls 1 [(0, .ref (G.2.2.1 + 213))] := hl
  refine lv_aload_n hx hb dX0_init_0 rfl (lv_at hl 0 rfl) ?_
  refine W.objInit hx hb hown (hts _ w_398) (hts _ w_233) (hts _ w_234) rfl (by rw [hml]; exact hl.1) rfl dX0_init_1 (Nat.le_of_ble_eq_true rfl) (Nat.le_of_ble_eq_true rfl) ?_
  refine W.eq (g2 := F0 m 4 ls []) rfl ?_
  refine lv_aload_n hx hb dX0_init_4 rfl (lv_at hl 0 rfl) ?_
  refine lv_bipush (v := iv 32) hx hb dX0_init_5 (by decide) ?_
  refine sNewa (atype := .int) (ty := .int) Cx (N := 32) rfl 0 rfl (fun U h => h) w_294 hW rfl (.inl rfl) (by decide) (by decide) (Nat.le_of_ble_eq_true rfl) (Nat.le_of_ble_eq_true rfl) (Nat.le_of_ble_eq_true rfl) dX0_init_7 (fun H hW => ?_)
  refine p_X0_9 Cx hnm hW hL (k := 213) (by decide) rfl dX0_init_9 (fun H locs hW hL => ?_)
  exact sVret Cx hr hlk hW hL rfl dX0_init_12

set_option maxRecDepth 100000 in
set_option maxHeartbeats 4000000 in
theorem t54_X0_init (l : Launch) (G : sG) (S : sS) : Met l yX0_init (.code yX0_init cX0_init 1 none :: tb) (rmk 1 1 32) (sPc G 216 S [.ref (G.2.2.1 + 215)]) (sQv G 217 (fun u => u = (uR S 215 0 (.ref (G.2.2.1 + 216))))) 1 32 (sF G) := by
  refine sEnter (by decide) (Nat.le_of_ble_eq_true rfl) ?_
  intro p e s m args below meth c Cx hr hlk hnm hW ls hl
  have Cx : sC G p m c cX0_init 1 s args RX0 := Cx
  obtain ⟨hx, hb, hml, hown, hts⟩ := id Cx.1
  have hL : sL G [] := sL_nil
  have hl : lv_has ls 1 [(0, .ref (G.2.2.1 + 215))] := hl
  refine lv_aload_n hx hb dX0_init_0 rfl (lv_at hl 0 rfl) ?_
  refine W.objInit hx hb hown (hts _ w_398) (hts _ w_233) (hts _ w_234) rfl (by rw [hml]; exact hl.1) rfl dX0_init_1 (Nat.le_of_ble_eq_true rfl) (Nat.le_of_ble_eq_true rfl) ?_
  refine W.eq (g2 := F0 m 4 ls []) rfl ?_
  refine lv_aload_n hx hb dX0_init_4 rfl (lv_at hl 0 rfl) ?_
  refine lv_bipush (v := iv 32) hx hb dX0_init_5 (by decide) ?_
  refine sNewa (atype := .int) (ty := .int) Cx (N := 32) rfl 0 rfl (fun U h => h) w_294 hW rfl (.inl rfl) (by decide) (by decide) (Nat.le_of_ble_eq_true rfl) (Nat.le_of_ble_eq_true rfl) (Nat.le_of_ble_eq_true rfl) dX0_init_7 (fun H hW => ?_)
  refine p_X0_9 Cx hnm hW hL (k := 215) (by decide) rfl dX0_init_9 (fun H locs hW hL => ?_)
  exact sVret Cx hr hlk hW hL rfl dX0_init_12

set_option maxRecDepth 100000 in
set_option maxHeartbeats 4000000 in
theorem t55_X0_init (l : Launch) (G : sG) (S : sS) : Met l yX0_init (.code yX0_init cX0_init 1 none :: tb) (rmk 1 1 32) (sPc G 218 S [.ref (G.2.2.1 + 217)]) (sQv G 219 (fun u => u = (uR S 217 0 (.ref (G.2.2.1 + 218))))) 1 32 (sF G) := by
  refine sEnter (by decide) (Nat.le_of_ble_eq_true rfl) ?_
  intro p e s m args below meth c Cx hr hlk hnm hW ls hl
  have Cx : sC G p m c cX0_init 1 s args RX0 := Cx
  obtain ⟨hx, hb, hml, hown, hts⟩ := id Cx.1
  have hL : sL G [] := sL_nil
  have hl : lv_has ls 1 [(0, .ref (G.2.2.1 + 217))] := hl
  refine lv_aload_n hx hb dX0_init_0 rfl (lv_at hl 0 rfl) ?_
  refine W.objInit hx hb hown (hts _ w_398) (hts _ w_233) (hts _ w_234) rfl (by rw [hml]; exact hl.1) rfl dX0_init_1 (Nat.le_of_ble_eq_true rfl) (Nat.le_of_ble_eq_true rfl) ?_
  refine W.eq (g2 := F0 m 4 ls []) rfl ?_
  refine lv_aload_n hx hb dX0_init_4 rfl (lv_at hl 0 rfl) ?_
  refine lv_bipush (v := iv 32) hx hb dX0_init_5 (by decide) ?_
  refine sNewa (atype := .int) (ty := .int) Cx (N := 32) rfl 0 rfl (fun U h => h) w_294 hW rfl (.inl rfl) (by decide) (by decide) (Nat.le_of_ble_eq_true rfl) (Nat.le_of_ble_eq_true rfl) (Nat.le_of_ble_eq_true rfl) dX0_init_7 (fun H hW => ?_)
  refine p_X0_9 Cx hnm hW hL (k := 217) (by decide) rfl dX0_init_9 (fun H locs hW hL => ?_)
  exact sVret Cx hr hlk hW hL rfl dX0_init_12

set_option maxRecDepth 100000 in
set_option maxHeartbeats 4000000 in
theorem t56_X0_init (l : Launch) (G : sG) (S : sS) : Met l yX0_init (.code yX0_init cX0_init 1 none :: tb) (rmk 1 1 32) (sPc G 220 S [.ref (G.2.2.1 + 219)]) (sQv G 221 (fun u => u = (uR S 219 0 (.ref (G.2.2.1 + 220))))) 1 32 (sF G) := by
  refine sEnter (by decide) (Nat.le_of_ble_eq_true rfl) ?_
  intro p e s m args below meth c Cx hr hlk hnm hW ls hl
  have Cx : sC G p m c cX0_init 1 s args RX0 := Cx
  obtain ⟨hx, hb, hml, hown, hts⟩ := id Cx.1
  have hL : sL G [] := sL_nil
  have hl : lv_has ls 1 [(0, .ref (G.2.2.1 + 219))] := hl
  refine lv_aload_n hx hb dX0_init_0 rfl (lv_at hl 0 rfl) ?_
  refine W.objInit hx hb hown (hts _ w_398) (hts _ w_233) (hts _ w_234) rfl (by rw [hml]; exact hl.1) rfl dX0_init_1 (Nat.le_of_ble_eq_true rfl) (Nat.le_of_ble_eq_true rfl) ?_
  refine W.eq (g2 := F0 m 4 ls []) rfl ?_
  refine lv_aload_n hx hb dX0_init_4 rfl (lv_at hl 0 rfl) ?_
  refine lv_bipush (v := iv 32) hx hb dX0_init_5 (by decide) ?_
  refine sNewa (atype := .int) (ty := .int) Cx (N := 32) rfl 0 rfl (fun U h => h) w_294 hW rfl (.inl rfl) (by decide) (by decide) (Nat.le_of_ble_eq_true rfl) (Nat.le_of_ble_eq_true rfl) (Nat.le_of_ble_eq_true rfl) dX0_init_7 (fun H hW => ?_)
  refine p_X0_9 Cx hnm hW hL (k := 219) (by decide) rfl dX0_init_9 (fun H locs hW hL => ?_)
  exact sVret Cx hr hlk hW hL rfl dX0_init_12

set_option maxRecDepth 100000 in
set_option maxHeartbeats 4000000 in
theorem t57_X0_init (l : Launch) (G : sG) (S : sS) : Met l yX0_init (.code yX0_init cX0_init 1 none :: tb) (rmk 1 1 32) (sPc G 222 S [.ref (G.2.2.1 + 221)]) (sQv G 223 (fun u => u = (uR S 221 0 (.ref (G.2.2.1 + 222))))) 1 32 (sF G) := by
  refine sEnter (by decide) (Nat.le_of_ble_eq_true rfl) ?_
  intro p e s m args below meth c Cx hr hlk hnm hW ls hl
  have Cx : sC G p m c cX0_init 1 s args RX0 := Cx
  obtain ⟨hx, hb, hml, hown, hts⟩ := id Cx.1
  have hL : sL G [] := sL_nil
  have hl : lv_has ls 1 [(0, .ref (G.2.2.1 + 221))] := hl
  refine lv_aload_n hx hb dX0_init_0 rfl (lv_at hl 0 rfl) ?_
  refine W.objInit hx hb hown (hts _ w_398) (hts _ w_233) (hts _ w_234) rfl (by rw [hml]; exact hl.1) rfl dX0_init_1 (Nat.le_of_ble_eq_true rfl) (Nat.le_of_ble_eq_true rfl) ?_
  refine W.eq (g2 := F0 m 4 ls []) rfl ?_
  refine lv_aload_n hx hb dX0_init_4 rfl (lv_at hl 0 rfl) ?_
  refine lv_bipush (v := iv 32) hx hb dX0_init_5 (by decide) ?_
  refine sNewa (atype := .int) (ty := .int) Cx (N := 32) rfl 0 rfl (fun U h => h) w_294 hW rfl (.inl rfl) (by decide) (by decide) (Nat.le_of_ble_eq_true rfl) (Nat.le_of_ble_eq_true rfl) (Nat.le_of_ble_eq_true rfl) dX0_init_7 (fun H hW => ?_)
  refine p_X0_9 Cx hnm hW hL (k := 221) (by decide) rfl dX0_init_9 (fun H locs hW hL => ?_)
  exact sVret Cx hr hlk hW hL rfl dX0_init_12

set_option maxRecDepth 100000 in
set_option maxHeartbeats 4000000 in
theorem t58_X0_init (l : Launch) (G : sG) (S : sS) : Met l yX0_init (.code yX0_init cX0_init 1 none :: tb) (rmk 1 1 32) (sPc G 224 S [.ref (G.2.2.1 + 223)]) (sQv G 225 (fun u => u = (uR S 223 0 (.ref (G.2.2.1 + 224))))) 1 32 (sF G) := by
  refine sEnter (by decide) (Nat.le_of_ble_eq_true rfl) ?_
  intro p e s m args below meth c Cx hr hlk hnm hW ls hl
  have Cx : sC G p m c cX0_init 1 s args RX0 := Cx
  obtain ⟨hx, hb, hml, hown, hts⟩ := id Cx.1
  have hL : sL G [] := sL_nil
  have hl : lv_has ls 1 [(0, .ref (G.2.2.1 + 223))] := hl
  refine lv_aload_n hx hb dX0_init_0 rfl (lv_at hl 0 rfl) ?_
  refine W.objInit hx hb hown (hts _ w_398) (hts _ w_233) (hts _ w_234) rfl (by rw [hml]; exact hl.1) rfl dX0_init_1 (Nat.le_of_ble_eq_true rfl) (Nat.le_of_ble_eq_true rfl) ?_
  refine W.eq (g2 := F0 m 4 ls []) rfl ?_
  refine lv_aload_n hx hb dX0_init_4 rfl (lv_at hl 0 rfl) ?_
  refine lv_bipush (v := iv 32) hx hb dX0_init_5 (by decide) ?_
  refine sNewa (atype := .int) (ty := .int) Cx (N := 32) rfl 0 rfl (fun U h => h) w_294 hW rfl (.inl rfl) (by decide) (by decide) (Nat.le_of_ble_eq_true rfl) (Nat.le_of_ble_eq_true rfl) (Nat.le_of_ble_eq_true rfl) dX0_init_7 (fun H hW => ?_)
  refine p_X0_9 Cx hnm hW hL (k := 223) (by decide) rfl dX0_init_9 (fun H locs hW hL => ?_)
  exact sVret Cx hr hlk hW hL rfl dX0_init_12

set_option maxRecDepth 100000 in
set_option maxHeartbeats 4000000 in
theorem t59_X3_init (l : Launch) (G : sG) (S : sS) : Met l yX3_init (.code yX3_init cX3_init 1 none :: tb) (rmk 1 2 234) (sPc G 229 S [.ref (G.2.2.1 + 228)]) (sQv G 231 (fun u => u = (uR (uR S 228 0 (.ref (G.2.2.1 + 229))) 228 1 (.ref (G.2.2.1 + 230))))) 2 234 (sF G) := by
  refine sEnter (by decide) (Nat.le_of_ble_eq_true rfl) ?_
  intro p e s m args below meth c Cx hr hlk hnm hW ls hl
  have Cx : sC G p m c cX3_init 1 s args RX3 := Cx
  obtain ⟨hx, hb, hml, hown, hts⟩ := id Cx.1
  have hL : sL G [] := sL_nil
  have hl : lv_has ls 1 [(0, .ref (G.2.2.1 + 228))] := hl
  refine lv_aload_n hx hb dX3_init_0 rfl (lv_at hl 0 rfl) ?_
  refine W.objInit hx hb hown (hts _ w_260) (hts _ w_233) (hts _ w_234) rfl (by rw [hml]; exact hl.1) rfl dX3_init_1 (Nat.le_of_ble_eq_true rfl) (Nat.le_of_ble_eq_true rfl) ?_
  refine W.eq (g2 := F0 m 4 ls []) rfl ?_
  refine lv_aload_n hx hb dX3_init_4 rfl (lv_at hl 0 rfl) ?_
  refine lv_sipush (v := iv 221) hx hb dX3_init_5 (by decide) ?_
  refine sNewa (atype := .int) (ty := .int) Cx (N := 221) rfl 0 rfl (fun U h => h) w_294 hW rfl (.inl rfl) (by decide) (by decide) (Nat.le_of_ble_eq_true rfl) (Nat.le_of_ble_eq_true rfl) (Nat.le_of_ble_eq_true rfl) dX3_init_8 (fun H hW => ?_)
  refine p_X3_11 Cx hnm hW hL (k := 228) (by decide) rfl dX3_init_10 (fun H locs hW hL => ?_)
  refine lv_aload_n hx hb dX3_init_13 rfl (lv_at hl 0 rfl) ?_
  refine lv_bipush (v := iv 13) hx hb dX3_init_14 (by decide) ?_
  refine sNewa (atype := .boolean) (ty := .boolean) Cx (N := 13) rfl 3 rfl (fun U h => h) w_295 hW rfl (.inl rfl) (by decide) (by decide) (Nat.le_of_ble_eq_true rfl) (Nat.le_of_ble_eq_true rfl) (Nat.le_of_ble_eq_true rfl) dX3_init_16 (fun H hW => ?_)
  refine p_X3_15 Cx hnm hW hL (k := 228) (by decide) rfl dX3_init_18 (fun H locs hW hL => ?_)
  exact sVret Cx hr hlk hW hL rfl dX3_init_21

set_option maxRecDepth 100000 in
set_option maxHeartbeats 4000000 in
theorem t41_X1_init (l : Launch) (G : sG) (S : sS) : Met l yX1_init (.code yX1_init cX1_init 1 none :: tb) (rmk 3 42 35853) (sPc G 189 S [.ref (G.2.2.1 + 188)]) (sQv G 231 (fun u => u = (uR (uR (uR (uR (uR (uR (uR (uR (uR (uR (uR (uR (uR (uR (uR (uR (uR (uR (uR (uR (uR (uR (uR (uR (uR (uR (uR (uR (uR (uR (uR (uR (uR (uR (uR (uR (uR (uR (uR (uR (uR (uR S 190 0 (.ref (G.2.2.1 + 191))) 189 0 (.ref (G.2.2.1 + 190))) 189 1 (.ref (G.2.2.1 + 192))) 188 0 (.ref (G.2.2.1 + 189))) 193 0 (.ref (G.2.2.1 + 194))) 193 1 (.ref (G.2.2.1 + 195))) 196 0 (.ref (G.2.2.1 + 197))) 193 2 (.ref (G.2.2.1 + 196))) 198 0 (.ref (G.2.2.1 + 199))) 193 3 (.ref (G.2.2.1 + 198))) 200 0 (.ref (G.2.2.1 + 201))) 193 4 (.ref (G.2.2.1 + 200))) 202 0 (.ref (G.2.2.1 + 203))) 193 5 (.ref (G.2.2.1 + 202))) 204 0 (.ref (G.2.2.1 + 205))) 193 6 (.ref (G.2.2.1 + 204))) 206 0 (.ref (G.2.2.1 + 207))) 193 7 (.ref (G.2.2.1 + 206))) 188 1 (.ref (G.2.2.1 + 193))) 188 2 (.ref (G.2.2.1 + 208))) 209 0 (.ref (G.2.2.1 + 210))) 188 3 (.ref (G.2.2.1 + 209))) 211 0 (.ref (G.2.2.1 + 212))) 188 4 (.ref (G.2.2.1 + 211))) 213 0 (.ref (G.2.2.1 + 214))) 188 5 (.ref (G.2.2.1 + 213))) 215 0 (.ref (G.2.2.1 + 216))) 188 6 (.ref (G.2.2.1 + 215))) 217 0 (.ref (G.2.2.1 + 218))) 188 7 (.ref (G.2.2.1 + 217))) 219 0 (.ref (G.2.2.1 + 220))) 188 8 (.ref (G.2.2.1 + 219))) 221 0 (.ref (G.2.2.1 + 222))) 188 9 (.ref (G.2.2.1 + 221))) 223 0 (.ref (G.2.2.1 + 224))) 188 10 (.ref (G.2.2.1 + 223))) 188 11 (.ref (G.2.2.1 + 225))) 188 12 (.ref (G.2.2.1 + 226))) 188 13 (.ref (G.2.2.1 + 227))) 228 0 (.ref (G.2.2.1 + 229))) 228 1 (.ref (G.2.2.1 + 230))) 188 15 (.ref (G.2.2.1 + 228))))) 42 35853 (sF G) := by
  refine sEnter (by decide) (Nat.le_of_ble_eq_true rfl) ?_
  intro p e s m args below meth c Cx hr hlk hnm hW ls hl
  have Cx : sC G p m c cX1_init 1 s args RX1 := Cx
  obtain ⟨hx, hb, hml, hown, hts⟩ := id Cx.1
  have hL : sL G [] := sL_nil
  have hl : lv_has ls 1 [(0, .ref (G.2.2.1 + 188))] := hl
  refine lv_aload_n hx hb dX1_init_0 rfl (lv_at hl 0 rfl) ?_
  refine W.objInit hx hb hown (hts _ w_621) (hts _ w_233) (hts _ w_234) rfl (by rw [hml]; exact hl.1) rfl dX1_init_1 (Nat.le_of_ble_eq_true rfl) (Nat.le_of_ble_eq_true rfl) ?_
  refine W.eq (g2 := F0 m 4 ls []) rfl ?_
  refine lv_aload_n hx hb dX1_init_4 rfl (lv_at hl 0 rfl) ?_
  refine n_X1_9 Cx hW rfl (Nat.le_of_ble_eq_true rfl) (Nat.le_of_ble_eq_true rfl) dX1_init_5 (fun H hW => ?_)
  refine lv_dup hx hb dX1_init_8 rfl ?_
  refine sBv (sInN (As := []) (rest := [.ref (G.2.2.1 + 189), .ref (G.2.2.1 + 188)]) (k := 189) Cx (t42_X4_init l G S) (c_X1_11 Cx rfl rfl ⟨Nat.le_of_ble_eq_true rfl, Nat.le_of_ble_eq_true rfl⟩) hW rfl hl.1 rfl (Nat.le_of_ble_eq_true rfl) dX1_init_9 ⟨Nat.le_of_ble_eq_true rfl, Nat.le_of_ble_eq_true rfl⟩) hL (fun u H locs hq hW hL => ?_)
  subst hq
  refine p_X1_12 Cx hnm hW hL (k := 188) (by decide) rfl dX1_init_12 (fun H locs hW hL => ?_)
  refine lv_aload_n hx hb dX1_init_15 rfl (lv_at hl 0 rfl) ?_
  refine n_X1_18 Cx hW rfl (Nat.le_of_ble_eq_true rfl) (Nat.le_of_ble_eq_true rfl) dX1_init_16 (fun H hW => ?_)
  refine lv_dup hx hb dX1_init_19 rfl ?_
  refine sBv (sInN (As := []) (rest := [.ref (G.2.2.1 + 193), .ref (G.2.2.1 + 188)]) (k := 193) Cx (t44_X6_init l G (uR (uR (uR (uR S 190 0 (.ref (G.2.2.1 + 191))) 189 0 (.ref (G.2.2.1 + 190))) 189 1 (.ref (G.2.2.1 + 192))) 188 0 (.ref (G.2.2.1 + 189)))) (c_X1_20 Cx rfl rfl ⟨Nat.le_of_ble_eq_true rfl, Nat.le_of_ble_eq_true rfl⟩) hW rfl hl.1 rfl (Nat.le_of_ble_eq_true rfl) dX1_init_20 ⟨Nat.le_of_ble_eq_true rfl, Nat.le_of_ble_eq_true rfl⟩) hL (fun u H locs hq hW hL => ?_)
  subst hq
  refine p_X1_21 Cx hnm hW hL (k := 188) (by decide) rfl dX1_init_23 (fun H locs hW hL => ?_)
  refine lv_aload_n hx hb dX1_init_26 rfl (lv_at hl 0 rfl) ?_
  refine lv_bipush (v := iv 104) hx hb dX1_init_27 (by decide) ?_
  refine sNewa (atype := .int) (ty := .int) Cx (N := 104) rfl 0 rfl (fun U h => h) w_294 hW rfl (.inl rfl) (by decide) (by decide) (Nat.le_of_ble_eq_true rfl) (Nat.le_of_ble_eq_true rfl) (Nat.le_of_ble_eq_true rfl) dX1_init_29 (fun H hW => ?_)
  refine p_X1_27 Cx hnm hW hL (k := 188) (by decide) rfl dX1_init_31 (fun H locs hW hL => ?_)
  refine lv_aload_n hx hb dX1_init_34 rfl (lv_at hl 0 rfl) ?_
  refine n_X1_25 Cx hW rfl (Nat.le_of_ble_eq_true rfl) (Nat.le_of_ble_eq_true rfl) dX1_init_35 (fun H hW => ?_)
  refine lv_dup hx hb dX1_init_38 rfl ?_
  refine sBv (sInN (As := []) (rest := [.ref (G.2.2.1 + 209), .ref (G.2.2.1 + 188)]) (k := 209) Cx (t51_X0_init l G (uR (uR (uR (uR (uR (uR (uR (uR (uR (uR (uR (uR (uR (uR (uR (uR (uR (uR (uR (uR S 190 0 (.ref (G.2.2.1 + 191))) 189 0 (.ref (G.2.2.1 + 190))) 189 1 (.ref (G.2.2.1 + 192))) 188 0 (.ref (G.2.2.1 + 189))) 193 0 (.ref (G.2.2.1 + 194))) 193 1 (.ref (G.2.2.1 + 195))) 196 0 (.ref (G.2.2.1 + 197))) 193 2 (.ref (G.2.2.1 + 196))) 198 0 (.ref (G.2.2.1 + 199))) 193 3 (.ref (G.2.2.1 + 198))) 200 0 (.ref (G.2.2.1 + 201))) 193 4 (.ref (G.2.2.1 + 200))) 202 0 (.ref (G.2.2.1 + 203))) 193 5 (.ref (G.2.2.1 + 202))) 204 0 (.ref (G.2.2.1 + 205))) 193 6 (.ref (G.2.2.1 + 204))) 206 0 (.ref (G.2.2.1 + 207))) 193 7 (.ref (G.2.2.1 + 206))) 188 1 (.ref (G.2.2.1 + 193))) 188 2 (.ref (G.2.2.1 + 208)))) (c_X1_31 Cx rfl rfl ⟨Nat.le_of_ble_eq_true rfl, Nat.le_of_ble_eq_true rfl⟩) hW rfl hl.1 rfl (Nat.le_of_ble_eq_true rfl) dX1_init_39 ⟨Nat.le_of_ble_eq_true rfl, Nat.le_of_ble_eq_true rfl⟩) hL (fun u H locs hq hW hL => ?_)
  subst hq
  refine p_X1_32 Cx hnm hW hL (k := 188) (by decide) rfl dX1_init_42 (fun H locs hW hL => ?_)
  refine lv_aload_n hx hb dX1_init_45 rfl (lv_at hl 0 rfl) ?_
  refine n_X1_25 Cx hW rfl (Nat.le_of_ble_eq_true rfl) (Nat.le_of_ble_eq_true rfl) dX1_init_46 (fun H hW => ?_)
  refine lv_dup hx hb dX1_init_49 rfl ?_
  refine sBv (sInN (As := []) (rest := [.ref (G.2.2.1 + 211), .ref (G.2.2.1 + 188)]) (k := 211) Cx (t52_X0_init l G (uR (uR (uR (uR (uR (uR (uR (uR (uR (uR (uR (uR (uR (uR (uR (uR (uR (uR (uR (uR (uR (uR S 190 0 (.ref (G.2.2.1 + 191))) 189 0 (.ref (G.2.2.1 + 190))) 189 1 (.ref (G.2.2.1 + 192))) 188 0 (.ref (G.2.2.1 + 189))) 193 0 (.ref (G.2.2.1 + 194))) 193 1 (.ref (G.2.2.1 + 195))) 196 0 (.ref (G.2.2.1 + 197))) 193 2 (.ref (G.2.2.1 + 196))) 198 0 (.ref (G.2.2.1 + 199))) 193 3 (.ref (G.2.2.1 + 198))) 200 0 (.ref (G.2.2.1 + 201))) 193 4 (.ref (G.2.2.1 + 200))) 202 0 (.ref (G.2.2.1 + 203))) 193 5 (.ref (G.2.2.1 + 202))) 204 0 (.ref (G.2.2.1 + 205))) 193 6 (.ref (G.2.2.1 + 204))) 206 0 (.ref (G.2.2.1 + 207))) 193 7 (.ref (G.2.2.1 + 206))) 188 1 (.ref (G.2.2.1 + 193))) 188 2 (.ref (G.2.2.1 + 208))) 209 0 (.ref (G.2.2.1 + 210))) 188 3 (.ref (G.2.2.1 + 209)))) (c_X1_31 Cx rfl rfl ⟨Nat.le_of_ble_eq_true rfl, Nat.le_of_ble_eq_true rfl⟩) hW rfl hl.1 rfl (Nat.le_of_ble_eq_true rfl) dX1_init_50 ⟨Nat.le_of_ble_eq_true rfl, Nat.le_of_ble_eq_true rfl⟩) hL (fun u H locs hq hW hL => ?_)
  subst hq
  refine p_X1_36 Cx hnm hW hL (k := 188) (by decide) rfl dX1_init_53 (fun H locs hW hL => ?_)
  refine lv_aload_n hx hb dX1_init_56 rfl (lv_at hl 0 rfl) ?_
  refine n_X1_25 Cx hW rfl (Nat.le_of_ble_eq_true rfl) (Nat.le_of_ble_eq_true rfl) dX1_init_57 (fun H hW => ?_)
  refine lv_dup hx hb dX1_init_60 rfl ?_
  refine sBv (sInN (As := []) (rest := [.ref (G.2.2.1 + 213), .ref (G.2.2.1 + 188)]) (k := 213) Cx (t53_X0_init l G (uR (uR (uR (uR (uR (uR (uR (uR (uR (uR (uR (uR (uR (uR (uR (uR (uR (uR (uR (uR (uR (uR (uR (uR S 190 0 (.ref (G.2.2.1 + 191))) 189 0 (.ref (G.2.2.1 + 190))) 189 1 (.ref (G.2.2.1 + 192))) 188 0 (.ref (G.2.2.1 + 189))) 193 0 (.ref (G.2.2.1 + 194))) 193 1 (.ref (G.2.2.1 + 195))) 196 0 (.ref (G.2.2.1 + 197))) 193 2 (.ref (G.2.2.1 + 196))) 198 0 (.ref (G.2.2.1 + 199))) 193 3 (.ref (G.2.2.1 + 198))) 200 0 (.ref (G.2.2.1 + 201))) 193 4 (.ref (G.2.2.1 + 200))) 202 0 (.ref (G.2.2.1 + 203))) 193 5 (.ref (G.2.2.1 + 202))) 204 0 (.ref (G.2.2.1 + 205))) 193 6 (.ref (G.2.2.1 + 204))) 206 0 (.ref (G.2.2.1 + 207))) 193 7 (.ref (G.2.2.1 + 206))) 188 1 (.ref (G.2.2.1 + 193))) 188 2 (.ref (G.2.2.1 + 208))) 209 0 (.ref (G.2.2.1 + 210))) 188 3 (.ref (G.2.2.1 + 209))) 211 0 (.ref (G.2.2.1 + 212))) 188 4 (.ref (G.2.2.1 + 211)))) (c_X1_31 Cx rfl rfl ⟨Nat.le_of_ble_eq_true rfl, Nat.le_of_ble_eq_true rfl⟩) hW rfl hl.1 rfl (Nat.le_of_ble_eq_true rfl) dX1_init_61 ⟨Nat.le_of_ble_eq_true rfl, Nat.le_of_ble_eq_true rfl⟩) hL (fun u H locs hq hW hL => ?_)
  subst hq
  refine p_X1_39 Cx hnm hW hL (k := 188) (by decide) rfl dX1_init_64 (fun H locs hW hL => ?_)
  refine lv_aload_n hx hb dX1_init_67 rfl (lv_at hl 0 rfl) ?_
  refine n_X1_25 Cx hW rfl (Nat.le_of_ble_eq_true rfl) (Nat.le_of_ble_eq_true rfl) dX1_init_68 (fun H hW => ?_)
  refine lv_dup hx hb dX1_init_71 rfl ?_
  refine sBv (sInN (As := []) (rest := [.ref (G.2.2.1 + 215), .ref (G.2.2.1 + 188)]) (k := 215) Cx (t54_X0_init l G (uR (uR (uR (uR (uR (uR (uR (uR (uR (uR (uR (uR (uR (uR (uR (uR (uR (uR (uR (uR (uR (uR (uR (uR (uR (uR S 190 0 (.ref (G.2.2.1 + 191))) 189 0 (.ref (G.2.2.1 + 190))) 189 1 (.ref (G.2.2.1 + 192))) 188 0 (.ref (G.2.2.1 + 189))) 193 0 (.ref (G.2.2.1 + 194))) 193 1 (.ref (G.2.2.1 + 195))) 196 0 (.ref (G.2.2.1 + 197))) 193 2 (.ref (G.2.2.1 + 196))) 198 0 (.ref (G.2.2.1 + 199))) 193 3 (.ref (G.2.2.1 + 198))) 200 0 (.ref (G.2.2.1 + 201))) 193 4 (.ref (G.2.2.1 + 200))) 202 0 (.ref (G.2.2.1 + 203))) 193 5 (.ref (G.2.2.1 + 202))) 204 0 (.ref (G.2.2.1 + 205))) 193 6 (.ref (G.2.2.1 + 204))) 206 0 (.ref (G.2.2.1 + 207))) 193 7 (.ref (G.2.2.1 + 206))) 188 1 (.ref (G.2.2.1 + 193))) 188 2 (.ref (G.2.2.1 + 208))) 209 0 (.ref (G.2.2.1 + 210))) 188 3 (.ref (G.2.2.1 + 209))) 211 0 (.ref (G.2.2.1 + 212))) 188 4 (.ref (G.2.2.1 + 211))) 213 0 (.ref (G.2.2.1 + 214))) 188 5 (.ref (G.2.2.1 + 213)))) (c_X1_31 Cx rfl rfl ⟨Nat.le_of_ble_eq_true rfl, Nat.le_of_ble_eq_true rfl⟩) hW rfl hl.1 rfl (Nat.le_of_ble_eq_true rfl) dX1_init_72 ⟨Nat.le_of_ble_eq_true rfl, Nat.le_of_ble_eq_true rfl⟩) hL (fun u H locs hq hW hL => ?_)
  subst hq
  refine p_X1_42 Cx hnm hW hL (k := 188) (by decide) rfl dX1_init_75 (fun H locs hW hL => ?_)
  refine lv_aload_n hx hb dX1_init_78 rfl (lv_at hl 0 rfl) ?_
  refine n_X1_25 Cx hW rfl (Nat.le_of_ble_eq_true rfl) (Nat.le_of_ble_eq_true rfl) dX1_init_79 (fun H hW => ?_)
  refine lv_dup hx hb dX1_init_82 rfl ?_
  refine sBv (sInN (As := []) (rest := [.ref (G.2.2.1 + 217), .ref (G.2.2.1 + 188)]) (k := 217) Cx (t55_X0_init l G (uR (uR (uR (uR (uR (uR (uR (uR (uR (uR (uR (uR (uR (uR (uR (uR (uR (uR (uR (uR (uR (uR (uR (uR (uR (uR (uR (uR S 190 0 (.ref (G.2.2.1 + 191))) 189 0 (.ref (G.2.2.1 + 190))) 189 1 (.ref (G.2.2.1 + 192))) 188 0 (.ref (G.2.2.1 + 189))) 193 0 (.ref (G.2.2.1 + 194))) 193 1 (.ref (G.2.2.1 + 195))) 196 0 (.ref (G.2.2.1 + 197))) 193 2 (.ref (G.2.2.1 + 196))) 198 0 (.ref (G.2.2.1 + 199))) 193 3 (.ref (G.2.2.1 + 198))) 200 0 (.ref (G.2.2.1 + 201))) 193 4 (.ref (G.2.2.1 + 200))) 202 0 (.ref (G.2.2.1 + 203))) 193 5 (.ref (G.2.2.1 + 202))) 204 0 (.ref (G.2.2.1 + 205))) 193 6 (.ref (G.2.2.1 + 204))) 206 0 (.ref (G.2.2.1 + 207))) 193 7 (.ref (G.2.2.1 + 206))) 188 1 (.ref (G.2.2.1 + 193))) 188 2 (.ref (G.2.2.1 + 208))) 209 0 (.ref (G.2.2.1 + 210))) 188 3 (.ref (G.2.2.1 + 209))) 211 0 (.ref (G.2.2.1 + 212))) 188 4 (.ref (G.2.2.1 + 211))) 213 0 (.ref (G.2.2.1 + 214))) 188 5 (.ref (G.2.2.1 + 213))) 215 0 (.ref (G.2.2.1 + 216))) 188 6 (.ref (G.2.2.1 + 215)))) (c_X1_31 Cx rfl rfl ⟨Nat.le_of_ble_eq_true rfl, Nat.le_of_ble_eq_true rfl⟩) hW rfl hl.1 rfl (Nat.le_of_ble_eq_true rfl) dX1_init_83 ⟨Nat.le_of_ble_eq_true rfl, Nat.le_of_ble_eq_true rfl⟩) hL (fun u H locs hq hW hL => ?_)
  subst hq
  refine p_X1_45 Cx hnm hW hL (k := 188) (by decide) rfl dX1_init_86 (fun H locs hW hL => ?_)
  refine lv_aload_n hx hb dX1_init_89 rfl (lv_at hl 0 rfl) ?_
  refine n_X1_25 Cx hW rfl (Nat.le_of_ble_eq_true rfl) (Nat.le_of_ble_eq_true rfl) dX1_init_90 (fun H hW => ?_)
  refine lv_dup hx hb dX1_init_93 rfl ?_
  refine sBv (sInN (As := []) (rest := [.ref (G.2.2.1 + 219), .ref (G.2.2.1 + 188)]) (k := 219) Cx (t56_X0_init l G (uR (uR (uR (uR (uR (uR (uR (uR (uR (uR (uR (uR (uR (uR (uR (uR (uR (uR (uR (uR (uR (uR (uR (uR (uR (uR (uR (uR (uR (uR S 190 0 (.ref (G.2.2.1 + 191))) 189 0 (.ref (G.2.2.1 + 190))) 189 1 (.ref (G.2.2.1 + 192))) 188 0 (.ref (G.2.2.1 + 189))) 193 0 (.ref (G.2.2.1 + 194))) 193 1 (.ref (G.2.2.1 + 195))) 196 0 (.ref (G.2.2.1 + 197))) 193 2 (.ref (G.2.2.1 + 196))) 198 0 (.ref (G.2.2.1 + 199))) 193 3 (.ref (G.2.2.1 + 198))) 200 0 (.ref (G.2.2.1 + 201))) 193 4 (.ref (G.2.2.1 + 200))) 202 0 (.ref (G.2.2.1 + 203))) 193 5 (.ref (G.2.2.1 + 202))) 204 0 (.ref (G.2.2.1 + 205))) 193 6 (.ref (G.2.2.1 + 204))) 206 0 (.ref (G.2.2.1 + 207))) 193 7 (.ref (G.2.2.1 + 206))) 188 1 (.ref (G.2.2.1 + 193))) 188 2 (.ref (G.2.2.1 + 208))) 209 0 (.ref (G.2.2.1 + 210))) 188 3 (.ref (G.2.2.1 + 209))) 211 0 (.ref (G.2.2.1 + 212))) 188 4 (.ref (G.2.2.1 + 211))) 213 0 (.ref (G.2.2.1 + 214))) 188 5 (.ref (G.2.2.1 + 213))) 215 0 (.ref (G.2.2.1 + 216))) 188 6 (.ref (G.2.2.1 + 215))) 217 0 (.ref (G.2.2.1 + 218))) 188 7 (.ref (G.2.2.1 + 217)))) (c_X1_31 Cx rfl rfl ⟨Nat.le_of_ble_eq_true rfl, Nat.le_of_ble_eq_true rfl⟩) hW rfl hl.1 rfl (Nat.le_of_ble_eq_true rfl) dX1_init_94 ⟨Nat.le_of_ble_eq_true rfl, Nat.le_of_ble_eq_true rfl⟩) hL (fun u H locs hq hW hL => ?_)
  subst hq
  refine p_X1_48 Cx hnm hW hL (k := 188) (by decide) rfl dX1_init_97 (fun H locs hW hL => ?_)
  refine lv_aload_n hx hb dX1_init_100 rfl (lv_at hl 0 rfl) ?_
  refine n_X1_25 Cx hW rfl (Nat.le_of_ble_eq_true rfl) (Nat.le_of_ble_eq_true rfl) dX1_init_101 (fun H hW => ?_)
  refine lv_dup hx hb dX1_init_104 rfl ?_
  refine sBv (sInN (As := []) (rest := [.ref (G.2.2.1 + 221), .ref (G.2.2.1 + 188)]) (k := 221) Cx (t57_X0_init l G (uR (uR (uR (uR (uR (uR (uR (uR (uR (uR (uR (uR (uR (uR (uR (uR (uR (uR (uR (uR (uR (uR (uR (uR (uR (uR (uR (uR (uR (uR (uR (uR S 190 0 (.ref (G.2.2.1 + 191))) 189 0 (.ref (G.2.2.1 + 190))) 189 1 (.ref (G.2.2.1 + 192))) 188 0 (.ref (G.2.2.1 + 189))) 193 0 (.ref (G.2.2.1 + 194))) 193 1 (.ref (G.2.2.1 + 195))) 196 0 (.ref (G.2.2.1 + 197))) 193 2 (.ref (G.2.2.1 + 196))) 198 0 (.ref (G.2.2.1 + 199))) 193 3 (.ref (G.2.2.1 + 198))) 200 0 (.ref (G.2.2.1 + 201))) 193 4 (.ref (G.2.2.1 + 200))) 202 0 (.ref (G.2.2.1 + 203))) 193 5 (.ref (G.2.2.1 + 202))) 204 0 (.ref (G.2.2.1 + 205))) 193 6 (.ref (G.2.2.1 + 204))) 206 0 (.ref (G.2.2.1 + 207))) 193 7 (.ref (G.2.2.1 + 206))) 188 1 (.ref (G.2.2.1 + 193))) 188 2 (.ref (G.2.2.1 + 208))) 209 0 (.ref (G.2.2.1 + 210))) 188 3 (.ref (G.2.2.1 + 209))) 211 0 (.ref (G.2.2.1 + 212))) 188 4 (.ref (G.2.2.1 + 211))) 213 0 (.ref (G.2.2.1 + 214))) 188 5 (.ref (G.2.2.1 + 213))) 215 0 (.ref (G.2.2.1 + 216))) 188 6 (.ref (G.2.2.1 + 215))) 217 0 (.ref (G.2.2.1 + 218))) 188 7 (.ref (G.2.2.1 + 217))) 219 0 (.ref (G.2.2.1 + 220))) 188 8 (.ref (G.2.2.1 + 219)))) (c_X1_31 Cx rfl rfl ⟨Nat.le_of_ble_eq_true rfl, Nat.le_of_ble_eq_true rfl⟩) hW rfl hl.1 rfl (Nat.le_of_ble_eq_true rfl) dX1_init_105 ⟨Nat.le_of_ble_eq_true rfl, Nat.le_of_ble_eq_true rfl⟩) hL (fun u H locs hq hW hL => ?_)
  subst hq
  refine p_X1_51 Cx hnm hW hL (k := 188) (by decide) rfl dX1_init_108 (fun H locs hW hL => ?_)
  refine lv_aload_n hx hb dX1_init_111 rfl (lv_at hl 0 rfl) ?_
  refine n_X1_25 Cx hW rfl (Nat.le_of_ble_eq_true rfl) (Nat.le_of_ble_eq_true rfl) dX1_init_112 (fun H hW => ?_)
  refine lv_dup hx hb dX1_init_115 rfl ?_
  refine sBv (sInN (As := []) (rest := [.ref (G.2.2.1 + 223), .ref (G.2.2.1 + 188)]) (k := 223) Cx (t58_X0_init l G (uR (uR (uR (uR (uR (uR (uR (uR (uR (uR (uR (uR (uR (uR (uR (uR (uR (uR (uR (uR (uR (uR (uR (uR (uR (uR (uR (uR (uR (uR (uR (uR (uR (uR S 190 0 (.ref (G.2.2.1 + 191))) 189 0 (.ref (G.2.2.1 + 190))) 189 1 (.ref (G.2.2.1 + 192))) 188 0 (.ref (G.2.2.1 + 189))) 193 0 (.ref (G.2.2.1 + 194))) 193 1 (.ref (G.2.2.1 + 195))) 196 0 (.ref (G.2.2.1 + 197))) 193 2 (.ref (G.2.2.1 + 196))) 198 0 (.ref (G.2.2.1 + 199))) 193 3 (.ref (G.2.2.1 + 198))) 200 0 (.ref (G.2.2.1 + 201))) 193 4 (.ref (G.2.2.1 + 200))) 202 0 (.ref (G.2.2.1 + 203))) 193 5 (.ref (G.2.2.1 + 202))) 204 0 (.ref (G.2.2.1 + 205))) 193 6 (.ref (G.2.2.1 + 204))) 206 0 (.ref (G.2.2.1 + 207))) 193 7 (.ref (G.2.2.1 + 206))) 188 1 (.ref (G.2.2.1 + 193))) 188 2 (.ref (G.2.2.1 + 208))) 209 0 (.ref (G.2.2.1 + 210))) 188 3 (.ref (G.2.2.1 + 209))) 211 0 (.ref (G.2.2.1 + 212))) 188 4 (.ref (G.2.2.1 + 211))) 213 0 (.ref (G.2.2.1 + 214))) 188 5 (.ref (G.2.2.1 + 213))) 215 0 (.ref (G.2.2.1 + 216))) 188 6 (.ref (G.2.2.1 + 215))) 217 0 (.ref (G.2.2.1 + 218))) 188 7 (.ref (G.2.2.1 + 217))) 219 0 (.ref (G.2.2.1 + 220))) 188 8 (.ref (G.2.2.1 + 219))) 221 0 (.ref (G.2.2.1 + 222))) 188 9 (.ref (G.2.2.1 + 221)))) (c_X1_31 Cx rfl rfl ⟨Nat.le_of_ble_eq_true rfl, Nat.le_of_ble_eq_true rfl⟩) hW rfl hl.1 rfl (Nat.le_of_ble_eq_true rfl) dX1_init_116 ⟨Nat.le_of_ble_eq_true rfl, Nat.le_of_ble_eq_true rfl⟩) hL (fun u H locs hq hW hL => ?_)
  subst hq
  refine p_X1_54 Cx hnm hW hL (k := 188) (by decide) rfl dX1_init_119 (fun H locs hW hL => ?_)
  refine lv_aload_n hx hb dX1_init_122 rfl (lv_at hl 0 rfl) ?_
  refine lv_bipush (v := iv 41) hx hb dX1_init_123 (by decide) ?_
  refine sNewa (atype := .int) (ty := .int) Cx (N := 41) rfl 0 rfl (fun U h => h) w_294 hW rfl (.inl rfl) (by decide) (by decide) (Nat.le_of_ble_eq_true rfl) (Nat.le_of_ble_eq_true rfl) (Nat.le_of_ble_eq_true rfl) dX1_init_125 (fun H hW => ?_)
  refine p_X1_57 Cx hnm hW hL (k := 188) (by decide) rfl dX1_init_127 (fun H locs hW hL => ?_)
  refine lv_aload_n hx hb dX1_init_130 rfl (lv_at hl 0 rfl) ?_
  refine lv_bipush (v := iv 41) hx hb dX1_init_131 (by decide) ?_
  refine sNewa (atype := .int) (ty := .int) Cx (N := 41) rfl 0 rfl (fun U h => h) w_294 hW rfl (.inl rfl) (by decide) (by decide) (Nat.le_of_ble_eq_true rfl) (Nat.le_of_ble_eq_true rfl) (Nat.le_of_ble_eq_true rfl) dX1_init_133 (fun H hW => ?_)
  refine p_X1_60 Cx hnm hW hL (k := 188) (by decide) rfl dX1_init_135 (fun H locs hW hL => ?_)
  refine lv_aload_n hx hb dX1_init_138 rfl (lv_at hl 0 rfl) ?_
  refine lv_sipush (v := iv 328) hx hb dX1_init_139 (by decide) ?_
  refine sNewa (atype := .int) (ty := .int) Cx (N := 328) rfl 0 rfl (fun U h => h) w_294 hW rfl (.inl rfl) (by decide) (by decide) (Nat.le_of_ble_eq_true rfl) (Nat.le_of_ble_eq_true rfl) (Nat.le_of_ble_eq_true rfl) dX1_init_142 (fun H hW => ?_)
  refine p_X1_63 Cx hnm hW hL (k := 188) (by decide) rfl dX1_init_144 (fun H locs hW hL => ?_)
  refine lv_aload_n hx hb dX1_init_147 rfl (lv_at hl 0 rfl) ?_
  refine n_X1_66 Cx hW rfl (Nat.le_of_ble_eq_true rfl) (Nat.le_of_ble_eq_true rfl) dX1_init_148 (fun H hW => ?_)
  refine lv_dup hx hb dX1_init_151 rfl ?_
  refine sBv (sInN (As := []) (rest := [.ref (G.2.2.1 + 228), .ref (G.2.2.1 + 188)]) (k := 228) Cx (t59_X3_init l G (uR (uR (uR (uR (uR (uR (uR (uR (uR (uR (uR (uR (uR (uR (uR (uR (uR (uR (uR (uR (uR (uR (uR (uR (uR (uR (uR (uR (uR (uR (uR (uR (uR (uR (uR (uR (uR (uR (uR S 190 0 (.ref (G.2.2.1 + 191))) 189 0 (.ref (G.2.2.1 + 190))) 189 1 (.ref (G.2.2.1 + 192))) 188 0 (.ref (G.2.2.1 + 189))) 193 0 (.ref (G.2.2.1 + 194))) 193 1 (.ref (G.2.2.1 + 195))) 196 0 (.ref (G.2.2.1 + 197))) 193 2 (.ref (G.2.2.1 + 196))) 198 0 (.ref (G.2.2.1 + 199))) 193 3 (.ref (G.2.2.1 + 198))) 200 0 (.ref (G.2.2.1 + 201))) 193 4 (.ref (G.2.2.1 + 200))) 202 0 (.ref (G.2.2.1 + 203))) 193 5 (.ref (G.2.2.1 + 202))) 204 0 (.ref (G.2.2.1 + 205))) 193 6 (.ref (G.2.2.1 + 204))) 206 0 (.ref (G.2.2.1 + 207))) 193 7 (.ref (G.2.2.1 + 206))) 188 1 (.ref (G.2.2.1 + 193))) 188 2 (.ref (G.2.2.1 + 208))) 209 0 (.ref (G.2.2.1 + 210))) 188 3 (.ref (G.2.2.1 + 209))) 211 0 (.ref (G.2.2.1 + 212))) 188 4 (.ref (G.2.2.1 + 211))) 213 0 (.ref (G.2.2.1 + 214))) 188 5 (.ref (G.2.2.1 + 213))) 215 0 (.ref (G.2.2.1 + 216))) 188 6 (.ref (G.2.2.1 + 215))) 217 0 (.ref (G.2.2.1 + 218))) 188 7 (.ref (G.2.2.1 + 217))) 219 0 (.ref (G.2.2.1 + 220))) 188 8 (.ref (G.2.2.1 + 219))) 221 0 (.ref (G.2.2.1 + 222))) 188 9 (.ref (G.2.2.1 + 221))) 223 0 (.ref (G.2.2.1 + 224))) 188 10 (.ref (G.2.2.1 + 223))) 188 11 (.ref (G.2.2.1 + 225))) 188 12 (.ref (G.2.2.1 + 226))) 188 13 (.ref (G.2.2.1 + 227)))) (c_X1_68 Cx rfl rfl ⟨Nat.le_of_ble_eq_true rfl, Nat.le_of_ble_eq_true rfl⟩) hW rfl hl.1 rfl (Nat.le_of_ble_eq_true rfl) dX1_init_152 ⟨Nat.le_of_ble_eq_true rfl, Nat.le_of_ble_eq_true rfl⟩) hL (fun u H locs hq hW hL => ?_)
  subst hq
  refine p_X1_69 Cx hW hL (k := 188) (by decide) rfl dX1_init_155 (fun H locs hW hL => ?_)
  exact sVret Cx hr hlk hW hL rfl dX1_init_158

set_option maxRecDepth 100000 in
set_option maxHeartbeats 4000000 in
theorem t60_X12_init (l : Launch) (G : sG) (S : sS) : Met l yX12_init (.code yX12_init cX12_init 1 none :: tb) (rmk 1 62 509401) (sPc G 232 S [.ref (G.2.2.1 + 231)]) (sQv G 294 (fun u => u = (uR (uR (uR (uR (uR (uR (uR (uR (uR (uR (uR (uR (uR (uR (uR (uR (uR (uR (uR (uR (uR (uR (uR (uR (uR (uR (uR (uR (uR (uR (uR (uR (uR (uR (uR (uR (uR (uR (uR (uR (uR (uR (uR (uR (uR (uR (uR (uR (uR (uR (uR (uR (uR (uR (uR (uR (uR (uR (uR (uR (uR (uR S 231 0 (.ref (G.2.2.1 + 232))) 231 2 (.ref (G.2.2.1 + 233))) 231 3 (.ref (G.2.2.1 + 234))) 231 4 (.ref (G.2.2.1 + 235))) 231 5 (.ref (G.2.2.1 + 236))) 231 7 (.ref (G.2.2.1 + 237))) 231 8 (.ref (G.2.2.1 + 238))) 231 9 (.ref (G.2.2.1 + 239))) 231 10 (.ref (G.2.2.1 + 240))) 231 11 (.ref (G.2.2.1 + 241))) 231 12 (.ref (G.2.2.1 + 242))) 231 13 (.ref (G.2.2.1 + 243))) 231 15 (.ref (G.2.2.1 + 244))) 231 16 (.ref (G.2.2.1 + 245))) 231 17 (.ref (G.2.2.1 + 246))) 231 18 (.ref (G.2.2.1 + 247))) 231 26 (.ref (G.2.2.1 + 248))) 231 27 (.ref (G.2.2.1 + 249))) 231 28 (.ref (G.2.2.1 + 250))) 231 29 (.ref (G.2.2.1 + 251))) 231 30 (.ref (G.2.2.1 + 252))) 231 31 (.ref (G.2.2.1 + 253))) 231 37 (.ref (G.2.2.1 + 254))) 231 38 (.ref (G.2.2.1 + 255))) 231 39 (.ref (G.2.2.1 + 256))) 231 41 (.ref (G.2.2.1 + 257))) 231 44 (.ref (G.2.2.1 + 258))) 231 50 (.ref (G.2.2.1 + 259))) 231 51 (.ref (G.2.2.1 + 260))) 231 52 (.ref (G.2.2.1 + 261))) 231 53 (.ref (G.2.2.1 + 262))) 231 54 (.ref (G.2.2.1 + 263))) 231 55 (.ref (G.2.2.1 + 264))) 231 56 (.ref (G.2.2.1 + 265))) 231 57 (.ref (G.2.2.1 + 266))) 231 73 (.ref (G.2.2.1 + 267))) 231 74 (.ref (G.2.2.1 + 268))) 231 75 (.ref (G.2.2.1 + 269))) 231 76 (.ref (G.2.2.1 + 270))) 231 77 (.ref (G.2.2.1 + 271))) 231 80 (.ref (G.2.2.1 + 272))) 231 81 (.ref (G.2.2.1 + 273))) 231 82 (.ref (G.2.2.1 + 274))) 231 83 (.ref (G.2.2.1 + 275))) 231 85 (.ref (G.2.2.1 + 276))) 231 87 (.ref (G.2.2.1 + 277))) 231 88 (.ref (G.2.2.1 + 278))) 231 89 (.ref (G.2.2.1 + 279))) 231 90 (.ref (G.2.2.1 + 280))) 231 91 (.ref (G.2.2.1 + 281))) 231 92 (.ref (G.2.2.1 + 282))) 231 93 (.ref (G.2.2.1 + 283))) 231 94 (.ref (G.2.2.1 + 284))) 231 95 (.ref (G.2.2.1 + 285))) 231 96 (.ref (G.2.2.1 + 286))) 231 97 (.ref (G.2.2.1 + 287))) 231 98 (.ref (G.2.2.1 + 288))) 231 99 (.ref (G.2.2.1 + 289))) 231 101 (.ref (G.2.2.1 + 290))) 231 102 (.ref (G.2.2.1 + 291))) 231 103 (.ref (G.2.2.1 + 292))) 231 104 (.ref (G.2.2.1 + 293))))) 62 509401 (sF G) := by
  refine sEnter (by decide) (Nat.le_of_ble_eq_true rfl) ?_
  intro p e s m args below meth c Cx hr hlk hnm hW ls hl
  have Cx : sC G p m c cX12_init 1 s args RX12 := Cx
  obtain ⟨hx, hb, hml, hown, hts⟩ := id Cx.1
  have hL : sL G [] := sL_nil
  have hl : lv_has ls 1 [(0, .ref (G.2.2.1 + 231))] := hl
  refine lv_aload_n hx hb dX12_init_0 rfl (lv_at hl 0 rfl) ?_
  refine W.objInit hx hb hown (hts _ w_1957) (hts _ w_233) (hts _ w_234) rfl (by rw [hml]; exact hl.1) rfl dX12_init_1 (Nat.le_of_ble_eq_true rfl) (Nat.le_of_ble_eq_true rfl) ?_
  refine W.eq (g2 := F0 m 4 ls []) rfl ?_
  refine lv_aload_n hx hb dX12_init_4 rfl (lv_at hl 0 rfl) ?_
  refine lv_sipush (v := iv 30000) hx hb dX12_init_5 (by decide) ?_
  refine sNewa (atype := .byte) (ty := .byte) Cx (N := 30000) rfl 2 rfl (fun U h => h) w_254 hW rfl (.inl rfl) (by decide) (by decide) (Nat.le_of_ble_eq_true rfl) (Nat.le_of_ble_eq_true rfl) (Nat.le_of_ble_eq_true rfl) dX12_init_8 (fun H hW => ?_)
  refine p_X12_9 Cx hnm hW hL (k := 231) (by decide) rfl dX12_init_10 (fun H locs hW hL => ?_)
  refine lv_aload_n hx hb dX12_init_13 rfl (lv_at hl 0 rfl) ?_
  refine lv_bipush (v := iv 66) hx hb dX12_init_14 (by decide) ?_
  refine sNewa (atype := .int) (ty := .int) Cx (N := 66) rfl 0 rfl (fun U h => h) w_294 hW rfl (.inl rfl) (by decide) (by decide) (Nat.le_of_ble_eq_true rfl) (Nat.le_of_ble_eq_true rfl) (Nat.le_of_ble_eq_true rfl) dX12_init_16 (fun H hW => ?_)
  refine p_X12_13 Cx hnm hW hL (k := 231) (by decide) rfl dX12_init_18 (fun H locs hW hL => ?_)
  refine lv_aload_n hx hb dX12_init_21 rfl (lv_at hl 0 rfl) ?_
  refine lv_bipush (v := iv 66) hx hb dX12_init_22 (by decide) ?_
  refine sNewa (atype := .int) (ty := .int) Cx (N := 66) rfl 0 rfl (fun U h => h) w_294 hW rfl (.inl rfl) (by decide) (by decide) (Nat.le_of_ble_eq_true rfl) (Nat.le_of_ble_eq_true rfl) (Nat.le_of_ble_eq_true rfl) dX12_init_24 (fun H hW => ?_)
  refine p_X12_17 Cx hnm hW hL (k := 231) (by decide) rfl dX12_init_26 (fun H locs hW hL => ?_)
  refine lv_aload_n hx hb dX12_init_29 rfl (lv_at hl 0 rfl) ?_
  refine lv_iconst (v := iv 4) hx hb dX12_init_30 (by decide) ?_
  refine sNewa (atype := .int) (ty := .int) Cx (N := 4) rfl 0 rfl (fun U h => h) w_294 hW rfl (.inl rfl) (by decide) (by decide) (Nat.le_of_ble_eq_true rfl) (Nat.le_of_ble_eq_true rfl) (Nat.le_of_ble_eq_true rfl) dX12_init_31 (fun H hW => ?_)
  refine p_X12_20 Cx hnm hW hL (k := 231) (by decide) rfl dX12_init_33 (fun H locs hW hL => ?_)
  refine lv_aload_n hx hb dX12_init_36 rfl (lv_at hl 0 rfl) ?_
  refine lv_sipush (v := iv 576) hx hb dX12_init_37 (by decide) ?_
  refine sNewa (atype := .byte) (ty := .byte) Cx (N := 576) rfl 2 rfl (fun U h => h) w_254 hW rfl (.inl rfl) (by decide) (by decide) (Nat.le_of_ble_eq_true rfl) (Nat.le_of_ble_eq_true rfl) (Nat.le_of_ble_eq_true rfl) dX12_init_40 (fun H hW => ?_)
  refine p_X12_23 Cx hnm hW hL (k := 231) (by decide) rfl dX12_init_42 (fun H locs hW hL => ?_)
  refine lv_aload_n hx hb dX12_init_45 rfl (lv_at hl 0 rfl) ?_
  refine lv_bipush (v := iv 68) hx hb dX12_init_46 (by decide) ?_
  refine sNewa (atype := .int) (ty := .int) Cx (N := 68) rfl 0 rfl (fun U h => h) w_294 hW rfl (.inl rfl) (by decide) (by decide) (Nat.le_of_ble_eq_true rfl) (Nat.le_of_ble_eq_true rfl) (Nat.le_of_ble_eq_true rfl) dX12_init_48 (fun H hW => ?_)
  refine p_X12_26 Cx hnm hW hL (k := 231) (by decide) rfl dX12_init_50 (fun H locs hW hL => ?_)
  refine lv_aload_n hx hb dX12_init_53 rfl (lv_at hl 0 rfl) ?_
  refine lv_bipush (v := iv 68) hx hb dX12_init_54 (by decide) ?_
  refine sNewa (atype := .int) (ty := .int) Cx (N := 68) rfl 0 rfl (fun U h => h) w_294 hW rfl (.inl rfl) (by decide) (by decide) (Nat.le_of_ble_eq_true rfl) (Nat.le_of_ble_eq_true rfl) (Nat.le_of_ble_eq_true rfl) dX12_init_56 (fun H hW => ?_)
  refine p_X12_29 Cx hnm hW hL (k := 231) (by decide) rfl dX12_init_58 (fun H locs hW hL => ?_)
  refine lv_aload_n hx hb dX12_init_61 rfl (lv_at hl 0 rfl) ?_
  refine lv_bipush (v := iv 68) hx hb dX12_init_62 (by decide) ?_
  refine sNewa (atype := .int) (ty := .int) Cx (N := 68) rfl 0 rfl (fun U h => h) w_294 hW rfl (.inl rfl) (by decide) (by decide) (Nat.le_of_ble_eq_true rfl) (Nat.le_of_ble_eq_true rfl) (Nat.le_of_ble_eq_true rfl) dX12_init_64 (fun H hW => ?_)
  refine p_X12_32 Cx hnm hW hL (k := 231) (by decide) rfl dX12_init_66 (fun H locs hW hL => ?_)
  refine lv_aload_n hx hb dX12_init_69 rfl (lv_at hl 0 rfl) ?_
  refine lv_bipush (v := iv 68) hx hb dX12_init_70 (by decide) ?_
  refine sNewa (atype := .int) (ty := .int) Cx (N := 68) rfl 0 rfl (fun U h => h) w_294 hW rfl (.inl rfl) (by decide) (by decide) (Nat.le_of_ble_eq_true rfl) (Nat.le_of_ble_eq_true rfl) (Nat.le_of_ble_eq_true rfl) dX12_init_72 (fun H hW => ?_)
  refine p_X12_35 Cx hnm hW hL (k := 231) (by decide) rfl dX12_init_74 (fun H locs hW hL => ?_)
  refine lv_aload_n hx hb dX12_init_77 rfl (lv_at hl 0 rfl) ?_
  refine lv_bipush (v := iv 68) hx hb dX12_init_78 (by decide) ?_
  refine sNewa (atype := .int) (ty := .int) Cx (N := 68) rfl 0 rfl (fun U h => h) w_294 hW rfl (.inl rfl) (by decide) (by decide) (Nat.le_of_ble_eq_true rfl) (Nat.le_of_ble_eq_true rfl) (Nat.le_of_ble_eq_true rfl) dX12_init_80 (fun H hW => ?_)
  refine p_X12_38 Cx hnm hW hL (k := 231) (by decide) rfl dX12_init_82 (fun H locs hW hL => ?_)
  refine lv_aload_n hx hb dX12_init_85 rfl (lv_at hl 0 rfl) ?_
  refine lv_bipush (v := iv 68) hx hb dX12_init_86 (by decide) ?_
  refine sNewa (atype := .int) (ty := .int) Cx (N := 68) rfl 0 rfl (fun U h => h) w_294 hW rfl (.inl rfl) (by decide) (by decide) (Nat.le_of_ble_eq_true rfl) (Nat.le_of_ble_eq_true rfl) (Nat.le_of_ble_eq_true rfl) dX12_init_88 (fun H hW => ?_)
  refine p_X12_41 Cx hnm hW hL (k := 231) (by decide) rfl dX12_init_90 (fun H locs hW hL => ?_)
  refine lv_aload_n hx hb dX12_init_93 rfl (lv_at hl 0 rfl) ?_
  refine lv_sipush (v := iv 30000) hx hb dX12_init_94 (by decide) ?_
  refine sNewa (atype := .byte) (ty := .byte) Cx (N := 30000) rfl 2 rfl (fun U h => h) w_254 hW rfl (.inl rfl) (by decide) (by decide) (Nat.le_of_ble_eq_true rfl) (Nat.le_of_ble_eq_true rfl) (Nat.le_of_ble_eq_true rfl) dX12_init_97 (fun H hW => ?_)
  refine p_X12_44 Cx hnm hW hL (k := 231) (by decide) rfl dX12_init_99 (fun H locs hW hL => ?_)
  refine lv_aload_n hx hb dX12_init_102 rfl (lv_at hl 0 rfl) ?_
  refine lv_sipush (v := iv 30004) hx hb dX12_init_103 (by decide) ?_
  refine sNewa (atype := .int) (ty := .int) Cx (N := 30004) rfl 0 rfl (fun U h => h) w_294 hW rfl (.inl rfl) (by decide) (by decide) (Nat.le_of_ble_eq_true rfl) (Nat.le_of_ble_eq_true rfl) (Nat.le_of_ble_eq_true rfl) dX12_init_106 (fun H hW => ?_)
  refine p_X12_47 Cx hnm hW hL (k := 231) (by decide) rfl dX12_init_108 (fun H locs hW hL => ?_)
  refine lv_aload_n hx hb dX12_init_111 rfl (lv_at hl 0 rfl) ?_
  refine lv_sipush (v := iv 30004) hx hb dX12_init_112 (by decide) ?_
  refine sNewa (atype := .int) (ty := .int) Cx (N := 30004) rfl 0 rfl (fun U h => h) w_294 hW rfl (.inl rfl) (by decide) (by decide) (Nat.le_of_ble_eq_true rfl) (Nat.le_of_ble_eq_true rfl) (Nat.le_of_ble_eq_true rfl) dX12_init_115 (fun H hW => ?_)
  refine p_X12_50 Cx hnm hW hL (k := 231) (by decide) rfl dX12_init_117 (fun H locs hW hL => ?_)
  refine lv_aload_n hx hb dX12_init_120 rfl (lv_at hl 0 rfl) ?_
  refine lv_sipush (v := iv 30004) hx hb dX12_init_121 (by decide) ?_
  refine sNewa (atype := .int) (ty := .int) Cx (N := 30004) rfl 0 rfl (fun U h => h) w_294 hW rfl (.inl rfl) (by decide) (by decide) (Nat.le_of_ble_eq_true rfl) (Nat.le_of_ble_eq_true rfl) (Nat.le_of_ble_eq_true rfl) dX12_init_124 (fun H hW => ?_)
  refine p_X12_53 Cx hnm hW hL (k := 231) (by decide) rfl dX12_init_126 (fun H locs hW hL => ?_)
  refine lv_aload_n hx hb dX12_init_129 rfl (lv_at hl 0 rfl) ?_
  refine lv_sipush (v := iv 30004) hx hb dX12_init_130 (by decide) ?_
  refine sNewa (atype := .int) (ty := .int) Cx (N := 30004) rfl 0 rfl (fun U h => h) w_294 hW rfl (.inl rfl) (by decide) (by decide) (Nat.le_of_ble_eq_true rfl) (Nat.le_of_ble_eq_true rfl) (Nat.le_of_ble_eq_true rfl) dX12_init_133 (fun H hW => ?_)
  refine p_X12_56 Cx hnm hW hL (k := 231) (by decide) rfl dX12_init_135 (fun H locs hW hL => ?_)
  refine lv_aload_n hx hb dX12_init_138 rfl (lv_at hl 0 rfl) ?_
  refine lv_sipush (v := iv 700) hx hb dX12_init_139 (by decide) ?_
  refine sNewa (atype := .int) (ty := .int) Cx (N := 700) rfl 0 rfl (fun U h => h) w_294 hW rfl (.inl rfl) (by decide) (by decide) (Nat.le_of_ble_eq_true rfl) (Nat.le_of_ble_eq_true rfl) (Nat.le_of_ble_eq_true rfl) dX12_init_142 (fun H hW => ?_)
  refine p_X12_59 Cx hnm hW hL (k := 231) (by decide) rfl dX12_init_144 (fun H locs hW hL => ?_)
  refine lv_aload_n hx hb dX12_init_147 rfl (lv_at hl 0 rfl) ?_
  refine lv_sipush (v := iv 700) hx hb dX12_init_148 (by decide) ?_
  refine sNewa (atype := .int) (ty := .int) Cx (N := 700) rfl 0 rfl (fun U h => h) w_294 hW rfl (.inl rfl) (by decide) (by decide) (Nat.le_of_ble_eq_true rfl) (Nat.le_of_ble_eq_true rfl) (Nat.le_of_ble_eq_true rfl) dX12_init_151 (fun H hW => ?_)
  refine p_X12_62 Cx hnm hW hL (k := 231) (by decide) rfl dX12_init_153 (fun H locs hW hL => ?_)
  refine lv_aload_n hx hb dX12_init_156 rfl (lv_at hl 0 rfl) ?_
  refine lv_sipush (v := iv 700) hx hb dX12_init_157 (by decide) ?_
  refine sNewa (atype := .int) (ty := .int) Cx (N := 700) rfl 0 rfl (fun U h => h) w_294 hW rfl (.inl rfl) (by decide) (by decide) (Nat.le_of_ble_eq_true rfl) (Nat.le_of_ble_eq_true rfl) (Nat.le_of_ble_eq_true rfl) dX12_init_160 (fun H hW => ?_)
  refine p_X12_65 Cx hnm hW hL (k := 231) (by decide) rfl dX12_init_162 (fun H locs hW hL => ?_)
  refine lv_aload_n hx hb dX12_init_165 rfl (lv_at hl 0 rfl) ?_
  refine lv_sipush (v := iv 700) hx hb dX12_init_166 (by decide) ?_
  refine sNewa (atype := .int) (ty := .int) Cx (N := 700) rfl 0 rfl (fun U h => h) w_294 hW rfl (.inl rfl) (by decide) (by decide) (Nat.le_of_ble_eq_true rfl) (Nat.le_of_ble_eq_true rfl) (Nat.le_of_ble_eq_true rfl) dX12_init_169 (fun H hW => ?_)
  refine p_X12_68 Cx hnm hW hL (k := 231) (by decide) rfl dX12_init_171 (fun H locs hW hL => ?_)
  refine lv_aload_n hx hb dX12_init_174 rfl (lv_at hl 0 rfl) ?_
  refine lv_sipush (v := iv 700) hx hb dX12_init_175 (by decide) ?_
  refine sNewa (atype := .int) (ty := .int) Cx (N := 700) rfl 0 rfl (fun U h => h) w_294 hW rfl (.inl rfl) (by decide) (by decide) (Nat.le_of_ble_eq_true rfl) (Nat.le_of_ble_eq_true rfl) (Nat.le_of_ble_eq_true rfl) dX12_init_178 (fun H hW => ?_)
  refine p_X12_71 Cx hnm hW hL (k := 231) (by decide) rfl dX12_init_180 (fun H locs hW hL => ?_)
  refine lv_aload_n hx hb dX12_init_183 rfl (lv_at hl 0 rfl) ?_
  refine lv_sipush (v := iv 2100) hx hb dX12_init_184 (by decide) ?_
  refine sNewa (atype := .int) (ty := .int) Cx (N := 2100) rfl 0 rfl (fun U h => h) w_294 hW rfl (.inl rfl) (by decide) (by decide) (Nat.le_of_ble_eq_true rfl) (Nat.le_of_ble_eq_true rfl) (Nat.le_of_ble_eq_true rfl) dX12_init_187 (fun H hW => ?_)
  refine p_X12_74 Cx hnm hW hL (k := 231) (by decide) rfl dX12_init_189 (fun H locs hW hL => ?_)
  refine lv_aload_n hx hb dX12_init_192 rfl (lv_at hl 0 rfl) ?_
  refine lv_bipush (v := iv 13) hx hb dX12_init_193 (by decide) ?_
  refine sNewa (atype := .boolean) (ty := .boolean) Cx (N := 13) rfl 3 rfl (fun U h => h) w_295 hW rfl (.inl rfl) (by decide) (by decide) (Nat.le_of_ble_eq_true rfl) (Nat.le_of_ble_eq_true rfl) (Nat.le_of_ble_eq_true rfl) dX12_init_195 (fun H hW => ?_)
  refine p_X12_77 Cx hnm hW hL (k := 231) (by decide) rfl dX12_init_197 (fun H locs hW hL => ?_)
  refine lv_aload_n hx hb dX12_init_200 rfl (lv_at hl 0 rfl) ?_
  refine lv_sipush (v := iv 247) hx hb dX12_init_201 (by decide) ?_
  refine sNewa (atype := .long) (ty := .long) Cx (N := 247) rfl 1 rfl (fun U h => h) w_324 hW rfl (.inr rfl) (by decide) (by decide) (Nat.le_of_ble_eq_true rfl) (Nat.le_of_ble_eq_true rfl) (Nat.le_of_ble_eq_true rfl) dX12_init_204 (fun H hW => ?_)
  refine p_X12_81 Cx hnm hW hL (k := 231) (by decide) rfl dX12_init_206 (fun H locs hW hL => ?_)
  refine lv_aload_n hx hb dX12_init_209 rfl (lv_at hl 0 rfl) ?_
  refine lv_bipush (v := iv 13) hx hb dX12_init_210 (by decide) ?_
  refine sNewa (atype := .long) (ty := .long) Cx (N := 13) rfl 1 rfl (fun U h => h) w_324 hW rfl (.inr rfl) (by decide) (by decide) (Nat.le_of_ble_eq_true rfl) (Nat.le_of_ble_eq_true rfl) (Nat.le_of_ble_eq_true rfl) dX12_init_212 (fun H hW => ?_)
  refine p_X12_85 Cx hnm hW hL (k := 231) (by decide) rfl dX12_init_214 (fun H locs hW hL => ?_)
  refine lv_aload_n hx hb dX12_init_217 rfl (lv_at hl 0 rfl) ?_
  refine lv_sipush (v := iv 1820) hx hb dX12_init_218 (by decide) ?_
  refine sNewa (atype := .long) (ty := .long) Cx (N := 1820) rfl 1 rfl (fun U h => h) w_324 hW rfl (.inr rfl) (by decide) (by decide) (Nat.le_of_ble_eq_true rfl) (Nat.le_of_ble_eq_true rfl) (Nat.le_of_ble_eq_true rfl) dX12_init_221 (fun H hW => ?_)
  refine p_X12_88 Cx hnm hW hL (k := 231) (by decide) rfl dX12_init_223 (fun H locs hW hL => ?_)
  refine lv_aload_n hx hb dX12_init_226 rfl (lv_at hl 0 rfl) ?_
  refine lv_iconst (v := iv 2) hx hb dX12_init_227 (by decide) ?_
  refine sNewa (atype := .int) (ty := .int) Cx (N := 2) rfl 0 rfl (fun U h => h) w_294 hW rfl (.inl rfl) (by decide) (by decide) (Nat.le_of_ble_eq_true rfl) (Nat.le_of_ble_eq_true rfl) (Nat.le_of_ble_eq_true rfl) dX12_init_228 (fun H hW => ?_)
  refine p_X12_91 Cx hnm hW hL (k := 231) (by decide) rfl dX12_init_230 (fun H locs hW hL => ?_)
  refine lv_aload_n hx hb dX12_init_233 rfl (lv_at hl 0 rfl) ?_
  refine lv_bipush (v := iv 13) hx hb dX12_init_234 (by decide) ?_
  refine sNewa (atype := .boolean) (ty := .boolean) Cx (N := 13) rfl 3 rfl (fun U h => h) w_295 hW rfl (.inl rfl) (by decide) (by decide) (Nat.le_of_ble_eq_true rfl) (Nat.le_of_ble_eq_true rfl) (Nat.le_of_ble_eq_true rfl) dX12_init_236 (fun H hW => ?_)
  refine p_X12_94 Cx hnm hW hL (k := 231) (by decide) rfl dX12_init_238 (fun H locs hW hL => ?_)
  refine lv_aload_n hx hb dX12_init_241 rfl (lv_at hl 0 rfl) ?_
  refine lv_bipush (v := iv 13) hx hb dX12_init_242 (by decide) ?_
  refine sNewa (atype := .long) (ty := .long) Cx (N := 13) rfl 1 rfl (fun U h => h) w_324 hW rfl (.inr rfl) (by decide) (by decide) (Nat.le_of_ble_eq_true rfl) (Nat.le_of_ble_eq_true rfl) (Nat.le_of_ble_eq_true rfl) dX12_init_244 (fun H hW => ?_)
  refine p_X12_97 Cx hnm hW hL (k := 231) (by decide) rfl dX12_init_246 (fun H locs hW hL => ?_)
  refine lv_aload_n hx hb dX12_init_249 rfl (lv_at hl 0 rfl) ?_
  refine lv_sipush (v := iv 4368) hx hb dX12_init_250 (by decide) ?_
  refine sNewa (atype := .int) (ty := .int) Cx (N := 4368) rfl 0 rfl (fun U h => h) w_294 hW rfl (.inl rfl) (by decide) (by decide) (Nat.le_of_ble_eq_true rfl) (Nat.le_of_ble_eq_true rfl) (Nat.le_of_ble_eq_true rfl) dX12_init_253 (fun H hW => ?_)
  refine p_X12_100 Cx hnm hW hL (k := 231) (by decide) rfl dX12_init_255 (fun H locs hW hL => ?_)
  refine lv_aload_n hx hb dX12_init_258 rfl (lv_at hl 0 rfl) ?_
  refine lv_sipush (v := iv 5280) hx hb dX12_init_259 (by decide) ?_
  refine sNewa (atype := .int) (ty := .int) Cx (N := 5280) rfl 0 rfl (fun U h => h) w_294 hW rfl (.inl rfl) (by decide) (by decide) (Nat.le_of_ble_eq_true rfl) (Nat.le_of_ble_eq_true rfl) (Nat.le_of_ble_eq_true rfl) dX12_init_262 (fun H hW => ?_)
  refine p_X12_103 Cx hnm hW hL (k := 231) (by decide) rfl dX12_init_264 (fun H locs hW hL => ?_)
  refine lv_aload_n hx hb dX12_init_267 rfl (lv_at hl 0 rfl) ?_
  refine lv_sipush (v := iv 5280) hx hb dX12_init_268 (by decide) ?_
  refine sNewa (atype := .int) (ty := .int) Cx (N := 5280) rfl 0 rfl (fun U h => h) w_294 hW rfl (.inl rfl) (by decide) (by decide) (Nat.le_of_ble_eq_true rfl) (Nat.le_of_ble_eq_true rfl) (Nat.le_of_ble_eq_true rfl) dX12_init_271 (fun H hW => ?_)
  refine p_X12_106 Cx hnm hW hL (k := 231) (by decide) rfl dX12_init_273 (fun H locs hW hL => ?_)
  refine lv_aload_n hx hb dX12_init_276 rfl (lv_at hl 0 rfl) ?_
  refine lv_bipush (v := iv 8) hx hb dX12_init_277 (by decide) ?_
  refine sNewa (atype := .int) (ty := .int) Cx (N := 8) rfl 0 rfl (fun U h => h) w_294 hW rfl (.inl rfl) (by decide) (by decide) (Nat.le_of_ble_eq_true rfl) (Nat.le_of_ble_eq_true rfl) (Nat.le_of_ble_eq_true rfl) dX12_init_279 (fun H hW => ?_)
  refine p_X12_109 Cx hnm hW hL (k := 231) (by decide) rfl dX12_init_281 (fun H locs hW hL => ?_)
  refine lv_aload_n hx hb dX12_init_284 rfl (lv_at hl 0 rfl) ?_
  refine lv_bipush (v := iv 44) hx hb dX12_init_285 (by decide) ?_
  refine sNewa (atype := .int) (ty := .int) Cx (N := 44) rfl 0 rfl (fun U h => h) w_294 hW rfl (.inl rfl) (by decide) (by decide) (Nat.le_of_ble_eq_true rfl) (Nat.le_of_ble_eq_true rfl) (Nat.le_of_ble_eq_true rfl) dX12_init_287 (fun H hW => ?_)
  refine p_X12_112 Cx hnm hW hL (k := 231) (by decide) rfl dX12_init_289 (fun H locs hW hL => ?_)
  refine lv_aload_n hx hb dX12_init_292 rfl (lv_at hl 0 rfl) ?_
  refine lv_bipush (v := iv 15) hx hb dX12_init_293 (by decide) ?_
  refine sNewa (atype := .int) (ty := .int) Cx (N := 15) rfl 0 rfl (fun U h => h) w_294 hW rfl (.inl rfl) (by decide) (by decide) (Nat.le_of_ble_eq_true rfl) (Nat.le_of_ble_eq_true rfl) (Nat.le_of_ble_eq_true rfl) dX12_init_295 (fun H hW => ?_)
  refine p_X12_115 Cx hnm hW hL (k := 231) (by decide) rfl dX12_init_297 (fun H locs hW hL => ?_)
  refine lv_aload_n hx hb dX12_init_300 rfl (lv_at hl 0 rfl) ?_
  refine lv_ldc hx hb hown (hts _ w_1958) dX12_init_301 ?_
  refine sNewa (atype := .int) (ty := .int) Cx (N := 216480) rfl 0 rfl (fun U h => h) w_294 hW rfl (.inl rfl) (by decide) (by decide) (Nat.le_of_ble_eq_true rfl) (Nat.le_of_ble_eq_true rfl) (Nat.le_of_ble_eq_true rfl) dX12_init_303 (fun H hW => ?_)
  refine p_X12_119 Cx hnm hW hL (k := 231) (by decide) rfl dX12_init_305 (fun H locs hW hL => ?_)
  refine lv_aload_n hx hb dX12_init_308 rfl (lv_at hl 0 rfl) ?_
  refine lv_sipush (v := iv 328) hx hb dX12_init_309 (by decide) ?_
  refine sNewa (atype := .int) (ty := .int) Cx (N := 328) rfl 0 rfl (fun U h => h) w_294 hW rfl (.inl rfl) (by decide) (by decide) (Nat.le_of_ble_eq_true rfl) (Nat.le_of_ble_eq_true rfl) (Nat.le_of_ble_eq_true rfl) dX12_init_312 (fun H hW => ?_)
  refine p_X12_122 Cx hnm hW hL (k := 231) (by decide) rfl dX12_init_314 (fun H locs hW hL => ?_)
  refine lv_aload_n hx hb dX12_init_317 rfl (lv_at hl 0 rfl) ?_
  refine lv_sipush (v := iv 1804) hx hb dX12_init_318 (by decide) ?_
  refine sNewa (atype := .int) (ty := .int) Cx (N := 1804) rfl 0 rfl (fun U h => h) w_294 hW rfl (.inl rfl) (by decide) (by decide) (Nat.le_of_ble_eq_true rfl) (Nat.le_of_ble_eq_true rfl) (Nat.le_of_ble_eq_true rfl) dX12_init_321 (fun H hW => ?_)
  refine p_X12_125 Cx hnm hW hL (k := 231) (by decide) rfl dX12_init_323 (fun H locs hW hL => ?_)
  refine lv_aload_n hx hb dX12_init_326 rfl (lv_at hl 0 rfl) ?_
  refine lv_sipush (v := iv 615) hx hb dX12_init_327 (by decide) ?_
  refine sNewa (atype := .int) (ty := .int) Cx (N := 615) rfl 0 rfl (fun U h => h) w_294 hW rfl (.inl rfl) (by decide) (by decide) (Nat.le_of_ble_eq_true rfl) (Nat.le_of_ble_eq_true rfl) (Nat.le_of_ble_eq_true rfl) dX12_init_330 (fun H hW => ?_)
  refine p_X12_128 Cx hnm hW hL (k := 231) (by decide) rfl dX12_init_332 (fun H locs hW hL => ?_)
  refine lv_aload_n hx hb dX12_init_335 rfl (lv_at hl 0 rfl) ?_
  refine lv_sipush (v := iv 205) hx hb dX12_init_336 (by decide) ?_
  refine sNewa (atype := .int) (ty := .int) Cx (N := 205) rfl 0 rfl (fun U h => h) w_294 hW rfl (.inl rfl) (by decide) (by decide) (Nat.le_of_ble_eq_true rfl) (Nat.le_of_ble_eq_true rfl) (Nat.le_of_ble_eq_true rfl) dX12_init_339 (fun H hW => ?_)
  refine p_X12_131 Cx hnm hW hL (k := 231) (by decide) rfl dX12_init_341 (fun H locs hW hL => ?_)
  refine lv_aload_n hx hb dX12_init_344 rfl (lv_at hl 0 rfl) ?_
  refine lv_bipush (v := iv 8) hx hb dX12_init_345 (by decide) ?_
  refine sNewa (atype := .int) (ty := .int) Cx (N := 8) rfl 0 rfl (fun U h => h) w_294 hW rfl (.inl rfl) (by decide) (by decide) (Nat.le_of_ble_eq_true rfl) (Nat.le_of_ble_eq_true rfl) (Nat.le_of_ble_eq_true rfl) dX12_init_347 (fun H hW => ?_)
  refine p_X12_134 Cx hnm hW hL (k := 231) (by decide) rfl dX12_init_349 (fun H locs hW hL => ?_)
  refine lv_aload_n hx hb dX12_init_352 rfl (lv_at hl 0 rfl) ?_
  refine lv_bipush (v := iv 8) hx hb dX12_init_353 (by decide) ?_
  refine sNewa (atype := .int) (ty := .int) Cx (N := 8) rfl 0 rfl (fun U h => h) w_294 hW rfl (.inl rfl) (by decide) (by decide) (Nat.le_of_ble_eq_true rfl) (Nat.le_of_ble_eq_true rfl) (Nat.le_of_ble_eq_true rfl) dX12_init_355 (fun H hW => ?_)
  refine p_X12_137 Cx hnm hW hL (k := 231) (by decide) rfl dX12_init_357 (fun H locs hW hL => ?_)
  refine lv_aload_n hx hb dX12_init_360 rfl (lv_at hl 0 rfl) ?_
  refine lv_bipush (v := iv 104) hx hb dX12_init_361 (by decide) ?_
  refine sNewa (atype := .int) (ty := .int) Cx (N := 104) rfl 0 rfl (fun U h => h) w_294 hW rfl (.inl rfl) (by decide) (by decide) (Nat.le_of_ble_eq_true rfl) (Nat.le_of_ble_eq_true rfl) (Nat.le_of_ble_eq_true rfl) dX12_init_363 (fun H hW => ?_)
  refine p_X12_140 Cx hnm hW hL (k := 231) (by decide) rfl dX12_init_365 (fun H locs hW hL => ?_)
  refine lv_aload_n hx hb dX12_init_368 rfl (lv_at hl 0 rfl) ?_
  refine lv_ldc hx hb hown (hts _ w_1959) dX12_init_369 ?_
  refine sNewa (atype := .byte) (ty := .byte) Cx (N := 34000) rfl 2 rfl (fun U h => h) w_254 hW rfl (.inl rfl) (by decide) (by decide) (Nat.le_of_ble_eq_true rfl) (Nat.le_of_ble_eq_true rfl) (Nat.le_of_ble_eq_true rfl) dX12_init_371 (fun H hW => ?_)
  refine p_X12_144 Cx hnm hW hL (k := 231) (by decide) rfl dX12_init_373 (fun H locs hW hL => ?_)
  refine lv_aload_n hx hb dX12_init_376 rfl (lv_at hl 0 rfl) ?_
  refine lv_ldc hx hb hown (hts _ w_1960) dX12_init_377 ?_
  refine sNewa (atype := .byte) (ty := .byte) Cx (N := 36000) rfl 2 rfl (fun U h => h) w_254 hW rfl (.inl rfl) (by decide) (by decide) (Nat.le_of_ble_eq_true rfl) (Nat.le_of_ble_eq_true rfl) (Nat.le_of_ble_eq_true rfl) dX12_init_379 (fun H hW => ?_)
  refine p_X12_148 Cx hnm hW hL (k := 231) (by decide) rfl dX12_init_381 (fun H locs hW hL => ?_)
  refine lv_aload_n hx hb dX12_init_384 rfl (lv_at hl 0 rfl) ?_
  refine lv_iconst (v := iv 4) hx hb dX12_init_385 (by decide) ?_
  refine sNewa (atype := .int) (ty := .int) Cx (N := 4) rfl 0 rfl (fun U h => h) w_294 hW rfl (.inl rfl) (by decide) (by decide) (Nat.le_of_ble_eq_true rfl) (Nat.le_of_ble_eq_true rfl) (Nat.le_of_ble_eq_true rfl) dX12_init_386 (fun H hW => ?_)
  refine p_X12_151 Cx hnm hW hL (k := 231) (by decide) rfl dX12_init_388 (fun H locs hW hL => ?_)
  refine lv_aload_n hx hb dX12_init_391 rfl (lv_at hl 0 rfl) ?_
  refine lv_sipush (v := iv 336) hx hb dX12_init_392 (by decide) ?_
  refine sNewa (atype := .int) (ty := .int) Cx (N := 336) rfl 0 rfl (fun U h => h) w_294 hW rfl (.inl rfl) (by decide) (by decide) (Nat.le_of_ble_eq_true rfl) (Nat.le_of_ble_eq_true rfl) (Nat.le_of_ble_eq_true rfl) dX12_init_395 (fun H hW => ?_)
  refine p_X12_154 Cx hnm hW hL (k := 231) (by decide) rfl dX12_init_397 (fun H locs hW hL => ?_)
  refine lv_aload_n hx hb dX12_init_400 rfl (lv_at hl 0 rfl) ?_
  refine lv_bipush (v := iv 68) hx hb dX12_init_401 (by decide) ?_
  refine sNewa (atype := .int) (ty := .int) Cx (N := 68) rfl 0 rfl (fun U h => h) w_294 hW rfl (.inl rfl) (by decide) (by decide) (Nat.le_of_ble_eq_true rfl) (Nat.le_of_ble_eq_true rfl) (Nat.le_of_ble_eq_true rfl) dX12_init_403 (fun H hW => ?_)
  refine p_X12_157 Cx hnm hW hL (k := 231) (by decide) rfl dX12_init_405 (fun H locs hW hL => ?_)
  refine lv_aload_n hx hb dX12_init_408 rfl (lv_at hl 0 rfl) ?_
  refine lv_bipush (v := iv 68) hx hb dX12_init_409 (by decide) ?_
  refine sNewa (atype := .int) (ty := .int) Cx (N := 68) rfl 0 rfl (fun U h => h) w_294 hW rfl (.inl rfl) (by decide) (by decide) (Nat.le_of_ble_eq_true rfl) (Nat.le_of_ble_eq_true rfl) (Nat.le_of_ble_eq_true rfl) dX12_init_411 (fun H hW => ?_)
  refine p_X12_160 Cx hnm hW hL (k := 231) (by decide) rfl dX12_init_413 (fun H locs hW hL => ?_)
  refine lv_aload_n hx hb dX12_init_416 rfl (lv_at hl 0 rfl) ?_
  refine lv_bipush (v := iv 104) hx hb dX12_init_417 (by decide) ?_
  refine sNewa (atype := .int) (ty := .int) Cx (N := 104) rfl 0 rfl (fun U h => h) w_294 hW rfl (.inl rfl) (by decide) (by decide) (Nat.le_of_ble_eq_true rfl) (Nat.le_of_ble_eq_true rfl) (Nat.le_of_ble_eq_true rfl) dX12_init_419 (fun H hW => ?_)
  refine p_X12_163 Cx hnm hW hL (k := 231) (by decide) rfl dX12_init_421 (fun H locs hW hL => ?_)
  refine lv_aload_n hx hb dX12_init_424 rfl (lv_at hl 0 rfl) ?_
  refine lv_iconst (v := iv 4) hx hb dX12_init_425 (by decide) ?_
  refine sNewa (atype := .int) (ty := .int) Cx (N := 4) rfl 0 rfl (fun U h => h) w_294 hW rfl (.inl rfl) (by decide) (by decide) (Nat.le_of_ble_eq_true rfl) (Nat.le_of_ble_eq_true rfl) (Nat.le_of_ble_eq_true rfl) dX12_init_426 (fun H hW => ?_)
  refine p_X12_166 Cx hnm hW hL (k := 231) (by decide) rfl dX12_init_428 (fun H locs hW hL => ?_)
  refine lv_aload_n hx hb dX12_init_431 rfl (lv_at hl 0 rfl) ?_
  refine lv_sipush (v := iv 5460) hx hb dX12_init_432 (by decide) ?_
  refine sNewa (atype := .int) (ty := .int) Cx (N := 5460) rfl 0 rfl (fun U h => h) w_294 hW rfl (.inl rfl) (by decide) (by decide) (Nat.le_of_ble_eq_true rfl) (Nat.le_of_ble_eq_true rfl) (Nat.le_of_ble_eq_true rfl) dX12_init_435 (fun H hW => ?_)
  refine p_X12_169 Cx hnm hW hL (k := 231) (by decide) rfl dX12_init_437 (fun H locs hW hL => ?_)
  refine lv_aload_n hx hb dX12_init_440 rfl (lv_at hl 0 rfl) ?_
  refine lv_sipush (v := iv 520) hx hb dX12_init_441 (by decide) ?_
  refine sNewa (atype := .int) (ty := .int) Cx (N := 520) rfl 0 rfl (fun U h => h) w_294 hW rfl (.inl rfl) (by decide) (by decide) (Nat.le_of_ble_eq_true rfl) (Nat.le_of_ble_eq_true rfl) (Nat.le_of_ble_eq_true rfl) dX12_init_444 (fun H hW => ?_)
  refine p_X12_172 Cx hnm hW hL (k := 231) (by decide) rfl dX12_init_446 (fun H locs hW hL => ?_)
  refine lv_aload_n hx hb dX12_init_449 rfl (lv_at hl 0 rfl) ?_
  refine lv_sipush (v := iv 140) hx hb dX12_init_450 (by decide) ?_
  refine sNewa (atype := .int) (ty := .int) Cx (N := 140) rfl 0 rfl (fun U h => h) w_294 hW rfl (.inl rfl) (by decide) (by decide) (Nat.le_of_ble_eq_true rfl) (Nat.le_of_ble_eq_true rfl) (Nat.le_of_ble_eq_true rfl) dX12_init_453 (fun H hW => ?_)
  refine p_X12_175 Cx hnm hW hL (k := 231) (by decide) rfl dX12_init_455 (fun H locs hW hL => ?_)
  refine lv_aload_n hx hb dX12_init_458 rfl (lv_at hl 0 rfl) ?_
  refine lv_bipush (v := iv 10) hx hb dX12_init_459 (by decide) ?_
  refine sNewa (atype := .int) (ty := .int) Cx (N := 10) rfl 0 rfl (fun U h => h) w_294 hW rfl (.inl rfl) (by decide) (by decide) (Nat.le_of_ble_eq_true rfl) (Nat.le_of_ble_eq_true rfl) (Nat.le_of_ble_eq_true rfl) dX12_init_461 (fun H hW => ?_)
  refine p_X12_178 Cx hnm hW hL (k := 231) (by decide) rfl dX12_init_463 (fun H locs hW hL => ?_)
  refine lv_aload_n hx hb dX12_init_466 rfl (lv_at hl 0 rfl) ?_
  refine lv_bipush (v := iv 10) hx hb dX12_init_467 (by decide) ?_
  refine sNewa (atype := .int) (ty := .int) Cx (N := 10) rfl 0 rfl (fun U h => h) w_294 hW rfl (.inl rfl) (by decide) (by decide) (Nat.le_of_ble_eq_true rfl) (Nat.le_of_ble_eq_true rfl) (Nat.le_of_ble_eq_true rfl) dX12_init_469 (fun H hW => ?_)
  refine p_X12_181 Cx hnm hW hL (k := 231) (by decide) rfl dX12_init_471 (fun H locs hW hL => ?_)
  refine lv_aload_n hx hb dX12_init_474 rfl (lv_at hl 0 rfl) ?_
  refine lv_bipush (v := iv 10) hx hb dX12_init_475 (by decide) ?_
  refine sNewa (atype := .int) (ty := .int) Cx (N := 10) rfl 0 rfl (fun U h => h) w_294 hW rfl (.inl rfl) (by decide) (by decide) (Nat.le_of_ble_eq_true rfl) (Nat.le_of_ble_eq_true rfl) (Nat.le_of_ble_eq_true rfl) dX12_init_477 (fun H hW => ?_)
  refine p_X12_184 Cx hnm hW hL (k := 231) (by decide) rfl dX12_init_479 (fun H locs hW hL => ?_)
  refine lv_aload_n hx hb dX12_init_482 rfl (lv_at hl 0 rfl) ?_
  refine lv_bipush (v := iv 10) hx hb dX12_init_483 (by decide) ?_
  refine sNewa (atype := .int) (ty := .int) Cx (N := 10) rfl 0 rfl (fun U h => h) w_294 hW rfl (.inl rfl) (by decide) (by decide) (Nat.le_of_ble_eq_true rfl) (Nat.le_of_ble_eq_true rfl) (Nat.le_of_ble_eq_true rfl) dX12_init_485 (fun H hW => ?_)
  refine p_X12_187 Cx hnm hW hL (k := 231) (by decide) rfl dX12_init_487 (fun H locs hW hL => ?_)
  refine lv_aload_n hx hb dX12_init_490 rfl (lv_at hl 0 rfl) ?_
  refine lv_sipush (v := iv 247) hx hb dX12_init_491 (by decide) ?_
  refine sNewa (atype := .long) (ty := .long) Cx (N := 247) rfl 1 rfl (fun U h => h) w_324 hW rfl (.inr rfl) (by decide) (by decide) (Nat.le_of_ble_eq_true rfl) (Nat.le_of_ble_eq_true rfl) (Nat.le_of_ble_eq_true rfl) dX12_init_494 (fun H hW => ?_)
  refine p_X12_190 Cx hnm hW hL (k := 231) (by decide) rfl dX12_init_496 (fun H locs hW hL => ?_)
  refine lv_aload_n hx hb dX12_init_499 rfl (lv_at hl 0 rfl) ?_
  refine lv_sipush (v := iv 3002) hx hb dX12_init_500 (by decide) ?_
  refine sNewa (atype := .int) (ty := .int) Cx (N := 3002) rfl 0 rfl (fun U h => h) w_294 hW rfl (.inl rfl) (by decide) (by decide) (Nat.le_of_ble_eq_true rfl) (Nat.le_of_ble_eq_true rfl) (Nat.le_of_ble_eq_true rfl) dX12_init_503 (fun H hW => ?_)
  refine p_X12_193 Cx hnm hW hL (k := 231) (by decide) rfl dX12_init_505 (fun H locs hW hL => ?_)
  refine lv_aload_n hx hb dX12_init_508 rfl (lv_at hl 0 rfl) ?_
  refine lv_sipush (v := iv 3002) hx hb dX12_init_509 (by decide) ?_
  refine sNewa (atype := .int) (ty := .int) Cx (N := 3002) rfl 0 rfl (fun U h => h) w_294 hW rfl (.inl rfl) (by decide) (by decide) (Nat.le_of_ble_eq_true rfl) (Nat.le_of_ble_eq_true rfl) (Nat.le_of_ble_eq_true rfl) dX12_init_512 (fun H hW => ?_)
  refine p_X12_196 Cx hnm hW hL (k := 231) (by decide) rfl dX12_init_514 (fun H locs hW hL => ?_)
  refine lv_aload_n hx hb dX12_init_517 rfl (lv_at hl 0 rfl) ?_
  refine lv_sipush (v := iv 3002) hx hb dX12_init_518 (by decide) ?_
  refine sNewa (atype := .int) (ty := .int) Cx (N := 3002) rfl 0 rfl (fun U h => h) w_294 hW rfl (.inl rfl) (by decide) (by decide) (Nat.le_of_ble_eq_true rfl) (Nat.le_of_ble_eq_true rfl) (Nat.le_of_ble_eq_true rfl) dX12_init_521 (fun H hW => ?_)
  refine p_X12_199 Cx hnm hW hL (k := 231) (by decide) rfl dX12_init_523 (fun H locs hW hL => ?_)
  exact sVret Cx hr hlk hW hL rfl dX12_init_526
