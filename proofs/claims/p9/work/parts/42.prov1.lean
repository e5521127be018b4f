def pP (k : Nat) : Bool := rgB 169 176 k
theorem pP_N : ∀ k, pP k = true → pN k = true := fun k h => by
  have := rgB_t h
  simp only [pN, rgB_i (a := 158) (b := 184) (k := k) ⟨by omega, by omega⟩, Bool.or_true, Bool.true_or]
set_option maxRecDepth 100000 in
set_option maxHeartbeats 4000000 in
theorem s_X5_isMade (l : Launch) (G : sG) (S : sS)  (hI : cX G S 0 0 0) : Met l yX5_isMade (.code yX5_isMade cX5_isMade 1 (some .boolean) :: tb) (rmk 2 0 0) (sPc G 294 S [.ref (G.2.2.1 + 157)]) (sQi G 294 (fun r u => u = S ∧ (0 ≤ r ∧ r ≤ 1))) 0 0 (sF G) := by
  refine sEnter (by decide) (Nat.le_of_ble_eq_true rfl) ?_
  intro p e s m args below meth c Cx hr hlk hnm hW ls hl
  have Cx : sC G p m c cX5_isMade 1 s args RX5 := Cx
  obtain ⟨hx, hb, hml, hown, hts⟩ := id Cx.1
  have hL : sL G [] := sL_nil
  have hl : lv_has ls 1 [(0, .ref (G.2.2.1 + 157))] := hl
  have hW0 := hW
  refine lv_aload_n hx hb dX5_isMade_0 rfl (lv_at hl 0 rfl) ?_
  refine g_X5_16 Cx hW (k := 157) (by decide) rfl (v := .ref (G.2.2.1 + 158)) (rf_157_0 hI) dX5_isMade_1 ?_
  have q_1 : 0 ≤ S.1 158 1 ∧ S.1 158 1 ≤ 1500 := hI.fi 158 1 10 (by decide) rfl
  refine sBi (sV (As := []) (rest := []) (k := 158) Cx (s_X10_length l G S (o := 158) (N := 1500) hI ⟨by decide, rfl, rfl, rfl, rfl, by decide⟩) (c_X5_59 Cx rfl rfl (rmk_ok (by omega) (by decide))) hW (by decide) rfl rfl rfl hl.1 rfl (Nat.le_of_ble_eq_true rfl) dX5_isMade_4 ⟨Nat.le_of_ble_eq_true rfl, Nat.le_of_ble_eq_true rfl⟩) hL (fun r_4 u_2 H locs k_3 hW hL => ?_)
  obtain ⟨eu_2, xu_2⟩ := k_3
  rw [eu_2] at hW
  refine r_if_le (tgt := 14) hx hb ⟨(by omega), (by omega)⟩ dX5_isMade_7 (by decide) (fun c_5 => ?_) (fun c_5 => ?_)
  · refine lv_iconst (v := iv 0) hx hb dX5_isMade_14 (by decide) ?_
    exact sZret Cx hr hlk hW hL (by omega) ⟨rfl, (by omega)⟩ dX5_isMade_15
  · refine lv_iconst (v := iv 1) hx hb dX5_isMade_10 (by decide) ?_
    refine lv_goto (tgt := 15) hx hb dX5_isMade_11 (by decide) ?_
    exact sZret Cx hr hlk hW hL (by omega) ⟨rfl, (by omega)⟩ dX5_isMade_15

set_option maxRecDepth 100000 in
set_option maxHeartbeats 4000000 in
theorem s_X5_proofLength (l : Launch) (G : sG) (S : sS)  (hI : cX G S 0 0 0) : Met l yX5_proofLength (.code yX5_proofLength cX5_proofLength 1 (some .int) :: tb) (rmk 2 0 0) (sPc G 294 S [.ref (G.2.2.1 + 157)]) (sQi G 294 (fun r u => u = S ∧ (0 ≤ r ∧ r ≤ 31501))) 0 0 (sF G) := by
  refine sEnter (by decide) (Nat.le_of_ble_eq_true rfl) ?_
  intro p e s m args below meth c Cx hr hlk hnm hW ls hl
  have Cx : sC G p m c cX5_proofLength 1 s args RX5 := Cx
  obtain ⟨hx, hb, hml, hown, hts⟩ := id Cx.1
  have hL : sL G [] := sL_nil
  have hl : lv_has ls 1 [(0, .ref (G.2.2.1 + 157))] := hl
  have hW0 := hW
  refine lv_aload_n hx hb dX5_proofLength_0 rfl (lv_at hl 0 rfl) ?_
  refine g_X5_16 Cx hW (k := 157) (by decide) rfl (v := .ref (G.2.2.1 + 158)) (rf_157_0 hI) dX5_proofLength_1 ?_
  have q_1 : 0 ≤ S.1 158 1 ∧ S.1 158 1 ≤ 1500 := hI.fi 158 1 10 (by decide) rfl
  refine sBi (sV (As := []) (rest := []) (k := 158) Cx (s_X10_length l G S (o := 158) (N := 1500) hI ⟨by decide, rfl, rfl, rfl, rfl, by decide⟩) (c_X5_59 Cx rfl rfl (rmk_ok (by omega) (by decide))) hW (by decide) rfl rfl rfl hl.1 rfl (Nat.le_of_ble_eq_true rfl) dX5_proofLength_4 ⟨Nat.le_of_ble_eq_true rfl, Nat.le_of_ble_eq_true rfl⟩) hL (fun r_4 u_2 H locs k_3 hW hL => ?_)
  obtain ⟨eu_2, xu_2⟩ := k_3
  rw [eu_2] at hW
  refine lv_aload_n hx hb dX5_proofLength_7 rfl (lv_at hl 0 rfl) ?_
  refine g_X5_20 Cx hW (k := 157) (by decide) rfl (v := .ref (G.2.2.1 + 160)) (rf_157_1 hI) dX5_proofLength_8 ?_
  have q_5 : 0 ≤ S.1 160 1 ∧ S.1 160 1 ≤ 30000 := hI.fi 160 1 10 (by decide) rfl
  refine sBi (sV (As := []) (rest := [.int (iv r_4)]) (k := 160) Cx (s_X10_length l G S (o := 160) (N := 30000) hI ⟨by decide, rfl, rfl, rfl, rfl, by decide⟩) (c_X5_59 Cx rfl rfl (rmk_ok (by omega) (by decide))) hW (by decide) rfl rfl rfl hl.1 rfl (Nat.le_of_ble_eq_true rfl) dX5_proofLength_11 ⟨Nat.le_of_ble_eq_true rfl, Nat.le_of_ble_eq_true rfl⟩) hL (fun r_8 u_6 H locs k_7 hW hL => ?_)
  obtain ⟨eu_6, xu_6⟩ := k_7
  rw [eu_6] at hW
  refine r_if_le (tgt := 29) hx hb ⟨(by omega), (by omega)⟩ dX5_proofLength_14 (by decide) (fun c_9 => ?_) (fun c_9 => ?_)
  · refine lv_iconst (v := iv 0) hx hb dX5_proofLength_29 (by decide) ?_
    refine r_iadd hx hb dX5_proofLength_30 ?_
    exact sIret Cx hr hlk hW hL ⟨rfl, (by omega)⟩ dX5_proofLength_31
  · refine lv_iconst (v := iv 1) hx hb dX5_proofLength_17 (by decide) ?_
    refine lv_aload_n hx hb dX5_proofLength_18 rfl (lv_at hl 0 rfl) ?_
    refine g_X5_20 Cx hW (k := 157) (by decide) rfl (v := .ref (G.2.2.1 + 160)) (rf_157_1 hI) dX5_proofLength_19 ?_
    refine sBi (sV (As := []) (rest := [.int (iv 1), .int (iv r_4)]) (k := 160) Cx (s_X10_length l G S (o := 160) (N := 30000) hI ⟨by decide, rfl, rfl, rfl, rfl, by decide⟩) (c_X5_59 Cx rfl rfl (rmk_ok (by omega) (by decide))) hW (by decide) rfl rfl rfl hl.1 rfl (Nat.le_of_ble_eq_true rfl) dX5_proofLength_22 ⟨Nat.le_of_ble_eq_true rfl, Nat.le_of_ble_eq_true rfl⟩) hL (fun r_12 u_10 H locs k_11 hW hL => ?_)
    obtain ⟨eu_10, xu_10⟩ := k_11
    rw [eu_10] at hW
    refine r_iadd hx hb dX5_proofLength_25 ?_
    refine lv_goto (tgt := 30) hx hb dX5_proofLength_26 (by decide) ?_
    refine r_iadd hx hb dX5_proofLength_30 ?_
    exact sIret Cx hr hlk hW hL ⟨rfl, (by omega)⟩ dX5_proofLength_31

set_option maxRecDepth 100000 in
set_option maxHeartbeats 4000000 in
theorem s_X5_isOver (l : Launch) (G : sG) (S : sS)  (hI : cX G S 0 0 0) : Met l yX5_isOver (.code yX5_isOver cX5_isOver 1 (some .boolean) :: tb) (rmk 3 0 0) (sPc G 294 S [.ref (G.2.2.1 + 157)]) (sQi G 294 (fun r u => u = S ∧ (0 ≤ r ∧ r ≤ 1))) 0 0 (sF G) := by
  refine sEnter (by decide) (Nat.le_of_ble_eq_true rfl) ?_
  intro p e s m args below meth c Cx hr hlk hnm hW ls hl
  have Cx : sC G p m c cX5_isOver 1 s args RX5 := Cx
  obtain ⟨hx, hb, hml, hown, hts⟩ := id Cx.1
  have hL : sL G [] := sL_nil
  have hl : lv_has ls 1 [(0, .ref (G.2.2.1 + 157))] := hl
  have hW0 := hW
  refine lv_aload_n hx hb dX5_isOver_0 rfl (lv_at hl 0 rfl) ?_
  refine g_X5_16 Cx hW (k := 157) (by decide) rfl (v := .ref (G.2.2.1 + 158)) (rf_157_0 hI) dX5_isOver_1 ?_
  have q_1 : 0 ≤ S.1 158 2 ∧ S.1 158 2 ≤ 1 := hI.fi 158 2 10 (by decide) rfl
  refine sBi (sV (As := []) (rest := []) (k := 158) Cx (s_X10_isOver l G S (o := 158) (N := 1500) hI ⟨by decide, rfl, rfl, rfl, rfl, by decide⟩) (c_X5_55 Cx rfl rfl (rmk_ok (by omega) (by decide))) hW (by decide) rfl rfl rfl hl.1 rfl (Nat.le_of_ble_eq_true rfl) dX5_isOver_4 ⟨Nat.le_of_ble_eq_true rfl, Nat.le_of_ble_eq_true rfl⟩) hL (fun r_4 u_2 H locs k_3 hW hL => ?_)
  obtain ⟨eu_2, xu_2⟩ := k_3
  rw [eu_2] at hW
  refine r_if_ne (tgt := 20) hx hb ⟨(by omega), (by omega)⟩ dX5_isOver_7 (by decide) (fun c_5 => ?_) (fun c_5 => ?_)
  · refine lv_iconst (v := iv 1) hx hb dX5_isOver_20 (by decide) ?_
    refine lv_goto (tgt := 25) hx hb dX5_isOver_21 (by decide) ?_
    exact sZret Cx hr hlk hW hL (by omega) ⟨rfl, (by omega)⟩ dX5_isOver_25
  · refine lv_aload_n hx hb dX5_isOver_10 rfl (lv_at hl 0 rfl) ?_
    refine sBi (sV (As := []) (rest := []) (k := 157) Cx (s_X5_proofLength l G S  hI) (c_X5_63 Cx rfl rfl (rmk_ok (by omega) (by decide))) hW (by decide) rfl rfl rfl hl.1 rfl (Nat.le_of_ble_eq_true rfl) dX5_isOver_11 ⟨Nat.le_of_ble_eq_true rfl, Nat.le_of_ble_eq_true rfl⟩) hL (fun r_8 u_6 H locs k_7 hW hL => ?_)
    obtain ⟨eu_6, xu_6⟩ := k_7
    rw [eu_6] at hW
    refine lv_sipush (v := iv 30000) hx hb dX5_isOver_14 (by decide) ?_
    refine r_icmp_le (tgt := 24) hx hb ⟨(by omega), (by omega)⟩ ⟨(by omega), (by omega)⟩ dX5_isOver_17 (by decide) (fun c_9 => ?_) (fun c_9 => ?_)
    · refine lv_iconst (v := iv 0) hx hb dX5_isOver_24 (by decide) ?_
      exact sZret Cx hr hlk hW hL (by omega) ⟨rfl, (by omega)⟩ dX5_isOver_25
    · refine lv_iconst (v := iv 1) hx hb dX5_isOver_20 (by decide) ?_
      refine lv_goto (tgt := 25) hx hb dX5_isOver_21 (by decide) ?_
      exact sZret Cx hr hlk hW hL (by omega) ⟨rfl, (by omega)⟩ dX5_isOver_25

set_option maxRecDepth 100000 in
set_option maxHeartbeats 4000000 in
theorem s_X5_proofByte (l : Launch) (G : sG) (S : sS) {k : Int} (hI : cX G S 0 0 0) (hk : -2147483648 ≤ k ∧ k ≤ 2147483647) : Met l yX5_proofByte (.code yX5_proofByte cX5_proofByte 3 (some .int) :: tb) (rmk 2 0 0) (sPc G 294 S [.ref (G.2.2.1 + 157), .int (iv k)]) (sQi G 294 (fun r u => u = S ∧ (-1 ≤ r ∧ r ≤ 255))) 0 0 (sF G) := by
  refine sEnter (by decide) (Nat.le_of_ble_eq_true rfl) ?_
  intro p e s m args below meth c Cx hr hlk hnm hW ls hl
  have Cx : sC G p m c cX5_proofByte 3 s args RX5 := Cx
  obtain ⟨hx, hb, hml, hown, hts⟩ := id Cx.1
  have hL : sL G [] := sL_nil
  have hl : lv_has ls 3 [(0, .ref (G.2.2.1 + 157)), (1, .int (iv k))] := hl
  have hW0 := hW
  refine lv_iload_n hx hb dX5_proofByte_0 rfl (lv_at hl 1 rfl) ?_
  refine lv_aload_n hx hb dX5_proofByte_1 rfl (lv_at hl 0 rfl) ?_
  refine g_X5_16 Cx hW (k := 157) (by decide) rfl (v := .ref (G.2.2.1 + 158)) (rf_157_0 hI) dX5_proofByte_2 ?_
  have q_1 : 0 ≤ S.1 158 1 ∧ S.1 158 1 ≤ 1500 := hI.fi 158 1 10 (by decide) rfl
  refine sBi (sV (As := []) (rest := [.int (iv k)]) (k := 158) Cx (s_X10_length l G S (o := 158) (N := 1500) hI ⟨by decide, rfl, rfl, rfl, rfl, by decide⟩) (c_X5_59 Cx rfl rfl (rmk_ok (by omega) (by decide))) hW (by decide) rfl rfl rfl hl.1 rfl (Nat.le_of_ble_eq_true rfl) dX5_proofByte_5 ⟨Nat.le_of_ble_eq_true rfl, Nat.le_of_ble_eq_true rfl⟩) hL (fun r_4 u_2 H locs k_3 hW hL => ?_)
  obtain ⟨eu_2, xu_2⟩ := k_3
  rw [eu_2] at hW
  refine r_icmp_ge (tgt := 20) hx hb ⟨(by omega), (by omega)⟩ ⟨(by omega), (by omega)⟩ dX5_proofByte_8 (by decide) (fun c_5 => ?_) (fun c_5 => ?_)
  · refine lv_iload_n hx hb dX5_proofByte_20 rfl (lv_at hl 1 rfl) ?_
    refine lv_aload_n hx hb dX5_proofByte_21 rfl (lv_at hl 0 rfl) ?_
    refine g_X5_16 Cx hW (k := 157) (by decide) rfl (v := .ref (G.2.2.1 + 158)) (rf_157_0 hI) dX5_proofByte_22 ?_
    refine sBi (sV (As := []) (rest := [.int (iv k)]) (k := 158) Cx (s_X10_length l G S (o := 158) (N := 1500) hI ⟨by decide, rfl, rfl, rfl, rfl, by decide⟩) (c_X5_59 Cx rfl rfl (rmk_ok (by omega) (by decide))) hW (by decide) rfl rfl rfl hl.1 rfl (Nat.le_of_ble_eq_true rfl) dX5_proofByte_25 ⟨Nat.le_of_ble_eq_true rfl, Nat.le_of_ble_eq_true rfl⟩) hL (fun r_8 u_6 H locs k_7 hW hL => ?_)
    obtain ⟨eu_6, xu_6⟩ := k_7
    rw [eu_6] at hW
    refine r_isub hx hb dX5_proofByte_28 ?_
    refine lv_iconst (v := iv 1) hx hb dX5_proofByte_29 (by decide) ?_
    refine r_isub hx hb dX5_proofByte_30 ?_
    refine lv_istore_n (lv' := [(2, .int (iv ((k - r_8) - 1))), (0, .ref (G.2.2.1 + 157)), (1, .int (iv k))]) hx hb dX5_proofByte_31 rfl hl (by decide) rfl (fun ls hl => ?_)
    refine lv_iload_n hx hb dX5_proofByte_32 rfl (lv_at hl 0 rfl) ?_
    refine r_if_ge (tgt := 51) hx hb ⟨(by omega), (by omega)⟩ dX5_proofByte_33 (by decide) (fun c_9 => ?_) (fun c_9 => ?_)
    · refine lv_aload_n hx hb dX5_proofByte_51 rfl (lv_at hl 1 rfl) ?_
      refine g_X5_20 Cx hW (k := 157) (by decide) rfl (v := .ref (G.2.2.1 + 160)) (rf_157_1 hI) dX5_proofByte_52 ?_
      refine lv_iload_n hx hb dX5_proofByte_55 rfl (lv_at hl 0 rfl) ?_
      have q_10 : 0 ≤ S.1 160 1 ∧ S.1 160 1 ≤ 30000 := hI.fi 160 1 10 (by decide) rfl
      refine sBi (sV (As := [.int (iv ((k - r_8) - 1))]) (rest := []) (k := 160) Cx (s_X10_byteAt l G S (o := 160) (k := (k - r_8) - 1) (N := 30000) hI ⟨by decide, rfl, rfl, rfl, rfl, by decide⟩ (by omega)) (c_X5_66 Cx rfl rfl (rmk_ok (by omega) (by decide))) hW (by decide) rfl rfl rfl hl.1 rfl (Nat.le_of_ble_eq_true rfl) dX5_proofByte_56 ⟨Nat.le_of_ble_eq_true rfl, Nat.le_of_ble_eq_true rfl⟩) hL (fun r_13 u_11 H locs k_12 hW hL => ?_)
      obtain ⟨eu_11, xu_11⟩ := k_12
      rw [eu_11] at hW
      exact sIret Cx hr hlk hW hL ⟨rfl, (by omega)⟩ dX5_proofByte_59
    · refine lv_aload_n hx hb dX5_proofByte_36 rfl (lv_at hl 1 rfl) ?_
      refine g_X5_20 Cx hW (k := 157) (by decide) rfl (v := .ref (G.2.2.1 + 160)) (rf_157_1 hI) dX5_proofByte_37 ?_
      have q_14 : 0 ≤ S.1 160 1 ∧ S.1 160 1 ≤ 30000 := hI.fi 160 1 10 (by decide) rfl
      refine sBi (sV (As := []) (rest := []) (k := 160) Cx (s_X10_length l G S (o := 160) (N := 30000) hI ⟨by decide, rfl, rfl, rfl, rfl, by decide⟩) (c_X5_59 Cx rfl rfl (rmk_ok (by omega) (by decide))) hW (by decide) rfl rfl rfl hl.1 rfl (Nat.le_of_ble_eq_true rfl) dX5_proofByte_40 ⟨Nat.le_of_ble_eq_true rfl, Nat.le_of_ble_eq_true rfl⟩) hL (fun r_17 u_15 H locs k_16 hW hL => ?_)
      obtain ⟨eu_15, xu_15⟩ := k_16
      rw [eu_15] at hW
      refine r_if_le (tgt := 51) hx hb ⟨(by omega), (by omega)⟩ dX5_proofByte_43 (by decide) (fun c_18 => ?_) (fun c_18 => ?_)
      · refine lv_aload_n hx hb dX5_proofByte_51 rfl (lv_at hl 1 rfl) ?_
        refine g_X5_20 Cx hW (k := 157) (by decide) rfl (v := .ref (G.2.2.1 + 160)) (rf_157_1 hI) dX5_proofByte_52 ?_
        refine lv_iload_n hx hb dX5_proofByte_55 rfl (lv_at hl 0 rfl) ?_
        refine sBi (sV (As := [.int (iv ((k - r_8) - 1))]) (rest := []) (k := 160) Cx (s_X10_byteAt l G S (o := 160) (k := (k - r_8) - 1) (N := 30000) hI ⟨by decide, rfl, rfl, rfl, rfl, by decide⟩ (by omega)) (c_X5_66 Cx rfl rfl (rmk_ok (by omega) (by decide))) hW (by decide) rfl rfl rfl hl.1 rfl (Nat.le_of_ble_eq_true rfl) dX5_proofByte_56 ⟨Nat.le_of_ble_eq_true rfl, Nat.le_of_ble_eq_true rfl⟩) hL (fun r_21 u_19 H locs k_20 hW hL => ?_)
        obtain ⟨eu_19, xu_19⟩ := k_20
        rw [eu_19] at hW
        exact sIret Cx hr hlk hW hL ⟨rfl, (by omega)⟩ dX5_proofByte_59
      · refine lv_bipush (v := iv 32) hx hb dX5_proofByte_46 (by decide) ?_
        refine lv_goto (tgt := 59) hx hb dX5_proofByte_48 (by decide) ?_
        exact sIret Cx hr hlk hW hL ⟨rfl, (by omega)⟩ dX5_proofByte_59
  · refine lv_aload_n hx hb dX5_proofByte_11 rfl (lv_at hl 0 rfl) ?_
    refine g_X5_16 Cx hW (k := 157) (by decide) rfl (v := .ref (G.2.2.1 + 158)) (rf_157_0 hI) dX5_proofByte_12 ?_
    refine lv_iload_n hx hb dX5_proofByte_15 rfl (lv_at hl 1 rfl) ?_
    refine sBi (sV (As := [.int (iv k)]) (rest := []) (k := 158) Cx (s_X10_byteAt l G S (o := 158) (k := k) (N := 1500) hI ⟨by decide, rfl, rfl, rfl, rfl, by decide⟩ (by omega)) (c_X5_66 Cx rfl rfl (rmk_ok (by omega) (by decide))) hW (by decide) rfl rfl rfl hl.1 rfl (Nat.le_of_ble_eq_true rfl) dX5_proofByte_16 ⟨Nat.le_of_ble_eq_true rfl, Nat.le_of_ble_eq_true rfl⟩) hL (fun r_24 u_22 H locs k_23 hW hL => ?_)
    obtain ⟨eu_22, xu_22⟩ := k_23
    rw [eu_22] at hW
    exact sIret Cx hr hlk hW hL ⟨rfl, (by omega)⟩ dX5_proofByte_19

set_option maxRecDepth 100000 in
set_option maxHeartbeats 4000000 in
theorem s_X5_takePoint (l : Launch) (G : sG) (S : sS) {vs : Int} (hI : cX G S 0 0 0) (hvs : 0 ≤ vs ∧ vs ≤ 12) : Met l yX5_takePoint (.code yX5_takePoint cX5_takePoint 4 none :: tb) (rmk 4 0 0) (sPc G 294 S [.ref (G.2.2.1 + 157), .ref (G.2.2.1 + 135), .int (iv vs)]) (sQv G 294 (fun u => cX G u 0 0 0 ∧ Fr S u pN)) 0 0 (sF G) := by
  refine sEnter (by decide) (Nat.le_of_ble_eq_true rfl) ?_
  intro p e s m args below meth c Cx hr hlk hnm hW ls hl
  have Cx : sC G p m c cX5_takePoint 4 s args RX5 := Cx
  obtain ⟨hx, hb, hml, hown, hts⟩ := id Cx.1
  have hL : sL G [] := sL_nil
  have hl : lv_has ls 4 [(0, .ref (G.2.2.1 + 157)), (1, .ref (G.2.2.1 + 135)), (2, .int (iv vs))] := hl
  have hW0 := hW
  refine lv_aload_n hx hb dX5_takePoint_0 rfl (lv_at hl 1 rfl) ?_
  refine lv_iconst (v := iv 0) hx hb dX5_takePoint_1 (by decide) ?_
  refine lv_iconst (v := iv 0) hx hb dX5_takePoint_2 (by decide) ?_
  refine lv_aload_n hx hb dX5_takePoint_3 rfl (lv_at hl 0 rfl) ?_
  refine g_X5_40 Cx hW (k := 157) (by decide) rfl (v := .ref (G.2.2.1 + 169)) (rf_157_6 hI) dX5_takePoint_4 ?_
  refine sBv (sV (As := [.int (iv 0), .int (iv 0), .ref (G.2.2.1 + 169)]) (rest := []) (k := 135) Cx (s_X2_number l G S (i := 0) (j := 0) (v := 169) hI rfl (by omega) (by omega)) (c_X5_72 Cx rfl rfl (rmk_ok (by omega) (by decide))) hW (by decide) rfl rfl rfl hl.1 rfl (Nat.le_of_ble_eq_true rfl) dX5_takePoint_7 ⟨Nat.le_of_ble_eq_true rfl, Nat.le_of_ble_eq_true rfl⟩) hL (fun u_1 H locs k_2 hW hL => ?_)
  obtain ⟨iu_1, fu_1, xu_1⟩ := k_2
  have F_3 := (Fr.rf : Fr S S pN).trans (fu_1.to (pB_sub rfl rfl))
  refine lv_aload_n hx hb dX5_takePoint_10 rfl (lv_at hl 0 rfl) ?_
  refine g_X5_40 Cx hW (k := 157) (by decide) rfl (v := .ref (G.2.2.1 + 169)) (rf_157_6 iu_1) dX5_takePoint_11 ?_
  refine lv_aload_n hx hb dX5_takePoint_14 rfl (lv_at hl 0 rfl) ?_
  refine g_X5_25 Cx hW (k := 157) (by decide) rfl (v := .ref (G.2.2.1 + 162)) (rf_157_2 iu_1) dX5_takePoint_15 ?_
  refine lv_iconst (v := iv 0) hx hb dX5_takePoint_18 (by decide) ?_
  have q_4 : 0 ≤ u_1.1 169 1 ∧ u_1.1 169 1 ≤ 32 := iu_1.fi 169 1 0 (by decide) rfl
  have q_5 : (-1) ≤ u_1.1 169 2 ∧ u_1.1 169 2 ≤ 1 := iu_1.fi 169 2 0 (by decide) rfl
  refine sBv (sV (As := [.ref (G.2.2.1 + 162), .int (iv 0)]) (rest := []) (k := 169) Cx (s_X0_save l G u_1 (o := 169) (k := 162) (a := 0) (N := 112) iu_1 rfl ⟨by decide, rfl, by decide, rfl, rfl, rfl⟩ (by omega) (show _ ≤ (7 : Int) ∧ (_ → _ ≤ (999999999 : Int)) from ⟨by omega, fun _ => by have := limbR iu_1 (rfl : tau 169 = .inl 0) 6; omega⟩) (fun q _ => by rcases q with q | q <;> exact absurd q (by decide))) (c_X5_76 Cx rfl rfl (rmk_ok (by omega) (by decide))) hW (by decide) rfl rfl rfl hl.1 rfl (Nat.le_of_ble_eq_true rfl) dX5_takePoint_19 ⟨Nat.le_of_ble_eq_true rfl, Nat.le_of_ble_eq_true rfl⟩) hL (fun u_6 H locs k_7 hW hL => ?_)
  obtain ⟨iu_6, fu_6⟩ := k_7
  have F_8 := F_3.trans (fu_6.to (p1_sub rfl))
  refine lv_iconst (v := iv 1) hx hb dX5_takePoint_22 (by decide) ?_
  refine lv_istore_n (lv' := [(3, .int (iv 1)), (0, .ref (G.2.2.1 + 157)), (1, .ref (G.2.2.1 + 135)), (2, .int (iv vs))]) hx hb dX5_takePoint_23 rfl hl (by decide) rfl (fun ls hl => ?_)
  have loop_24 : ∀ (fuel : Nat) (S24 : sS) (j : Int) (H : Heap) (locs : List Loc) (ls : Array Slot), (13 - j).toNat < fuel → (cX G S24 0 0 0) → (Fr S S24 pN) → (Fr u_6 S24 pN) → (1 ≤ j ∧ j ≤ 13) → sW G 294 S24 H → sL G locs → lv_has ls 4 [(3, .int (iv j)), (0, .ref (G.2.2.1 + 157)), (1, .ref (G.2.2.1 + 135)), (2, .int (iv vs))] → W p l e (rmk 4 0 0) s m args below meth c H locs 0 0 (MQ below (sQv G 294 (fun u => cX G u 0 0 0 ∧ Fr S u pN)) args s 0 0 (sF G)) (F0 m 24 ls []) := by
    intro fuel
    induction fuel with
    | zero => intro S24 j H locs ls hmeas hI24 hFm24 hL24_ hj hW hL hl; exact absurd hmeas (Nat.not_lt_zero _)
    | succ fuel ih_24 =>
      intro S24 j H locs ls hmeas hI24 hFm24 hL24_ hj hW hL hl
      refine lv_iload_n hx hb dX5_takePoint_24 rfl (lv_at hl 0 rfl) ?_
      refine lv_iload_n hx hb dX5_takePoint_25 rfl (lv_at hl 3 rfl) ?_
      refine r_icmp_gt (tgt := 59) hx hb ⟨(by omega), (by omega)⟩ ⟨(by omega), (by omega)⟩ dX5_takePoint_26 (by decide) (fun c_9 => ?_) (fun c_9 => ?_)
      · refine lv_aload_n hx hb dX5_takePoint_59 rfl (lv_at hl 2 rfl) ?_
        refine lv_aload_n hx hb dX5_takePoint_60 rfl (lv_at hl 1 rfl) ?_
        refine g_X5_40 Cx hW (k := 157) (by decide) rfl (v := .ref (G.2.2.1 + 169)) (rf_157_6 hI24) dX5_takePoint_61 ?_
        refine sBv (sV (As := [.ref (G.2.2.1 + 169)]) (rest := []) (k := 135) Cx (s_X2_denominator l G S24 (v := 169) hI24 rfl) (c_X5_84 Cx rfl rfl (rmk_ok (by omega) (by decide))) hW (by decide) rfl rfl rfl hl.1 rfl (Nat.le_of_ble_eq_true rfl) dX5_takePoint_64 ⟨Nat.le_of_ble_eq_true rfl, Nat.le_of_ble_eq_true rfl⟩) hL (fun u_10 H locs k_11 hW hL => ?_)
        obtain ⟨iu_10, fu_10, xu_10⟩ := k_11
        have F_12 := hFm24.trans (fu_10.to (pB_sub rfl rfl))
        have F_13 := hL24_.trans (fu_10.to (pB_sub rfl rfl))
        refine lv_aload_n hx hb dX5_takePoint_67 rfl (lv_at hl 1 rfl) ?_
        refine g_X5_40 Cx hW (k := 157) (by decide) rfl (v := .ref (G.2.2.1 + 169)) (rf_157_6 iu_10) dX5_takePoint_68 ?_
        refine lv_aload_n hx hb dX5_takePoint_71 rfl (lv_at hl 1 rfl) ?_
        refine g_X5_25 Cx hW (k := 157) (by decide) rfl (v := .ref (G.2.2.1 + 162)) (rf_157_2 iu_10) dX5_takePoint_72 ?_
        refine lv_bipush (v := iv 104) hx hb dX5_takePoint_75 (by decide) ?_
        have q_14 : 0 ≤ u_10.1 169 1 ∧ u_10.1 169 1 ≤ 32 := iu_10.fi 169 1 0 (by decide) rfl
        have q_15 : (-1) ≤ u_10.1 169 2 ∧ u_10.1 169 2 ≤ 1 := iu_10.fi 169 2 0 (by decide) rfl
        refine sBv (sV (As := [.ref (G.2.2.1 + 162), .int (iv 104)]) (rest := []) (k := 169) Cx (s_X0_save l G u_10 (o := 169) (k := 162) (a := 104) (N := 112) iu_10 rfl ⟨by decide, rfl, by decide, rfl, rfl, rfl⟩ (by omega) (show _ ≤ (7 : Int) ∧ (_ → _ ≤ (999999999 : Int)) from ⟨by omega, fun _ => by have := limbR iu_10 (rfl : tau 169 = .inl 0) 6; omega⟩) (fun q _ => by rcases q with q | q <;> exact absurd q (by decide))) (c_X5_76 Cx rfl rfl (rmk_ok (by omega) (by decide))) hW (by decide) rfl rfl rfl hl.1 rfl (Nat.le_of_ble_eq_true rfl) dX5_takePoint_77 ⟨Nat.le_of_ble_eq_true rfl, Nat.le_of_ble_eq_true rfl⟩) hL (fun u_16 H locs k_17 hW hL => ?_)
        obtain ⟨iu_16, fu_16⟩ := k_17
        have F_18 := F_12.trans (fu_16.to (p1_sub rfl))
        have F_19 := F_13.trans (fu_16.to (p1_sub rfl))
        exact sVret Cx hr hlk hW hL ⟨iu_16, F_18⟩ dX5_takePoint_80
      · refine lv_aload_n hx hb dX5_takePoint_29 rfl (lv_at hl 2 rfl) ?_
        refine lv_iload_n hx hb dX5_takePoint_30 rfl (lv_at hl 0 rfl) ?_
        refine lv_aload_n hx hb dX5_takePoint_31 rfl (lv_at hl 1 rfl) ?_
        refine g_X5_40 Cx hW (k := 157) (by decide) rfl (v := .ref (G.2.2.1 + 169)) (rf_157_6 hI24) dX5_takePoint_32 ?_
        refine sBv (sV (As := [.int (iv j), .ref (G.2.2.1 + 169)]) (rest := []) (k := 135) Cx (s_X2_pointNumber l G S24 (k := j) (v := 169) hI24 rfl (by omega)) (c_X5_80 Cx rfl rfl (rmk_ok (by omega) (by decide))) hW (by decide) rfl rfl rfl hl.1 rfl (Nat.le_of_ble_eq_true rfl) dX5_takePoint_35 ⟨Nat.le_of_ble_eq_true rfl, Nat.le_of_ble_eq_true rfl⟩) hL (fun u_20 H locs k_21 hW hL => ?_)
        obtain ⟨iu_20, fu_20, xu_20⟩ := k_21
        have F_22 := hFm24.trans (fu_20.to (pB_sub rfl rfl))
        have F_23 := hL24_.trans (fu_20.to (pB_sub rfl rfl))
        refine lv_aload_n hx hb dX5_takePoint_38 rfl (lv_at hl 1 rfl) ?_
        refine g_X5_40 Cx hW (k := 157) (by decide) rfl (v := .ref (G.2.2.1 + 169)) (rf_157_6 iu_20) dX5_takePoint_39 ?_
        refine lv_aload_n hx hb dX5_takePoint_42 rfl (lv_at hl 1 rfl) ?_
        refine g_X5_25 Cx hW (k := 157) (by decide) rfl (v := .ref (G.2.2.1 + 162)) (rf_157_2 iu_20) dX5_takePoint_43 ?_
        refine lv_iload_n hx hb dX5_takePoint_46 rfl (lv_at hl 0 rfl) ?_
        refine lv_bipush (v := iv 8) hx hb dX5_takePoint_47 (by decide) ?_
        refine r_imul hx hb dX5_takePoint_49 ?_
        have q_24 : 0 ≤ u_20.1 169 1 ∧ u_20.1 169 1 ≤ 32 := iu_20.fi 169 1 0 (by decide) rfl
        have q_25 : (-1) ≤ u_20.1 169 2 ∧ u_20.1 169 2 ≤ 1 := iu_20.fi 169 2 0 (by decide) rfl
        refine sBv (sV (As := [.ref (G.2.2.1 + 162), .int (iv (j * 8))]) (rest := []) (k := 169) Cx (s_X0_save l G u_20 (o := 169) (k := 162) (a := j * 8) (N := 112) iu_20 rfl ⟨by decide, rfl, by decide, rfl, rfl, rfl⟩ (by omega) (show _ ≤ (7 : Int) ∧ (_ → _ ≤ (999999999 : Int)) from ⟨by omega, fun _ => by have := limbR iu_20 (rfl : tau 169 = .inl 0) 6; omega⟩) (fun q _ => by rcases q with q | q <;> exact absurd q (by decide))) (c_X5_76 Cx rfl rfl (rmk_ok (by omega) (by decide))) hW (by decide) rfl rfl rfl hl.1 rfl (Nat.le_of_ble_eq_true rfl) dX5_takePoint_50 ⟨Nat.le_of_ble_eq_true rfl, Nat.le_of_ble_eq_true rfl⟩) hL (fun u_26 H locs k_27 hW hL => ?_)
        obtain ⟨iu_26, fu_26⟩ := k_27
        have F_28 := F_22.trans (fu_26.to (p1_sub rfl))
        have F_29 := F_23.trans (fu_26.to (p1_sub rfl))
        refine lv_iinc (v := iv (j + 1)) (lv' := [(3, .int (iv (j + 1))), (0, .ref (G.2.2.1 + 157)), (1, .ref (G.2.2.1 + 135)), (2, .int (iv vs))]) hx hb dX5_takePoint_53 hl (k := 0) rfl ((Int32.ofInt_add _ _).symm) (by decide) rfl (fun ls hl => ?_)
        refine lv_goto (tgt := 24) hx hb dX5_takePoint_56 (by decide) ?_
        exact ih_24 u_26 (j + 1) _ _ _ (by omega) iu_26 F_28 F_29 (by omega) hW hL (lv_sub hl [0, 1, 2, 3] rfl)
  exact loop_24 (_ + 1) u_6 1 _ _ _ (Nat.lt_succ_self _) iu_6 F_8 Fr.rf (by omega) hW hL (lv_sub hl [0, 1, 2, 3] rfl)

set_option maxRecDepth 100000 in
set_option maxHeartbeats 4000000 in
theorem s_X5_pointNumber (l : Launch) (G : sG) (S : sS) {v : Nat} {j : Int} (hI : cX G S 0 0 0) (hv : tau v = .inl 0) (hj : 0 ≤ j ∧ j ≤ 12) : Met l yX5_pointNumber (.code yX5_pointNumber cX5_pointNumber 3 none :: tb) (rmk 3 0 0) (sPc G 294 S [.ref (G.2.2.1 + 157), .int (iv j), .ref (G.2.2.1 + v)]) (sQv G 294 (fun u => cX G u 0 0 0 ∧ Fr S u (pB v) ∧ (u.1 v 1 ≤ 7))) 0 0 (sF G) := by
  refine sEnter (by decide) (Nat.le_of_ble_eq_true rfl) ?_
  intro p e s m args below meth c Cx hr hlk hnm hW ls hl
  have Cx : sC G p m c cX5_pointNumber 3 s args RX5 := Cx
  obtain ⟨hx, hb, hml, hown, hts⟩ := id Cx.1
  have hL : sL G [] := sL_nil
  have hl : lv_has ls 3 [(0, .ref (G.2.2.1 + 157)), (1, .int (iv j)), (2, .ref (G.2.2.1 + v))] := hl
  have hW0 := hW
  refine lv_aload_n hx hb dX5_pointNumber_0 rfl (lv_at hl 2 rfl) ?_
  refine lv_aload_n hx hb dX5_pointNumber_1 rfl (lv_at hl 0 rfl) ?_
  refine g_X5_25 Cx hW (k := 157) (by decide) rfl (v := .ref (G.2.2.1 + 162)) (rf_157_2 hI) dX5_pointNumber_2 ?_
  refine lv_iload_n hx hb dX5_pointNumber_5 rfl (lv_at hl 1 rfl) ?_
  refine lv_bipush (v := iv 8) hx hb dX5_pointNumber_6 (by decide) ?_
  refine r_imul hx hb dX5_pointNumber_8 ?_
  refine sBv (sV (As := [.ref (G.2.2.1 + 162), .int (iv (j * 8))]) (rest := []) (k := v) Cx (s_X0_load l G S (o := v) (k := 162) (a := j * 8) (N := 112) hI hv ⟨by decide, rfl, by decide, rfl, rfl, rfl⟩ (by omega)) (c_X5_88 Cx rfl rfl (rmk_ok (by omega) (by decide))) hW (big_l hv) hv rfl rfl hl.1 rfl (Nat.le_of_ble_eq_true rfl) dX5_pointNumber_9 ⟨Nat.le_of_ble_eq_true rfl, Nat.le_of_ble_eq_true rfl⟩) hL (fun u_1 H locs k_2 hW hL => ?_)
  obtain ⟨iu_1, fu_1, xu_1⟩ := k_2
  have F_3 := (Fr.rf : Fr S S (pB v)).trans fu_1
  have yu_1 : u_1.1 v 1 ≤ 7 := xu_1.1
  have q_4 : 0 ≤ u_1.1 v 1 ∧ u_1.1 v 1 ≤ 32 := iu_1.fi v 1 0 (big_lt hv) hv
  exact sVret Cx hr hlk hW hL ⟨iu_1, F_3, (by omega)⟩ dX5_pointNumber_12

set_option maxRecDepth 100000 in
set_option maxHeartbeats 4000000 in
theorem s_X5_pointDenominator (l : Launch) (G : sG) (S : sS) {v : Nat} (hI : cX G S 0 0 0) (hv : tau v = .inl 0) : Met l yX5_pointDenominator (.code yX5_pointDenominator cX5_pointDenominator 2 none :: tb) (rmk 3 0 0) (sPc G 294 S [.ref (G.2.2.1 + 157), .ref (G.2.2.1 + v)]) (sQv G 294 (fun u => cX G u 0 0 0 ∧ Fr S u (pB v) ∧ (u.1 v 1 ≤ 7))) 0 0 (sF G) := by
  refine sEnter (by decide) (Nat.le_of_ble_eq_true rfl) ?_
  intro p e s m args below meth c Cx hr hlk hnm hW ls hl
  have Cx : sC G p m c cX5_pointDenominator 2 s args RX5 := Cx
  obtain ⟨hx, hb, hml, hown, hts⟩ := id Cx.1
  have hL : sL G [] := sL_nil
  have hl : lv_has ls 2 [(0, .ref (G.2.2.1 + 157)), (1, .ref (G.2.2.1 + v))] := hl
  have hW0 := hW
  refine lv_aload_n hx hb dX5_pointDenominator_0 rfl (lv_at hl 1 rfl) ?_
  refine lv_aload_n hx hb dX5_pointDenominator_1 rfl (lv_at hl 0 rfl) ?_
  refine g_X5_25 Cx hW (k := 157) (by decide) rfl (v := .ref (G.2.2.1 + 162)) (rf_157_2 hI) dX5_pointDenominator_2 ?_
  refine lv_bipush (v := iv 104) hx hb dX5_pointDenominator_5 (by decide) ?_
  refine sBv (sV (As := [.ref (G.2.2.1 + 162), .int (iv 104)]) (rest := []) (k := v) Cx (s_X0_load l G S (o := v) (k := 162) (a := 104) (N := 112) hI hv ⟨by decide, rfl, by decide, rfl, rfl, rfl⟩ (by omega)) (c_X5_88 Cx rfl rfl (rmk_ok (by omega) (by decide))) hW (big_l hv) hv rfl rfl hl.1 rfl (Nat.le_of_ble_eq_true rfl) dX5_pointDenominator_7 ⟨Nat.le_of_ble_eq_true rfl, Nat.le_of_ble_eq_true rfl⟩) hL (fun u_1 H locs k_2 hW hL => ?_)
  obtain ⟨iu_1, fu_1, xu_1⟩ := k_2
  have F_3 := (Fr.rf : Fr S S (pB v)).trans fu_1
  have yu_1 : u_1.1 v 1 ≤ 7 := xu_1.1
  have q_4 : 0 ≤ u_1.1 v 1 ∧ u_1.1 v 1 ≤ 32 := iu_1.fi v 1 0 (big_lt hv) hv
  exact sVret Cx hr hlk hW hL ⟨iu_1, F_3, (by omega)⟩ dX5_pointDenominator_10

set_option maxRecDepth 100000 in
set_option maxHeartbeats 4000000 in
theorem s_X5_common (l : Launch) (G : sG) (S : sS)  (hI : cX G S 0 0 0) (hc0 : S.1 169 1 ≤ 12 ∧ S.1 171 1 ≤ 12) : Met l yX5_common (.code yX5_common cX5_common 7 (some (.object "OptimumHouse$Big")) :: tb) (rmk 5 0 0) (sPc G 294 S [.ref (G.2.2.1 + 157), .ref (G.2.2.1 + 169), .ref (G.2.2.1 + 171)]) (sQr G 294 (fun r u => cX G u 0 0 0 ∧ Fr S u pP ∧ ((r = 169 ∨ r = 171) ∧ u.1 169 1 ≤ 12 ∧ u.1 171 1 ≤ 12))) 0 0 (sF G) := by
  refine sEnter (by decide) (Nat.le_of_ble_eq_true rfl) ?_
  intro p e s m args below meth c Cx hr hlk hnm hW ls hl
  have Cx : sC G p m c cX5_common 7 s args RX5 := Cx
  obtain ⟨hx, hb, hml, hown, hts⟩ := id Cx.1
  have hL : sL G [] := sL_nil
  have hl : lv_has ls 7 [(0, .ref (G.2.2.1 + 157)), (1, .ref (G.2.2.1 + 169)), (2, .ref (G.2.2.1 + 171))] := hl
  have hW0 := hW
  refine lv_aload_n hx hb dX5_common_0 rfl (lv_at hl 1 rfl) ?_
  refine lv_astore_n (lv' := [(3, .ref (G.2.2.1 + 169)), (0, .ref (G.2.2.1 + 157)), (1, .ref (G.2.2.1 + 169)), (2, .ref (G.2.2.1 + 171))]) hx hb dX5_common_1 rfl hl (by decide) rfl (fun ls hl => ?_)
  refine lv_aload_n hx hb dX5_common_2 rfl (lv_at hl 3 rfl) ?_
  refine lv_astore (lv' := [(4, .ref (G.2.2.1 + 171)), (3, .ref (G.2.2.1 + 169)), (0, .ref (G.2.2.1 + 157)), (1, .ref (G.2.2.1 + 169)), (2, .ref (G.2.2.1 + 171))]) hx hb dX5_common_3 hl (by decide) rfl (fun ls hl => ?_)
  refine lv_iconst (v := iv 0) hx hb dX5_common_5 (by decide) ?_
  refine lv_istore (lv' := [(5, .int (iv 0)), (4, .ref (G.2.2.1 + 171)), (3, .ref (G.2.2.1 + 169)), (0, .ref (G.2.2.1 + 157)), (1, .ref (G.2.2.1 + 169)), (2, .ref (G.2.2.1 + 171))]) hx hb dX5_common_6 hl (by decide) rfl (fun ls hl => ?_)
  have loop_8 : ∀ (fuel : Nat) (S8 : sS) (i : Int) (lo : Nat) (hi : Nat) (H : Heap) (locs : List Loc) (ls : Array Slot), (1000 - i).toNat < fuel → (cX G S8 0 0 0) → (Fr S S8 pP) → (Fr S S8 pP) → (0 ≤ i ∧ i ≤ 1000) → ((hi = 169 ∧ lo = 171) ∨ (hi = 171 ∧ lo = 169)) → (S8.1 169 1 ≤ 12 ∧ S8.1 171 1 ≤ 12) → sW G 294 S8 H → sL G locs → lv_has ls 7 [(5, .int (iv i)), (4, .ref (G.2.2.1 + lo)), (3, .ref (G.2.2.1 + hi)), (0, .ref (G.2.2.1 + 157)), (1, .ref (G.2.2.1 + 169)), (2, .ref (G.2.2.1 + 171))] → W p l e (rmk 5 0 0) s m args below meth c H locs 0 0 (MQ below (sQr G 294 (fun r u => cX G u 0 0 0 ∧ Fr S u pP ∧ ((r = 169 ∨ r = 171) ∧ u.1 169 1 ≤ 12 ∧ u.1 171 1 ≤ 12))) args s 0 0 (sF G)) (F0 m 8 ls []) := by
    intro fuel
    induction fuel with
    | zero => intro S8 i lo hi H locs ls hmeas hI8 hFm8 hL8_ hii hst hc hW hL hl; exact absurd hmeas (Nat.not_lt_zero _)
    | succ fuel ih_8 =>
      intro S8 i lo hi H locs ls hmeas hI8 hFm8 hL8_ hii hst hc hW hL hl
      refine lv_iload hx hb dX5_common_8 (lv_at hl 0 rfl) ?_
      rcases hst with ⟨rfl, rfl⟩ | ⟨rfl, rfl⟩
      · refine lv_sipush (v := iv 1000) hx hb dX5_common_10 (by decide) ?_
        refine r_icmp_ge (tgt := 54) hx hb ⟨(by omega), (by omega)⟩ ⟨(by omega), (by omega)⟩ dX5_common_13 (by decide) (fun c_1 => ?_) (fun c_1 => ?_)
        · refine lv_aload_n hx hb dX5_common_54 rfl (lv_at hl 2 rfl) ?_
          have q_2 : 0 ≤ S8.1 169 1 ∧ S8.1 169 1 ≤ 32 := hI8.fi 169 1 0 (by decide) rfl
          have q_3 : 0 ≤ S8.1 171 1 ∧ S8.1 171 1 ≤ 32 := hI8.fi 171 1 0 (by decide) rfl
          exact sRret Cx hr hlk hW hL ⟨hI8, hFm8, (by omega)⟩ dX5_common_55
        · refine lv_aload hx hb dX5_common_16 (lv_at hl 1 rfl) ?_
          have q_4 : (-1) ≤ S8.1 171 2 ∧ S8.1 171 2 ≤ 1 := hI8.fi 171 2 0 (by decide) rfl
          refine g_X5_126 Cx hW (k := 171) (by decide) rfl (v := S8.1 171 2) rfl dX5_common_18 ?_
          refine r_if_eq (tgt := 54) hx hb ⟨(by omega), (by omega)⟩ dX5_common_21 (by decide) (fun c_5 => ?_) (fun c_5 => ?_)
          · refine lv_aload_n hx hb dX5_common_54 rfl (lv_at hl 2 rfl) ?_
            have q_6 : 0 ≤ S8.1 169 1 ∧ S8.1 169 1 ≤ 32 := hI8.fi 169 1 0 (by decide) rfl
            have q_7 : 0 ≤ S8.1 171 1 ∧ S8.1 171 1 ≤ 32 := hI8.fi 171 1 0 (by decide) rfl
            exact sRret Cx hr hlk hW hL ⟨hI8, hFm8, (by omega)⟩ dX5_common_55
          · refine lv_aload_n hx hb dX5_common_24 rfl (lv_at hl 2 rfl) ?_
            refine lv_aload hx hb dX5_common_25 (lv_at hl 1 rfl) ?_
            refine lv_aload_n hx hb dX5_common_27 rfl (lv_at hl 3 rfl) ?_
            refine g_X5_46 Cx hW (k := 157) (by decide) rfl (v := .ref (G.2.2.1 + 173)) (rf_157_8 hI8) dX5_common_28 ?_
            refine lv_aload_n hx hb dX5_common_31 rfl (lv_at hl 3 rfl) ?_
            refine g_X5_49 Cx hW (k := 157) (by decide) rfl (v := .ref (G.2.2.1 + 175)) (rf_157_9 hI8) dX5_common_32 ?_
            have q_8 : 0 ≤ S8.1 169 1 ∧ S8.1 169 1 ≤ 32 := hI8.fi 169 1 0 (by decide) rfl
            have q_9 : 0 ≤ S8.1 171 1 ∧ S8.1 171 1 ≤ 32 := hI8.fi 171 1 0 (by decide) rfl
            have q_10 : (-1) ≤ S8.1 169 2 ∧ S8.1 169 2 ≤ 1 := hI8.fi 169 2 0 (by decide) rfl
            refine sBv (sV (As := [.ref (G.2.2.1 + 171), .ref (G.2.2.1 + 173), .ref (G.2.2.1 + 175)]) (rest := []) (k := 169) Cx (s_X0_divide l G S8 (o := 169) (b := 171) (q := 173) (h := 175) (n := 12) hI8 rfl rfl rfl rfl (show (169 : Nat) ≠ 171 by decide) (show (169 : Nat) ≠ 173 by decide) (show (169 : Nat) ≠ 175 by decide) (show (171 : Nat) ≠ 173 by decide) (show (171 : Nat) ≠ 175 by decide) (show (173 : Nat) ≠ 175 by decide) (by omega)) (c_X5_137 Cx rfl rfl (rmk_ok (by omega) (by decide))) hW (by decide) rfl rfl rfl hl.1 rfl (Nat.le_of_ble_eq_true rfl) dX5_common_35 ⟨Nat.le_of_ble_eq_true rfl, Nat.le_of_ble_eq_true rfl⟩) hL (fun u_11 H locs k_12 hW hL => ?_)
            obtain ⟨iu_11, fu_11, xu_11⟩ := k_12
            have F_13 := hFm8.trans (fu_11.to (pD_sub (pB_sub rfl rfl) (pB_sub rfl rfl) (pB_sub rfl rfl)))
            have F_14 := hL8_.trans (fu_11.to (pD_sub (pB_sub rfl rfl) (pB_sub rfl rfl) (pB_sub rfl rfl)))
            refine lv_aload_n hx hb dX5_common_38 rfl (lv_at hl 2 rfl) ?_
            refine lv_astore (lv' := [(6, .ref (G.2.2.1 + 169)), (5, .int (iv i)), (4, .ref (G.2.2.1 + 171)), (3, .ref (G.2.2.1 + 169)), (0, .ref (G.2.2.1 + 157)), (1, .ref (G.2.2.1 + 169)), (2, .ref (G.2.2.1 + 171))]) hx hb dX5_common_39 hl (by decide) rfl (fun ls hl => ?_)
            refine lv_aload hx hb dX5_common_41 (lv_at hl 2 rfl) ?_
            refine lv_astore_n (lv' := [(3, .ref (G.2.2.1 + 171)), (6, .ref (G.2.2.1 + 169)), (5, .int (iv i)), (4, .ref (G.2.2.1 + 171)), (0, .ref (G.2.2.1 + 157)), (1, .ref (G.2.2.1 + 169)), (2, .ref (G.2.2.1 + 171))]) hx hb dX5_common_43 rfl hl (by decide) rfl (fun ls hl => ?_)
            refine lv_aload hx hb dX5_common_44 (lv_at hl 1 rfl) ?_
            refine lv_astore (lv' := [(4, .ref (G.2.2.1 + 169)), (3, .ref (G.2.2.1 + 171)), (6, .ref (G.2.2.1 + 169)), (5, .int (iv i)), (0, .ref (G.2.2.1 + 157)), (1, .ref (G.2.2.1 + 169)), (2, .ref (G.2.2.1 + 171))]) hx hb dX5_common_46 hl (by decide) rfl (fun ls hl => ?_)
            refine lv_iinc (v := iv (i + 1)) (lv' := [(5, .int (iv (i + 1))), (4, .ref (G.2.2.1 + 169)), (3, .ref (G.2.2.1 + 171)), (6, .ref (G.2.2.1 + 169)), (0, .ref (G.2.2.1 + 157)), (1, .ref (G.2.2.1 + 169)), (2, .ref (G.2.2.1 + 171))]) hx hb dX5_common_48 hl (k := 3) rfl ((Int32.ofInt_add _ _).symm) (by decide) rfl (fun ls hl => ?_)
            refine lv_goto (tgt := 8) hx hb dX5_common_51 (by decide) ?_
            have q_15 : 0 ≤ u_11.1 169 1 ∧ u_11.1 169 1 ≤ 32 := iu_11.fi 169 1 0 (by decide) rfl
            have lk_16 : u_11.1 171 1 = S8.1 171 1 := (fu_11 171 rfl).1 1
            exact ih_8 u_11 (i + 1) 169 171 _ _ _ (by omega) iu_11 F_13 F_14 (by omega) (by omega) (by omega) hW hL (lv_sub hl [0, 1, 2, 4, 5, 6] rfl)
      · refine lv_sipush (v := iv 1000) hx hb dX5_common_10 (by decide) ?_
        refine r_icmp_ge (tgt := 54) hx hb ⟨(by omega), (by omega)⟩ ⟨(by omega), (by omega)⟩ dX5_common_13 (by decide) (fun c_17 => ?_) (fun c_17 => ?_)
        · refine lv_aload_n hx hb dX5_common_54 rfl (lv_at hl 2 rfl) ?_
          have q_18 : 0 ≤ S8.1 169 1 ∧ S8.1 169 1 ≤ 32 := hI8.fi 169 1 0 (by decide) rfl
          have q_19 : 0 ≤ S8.1 171 1 ∧ S8.1 171 1 ≤ 32 := hI8.fi 171 1 0 (by decide) rfl
          exact sRret Cx hr hlk hW hL ⟨hI8, hFm8, (by omega)⟩ dX5_common_55
        · refine lv_aload hx hb dX5_common_16 (lv_at hl 1 rfl) ?_
          have q_20 : (-1) ≤ S8.1 169 2 ∧ S8.1 169 2 ≤ 1 := hI8.fi 169 2 0 (by decide) rfl
          refine g_X5_126 Cx hW (k := 169) (by decide) rfl (v := S8.1 169 2) rfl dX5_common_18 ?_
          refine r_if_eq (tgt := 54) hx hb ⟨(by omega), (by omega)⟩ dX5_common_21 (by decide) (fun c_21 => ?_) (fun c_21 => ?_)
          · refine lv_aload_n hx hb dX5_common_54 rfl (lv_at hl 2 rfl) ?_
            have q_22 : 0 ≤ S8.1 169 1 ∧ S8.1 169 1 ≤ 32 := hI8.fi 169 1 0 (by decide) rfl
            have q_23 : 0 ≤ S8.1 171 1 ∧ S8.1 171 1 ≤ 32 := hI8.fi 171 1 0 (by decide) rfl
            exact sRret Cx hr hlk hW hL ⟨hI8, hFm8, (by omega)⟩ dX5_common_55
          · refine lv_aload_n hx hb dX5_common_24 rfl (lv_at hl 2 rfl) ?_
            refine lv_aload hx hb dX5_common_25 (lv_at hl 1 rfl) ?_
            refine lv_aload_n hx hb dX5_common_27 rfl (lv_at hl 3 rfl) ?_
            refine g_X5_46 Cx hW (k := 157) (by decide) rfl (v := .ref (G.2.2.1 + 173)) (rf_157_8 hI8) dX5_common_28 ?_
            refine lv_aload_n hx hb dX5_common_31 rfl (lv_at hl 3 rfl) ?_
            refine g_X5_49 Cx hW (k := 157) (by decide) rfl (v := .ref (G.2.2.1 + 175)) (rf_157_9 hI8) dX5_common_32 ?_
            have q_24 : 0 ≤ S8.1 171 1 ∧ S8.1 171 1 ≤ 32 := hI8.fi 171 1 0 (by decide) rfl
            have q_25 : 0 ≤ S8.1 169 1 ∧ S8.1 169 1 ≤ 32 := hI8.fi 169 1 0 (by decide) rfl
            have q_26 : (-1) ≤ S8.1 171 2 ∧ S8.1 171 2 ≤ 1 := hI8.fi 171 2 0 (by decide) rfl
            refine sBv (sV (As := [.ref (G.2.2.1 + 169), .ref (G.2.2.1 + 173), .ref (G.2.2.1 + 175)]) (rest := []) (k := 171) Cx (s_X0_divide l G S8 (o := 171) (b := 169) (q := 173) (h := 175) (n := 12) hI8 rfl rfl rfl rfl (show (171 : Nat) ≠ 169 by decide) (show (171 : Nat) ≠ 173 by decide) (show (171 : Nat) ≠ 175 by decide) (show (169 : Nat) ≠ 173 by decide) (show (169 : Nat) ≠ 175 by decide) (show (173 : Nat) ≠ 175 by decide) (by omega)) (c_X5_137 Cx rfl rfl (rmk_ok (by omega) (by decide))) hW (by decide) rfl rfl rfl hl.1 rfl (Nat.le_of_ble_eq_true rfl) dX5_common_35 ⟨Nat.le_of_ble_eq_true rfl, Nat.le_of_ble_eq_true rfl⟩) hL (fun u_27 H locs k_28 hW hL => ?_)
            obtain ⟨iu_27, fu_27, xu_27⟩ := k_28
            have F_29 := hFm8.trans (fu_27.to (pD_sub (pB_sub rfl rfl) (pB_sub rfl rfl) (pB_sub rfl rfl)))
            have F_30 := hL8_.trans (fu_27.to (pD_sub (pB_sub rfl rfl) (pB_sub rfl rfl) (pB_sub rfl rfl)))
            refine lv_aload_n hx hb dX5_common_38 rfl (lv_at hl 2 rfl) ?_
            refine lv_astore (lv' := [(6, .ref (G.2.2.1 + 171)), (5, .int (iv i)), (4, .ref (G.2.2.1 + 169)), (3, .ref (G.2.2.1 + 171)), (0, .ref (G.2.2.1 + 157)), (1, .ref (G.2.2.1 + 169)), (2, .ref (G.2.2.1 + 171))]) hx hb dX5_common_39 hl (by decide) rfl (fun ls hl => ?_)
            refine lv_aload hx hb dX5_common_41 (lv_at hl 2 rfl) ?_
            refine lv_astore_n (lv' := [(3, .ref (G.2.2.1 + 169)), (6, .ref (G.2.2.1 + 171)), (5, .int (iv i)), (4, .ref (G.2.2.1 + 169)), (0, .ref (G.2.2.1 + 157)), (1, .ref (G.2.2.1 + 169)), (2, .ref (G.2.2.1 + 171))]) hx hb dX5_common_43 rfl hl (by decide) rfl (fun ls hl => ?_)
            refine lv_aload hx hb dX5_common_44 (lv_at hl 1 rfl) ?_
            refine lv_astore (lv' := [(4, .ref (G.2.2.1 + 171)), (3, .ref (G.2.2.1 + 169)), (6, .ref (G.2.2.1 + 171)), (5, .int (iv i)), (0, .ref (G.2.2.1 + 157)), (1, .ref (G.2.2.1 + 169)), (2, .ref (G.2.2.1 + 171))]) hx hb dX5_common_46 hl (by decide) rfl (fun ls hl => ?_)
            refine lv_iinc (v := iv (i + 1)) (lv' := [(5, .int (iv (i + 1))), (4, .ref (G.2.2.1 + 171)), (3, .ref (G.2.2.1 + 169)), (6, .ref (G.2.2.1 + 171)), (0, .ref (G.2.2.1 + 157)), (1, .ref (G.2.2.1 + 169)), (2, .ref (G.2.2.1 + 171))]) hx hb dX5_common_48 hl (k := 3) rfl ((Int32.ofInt_add _ _).symm) (by decide) rfl (fun ls hl => ?_)
            refine lv_goto (tgt := 8) hx hb dX5_common_51 (by decide) ?_
            have lk_31 : u_27.1 169 1 = S8.1 169 1 := (fu_27 169 rfl).1 1
            have q_32 : 0 ≤ u_27.1 171 1 ∧ u_27.1 171 1 ≤ 32 := iu_27.fi 171 1 0 (by decide) rfl
            exact ih_8 u_27 (i + 1) 171 169 _ _ _ (by omega) iu_27 F_29 F_30 (by omega) (by omega) (by omega) hW hL (lv_sub hl [0, 1, 2, 4, 5, 6] rfl)
  have q_33 : 0 ≤ S.1 169 1 ∧ S.1 169 1 ≤ 32 := hI.fi 169 1 0 (by decide) rfl
  have q_34 : 0 ≤ S.1 171 1 ∧ S.1 171 1 ≤ 32 := hI.fi 171 1 0 (by decide) rfl
  exact loop_8 (_ + 1) S 0 171 169 _ _ _ (Nat.lt_succ_self _) hI (Fr.rf : Fr S S pP) Fr.rf (by omega) (by omega) (by omega) hW hL (lv_sub hl [0, 1, 2, 3, 4, 5] rfl)

set_option maxRecDepth 100000 in
set_option maxHeartbeats 4000000 in
theorem s_X5_reduce_163 (l : Launch) (G : sG) (S : sS) {tn : Int} (hI : cX G S 0 0 0) (hab : S.1 163 1 ≤ 7 ∧ S.1 165 1 ≤ 7) (htn : 0 ≤ tn ∧ tn ≤ 1) : Met l yX5_reduce (.code yX5_reduce cX5_reduce 4 none :: tb) (rmk 6 0 0) (sPc G 294 S [.ref (G.2.2.1 + 157), .ref (G.2.2.1 + 163), .ref (G.2.2.1 + 165), .int (iv tn)]) (sQv G 294 (fun u => cX G u 0 0 0 ∧ Fr S u pN)) 0 0 (sF G) := by
  refine sEnter (by decide) (Nat.le_of_ble_eq_true rfl) ?_
  intro p e s m args below meth c Cx hr hlk hnm hW ls hl
  have Cx : sC G p m c cX5_reduce 4 s args RX5 := Cx
  obtain ⟨hx, hb, hml, hown, hts⟩ := id Cx.1
  have hL : sL G [] := sL_nil
  have hl : lv_has ls 4 [(0, .ref (G.2.2.1 + 157)), (1, .ref (G.2.2.1 + 163)), (2, .ref (G.2.2.1 + 165)), (3, .int (iv tn))] := hl
  have hW0 := hW
  refine lv_aload_n hx hb dX5_reduce_0 rfl (lv_at hl 0 rfl) ?_
  refine g_X5_30 Cx hW (k := 157) (by decide) rfl (v := .ref (G.2.2.1 + 163)) (rf_157_3 hI) dX5_reduce_1 ?_
  refine lv_aload_n hx hb dX5_reduce_4 rfl (lv_at hl 1 rfl) ?_
  have q_1 : 0 ≤ S.1 163 1 ∧ S.1 163 1 ≤ 32 := hI.fi 163 1 0 (by decide) rfl
  have q_2 : (-1) ≤ S.1 163 2 ∧ S.1 163 2 ≤ 1 := hI.fi 163 2 0 (by decide) rfl
  refine sBv (sV (As := [.ref (G.2.2.1 + 163)]) (rest := []) (k := 163) Cx (s_X0_copy l G S (o := 163) (a := 163) hI rfl rfl) (c_X5_141 Cx rfl rfl (rmk_ok (by omega) (by decide))) hW (by decide) rfl rfl rfl hl.1 rfl (Nat.le_of_ble_eq_true rfl) dX5_reduce_5 ⟨Nat.le_of_ble_eq_true rfl, Nat.le_of_ble_eq_true rfl⟩) hL (fun u_3 H locs k_4 hW hL => ?_)
  obtain ⟨iu_3, fu_3, xu_3⟩ := k_4
  have F_5 := (Fr.rf : Fr S S pN).trans (fu_3.to (pB_sub rfl rfl))
  have join_19 : ∀ (S19 : sS)  (H : Heap) (locs : List Loc) (ls : Array Slot), (cX G S19 0 0 0) → (Fr S S19 pN) → (Fr u_3 S19 (pB 163)) → (S19.1 163 1 ≤ 7) → sW G 294 S19 H → sL G locs → lv_has ls 4 [(0, .ref (G.2.2.1 + 157)), (1, .ref (G.2.2.1 + 163)), (2, .ref (G.2.2.1 + 165)), (3, .int (iv tn))] → W p l e (rmk 6 0 0) s m args below meth c H locs 0 0 (MQ below (sQv G 294 (fun u => cX G u 0 0 0 ∧ Fr S u pN)) args s 0 0 (sF G)) (F0 m 19 ls []) := by
    intro S19  H locs ls hI19 hFm19 hL19_ hu7 hW hL hl
    refine lv_aload_n hx hb dX5_reduce_19 rfl (lv_at hl 0 rfl) ?_
    refine g_X5_34 Cx hW (k := 157) (by decide) rfl (v := .ref (G.2.2.1 + 165)) (rf_157_4 hI19) dX5_reduce_20 ?_
    refine lv_aload_n hx hb dX5_reduce_23 rfl (lv_at hl 2 rfl) ?_
    have q_6 : 0 ≤ S.1 165 1 ∧ S.1 165 1 ≤ 32 := hI.fi 165 1 0 (by decide) rfl
    have lk_7 : S19.1 165 1 = S.1 165 1 := ((hL19_ 165 rfl).1 1).trans ((fu_3 165 rfl).1 1)
    have q_8 : (-1) ≤ S.1 165 2 ∧ S.1 165 2 ≤ 1 := hI.fi 165 2 0 (by decide) rfl
    have lk_9 : S19.1 165 2 = S.1 165 2 := ((hL19_ 165 rfl).1 2).trans ((fu_3 165 rfl).1 2)
    refine sBv (sV (As := [.ref (G.2.2.1 + 165)]) (rest := []) (k := 165) Cx (s_X0_copy l G S19 (o := 165) (a := 165) hI19 rfl rfl) (c_X5_141 Cx rfl rfl (rmk_ok (by omega) (by decide))) hW (by decide) rfl rfl rfl hl.1 rfl (Nat.le_of_ble_eq_true rfl) dX5_reduce_24 ⟨Nat.le_of_ble_eq_true rfl, Nat.le_of_ble_eq_true rfl⟩) hL (fun u_10 H locs k_11 hW hL => ?_)
    obtain ⟨iu_10, fu_10, xu_10⟩ := k_11
    have F_12 := hFm19.trans (fu_10.to (pB_sub rfl rfl))
    refine lv_aload_n hx hb dX5_reduce_27 rfl (lv_at hl 0 rfl) ?_
    refine g_X5_40 Cx hW (k := 157) (by decide) rfl (v := .ref (G.2.2.1 + 169)) (rf_157_6 iu_10) dX5_reduce_28 ?_
    refine lv_aload_n hx hb dX5_reduce_31 rfl (lv_at hl 1 rfl) ?_
    have q_13 : 0 ≤ S19.1 163 1 ∧ S19.1 163 1 ≤ 32 := hI19.fi 163 1 0 (by decide) rfl
    have lk_14 : u_10.1 163 1 = S19.1 163 1 := (fu_10 163 rfl).1 1
    have q_15 : (-1) ≤ S19.1 163 2 ∧ S19.1 163 2 ≤ 1 := hI19.fi 163 2 0 (by decide) rfl
    have lk_16 : u_10.1 163 2 = S19.1 163 2 := (fu_10 163 rfl).1 2
    refine sBv (sV (As := [.ref (G.2.2.1 + 163)]) (rest := []) (k := 169) Cx (s_X0_copy l G u_10 (o := 169) (a := 163) iu_10 rfl rfl) (c_X5_141 Cx rfl rfl (rmk_ok (by omega) (by decide))) hW (by decide) rfl rfl rfl hl.1 rfl (Nat.le_of_ble_eq_true rfl) dX5_reduce_32 ⟨Nat.le_of_ble_eq_true rfl, Nat.le_of_ble_eq_true rfl⟩) hL (fun u_17 H locs k_18 hW hL => ?_)
    obtain ⟨iu_17, fu_17, xu_17⟩ := k_18
    have F_19 := F_12.trans (fu_17.to (pB_sub rfl rfl))
    refine lv_aload_n hx hb dX5_reduce_35 rfl (lv_at hl 0 rfl) ?_
    refine g_X5_40 Cx hW (k := 157) (by decide) rfl (v := .ref (G.2.2.1 + 169)) (rf_157_6 iu_17) dX5_reduce_36 ?_
    refine lv_aload_n hx hb dX5_reduce_39 rfl (lv_at hl 0 rfl) ?_
    refine g_X5_40 Cx hW (k := 157) (by decide) rfl (v := .ref (G.2.2.1 + 169)) (rf_157_6 iu_17) dX5_reduce_40 ?_
    have q_20 : (-1) ≤ u_17.1 169 2 ∧ u_17.1 169 2 ≤ 1 := iu_17.fi 169 2 0 (by decide) rfl
    refine g_X5_126 Cx hW (k := 169) (by decide) rfl (v := u_17.1 169 2) rfl dX5_reduce_43 ?_
    refine r_abs hx hb (hml.trans hl.1.symm) hown (hts _ w_1652) (hts _ w_1156) (hts _ w_206) (hts _ w_1157) (rmk_f (by omega)) (rmk_l (by omega) (Nat.le_of_ble_eq_true rfl)) (Nat.le_of_ble_eq_true rfl) (Nat.le_of_ble_eq_true rfl) ⟨(by omega), (by omega)⟩ dX5_reduce_46 (fun z_21 hz_21 => ?_)
    refine p_X5_126 Cx hW hL (k := 169) (by decide) rfl dX5_reduce_49 (fun H locs hW hL => ?_)
    have F_22 : Fr S (uF u_17 169 2 z_21) pN := F_19.F rfl
    have i_23 : cX G (uF u_17 169 2 z_21) 0 0 0 := iu_17.F rfl rfl (show (-1) ≤ z_21 ∧ z_21 ≤ 1 from ⟨by omega, by omega⟩)
    refine lv_aload_n hx hb dX5_reduce_52 rfl (lv_at hl 0 rfl) ?_
    refine g_X5_43 Cx hW (k := 157) (by decide) rfl (v := .ref (G.2.2.1 + 171)) (rf_157_7 i_23) dX5_reduce_53 ?_
    refine lv_aload_n hx hb dX5_reduce_56 rfl (lv_at hl 2 rfl) ?_
    have q_24 : 0 ≤ u_10.1 165 1 ∧ u_10.1 165 1 ≤ 32 := iu_10.fi 165 1 0 (by decide) rfl
    have lk_25 : (uF u_17 169 2 z_21).1 165 1 = u_10.1 165 1 := (uF_ne (fun h => absurd h.2 (by decide))).trans ((fu_17 165 rfl).1 1)
    have q_26 : (-1) ≤ u_10.1 165 2 ∧ u_10.1 165 2 ≤ 1 := iu_10.fi 165 2 0 (by decide) rfl
    have lk_27 : (uF u_17 169 2 z_21).1 165 2 = u_10.1 165 2 := (uF_ne (fun h => absurd h.1 (by decide))).trans ((fu_17 165 rfl).1 2)
    refine sBv (sV (As := [.ref (G.2.2.1 + 165)]) (rest := []) (k := 171) Cx (s_X0_copy l G (uF u_17 169 2 z_21) (o := 171) (a := 165) i_23 rfl rfl) (c_X5_141 Cx rfl rfl (rmk_ok (by omega) (by decide))) hW (by decide) rfl rfl rfl hl.1 rfl (Nat.le_of_ble_eq_true rfl) dX5_reduce_57 ⟨Nat.le_of_ble_eq_true rfl, Nat.le_of_ble_eq_true rfl⟩) hL (fun u_28 H locs k_29 hW hL => ?_)
    obtain ⟨iu_28, fu_28, xu_28⟩ := k_29
    have F_30 := F_22.trans (fu_28.to (pB_sub rfl rfl))
    refine lv_aload_n hx hb dX5_reduce_60 rfl (lv_at hl 0 rfl) ?_
    refine g_X5_37 Cx hW (k := 157) (by decide) rfl (v := .ref (G.2.2.1 + 167)) (rf_157_5 iu_28) dX5_reduce_61 ?_
    refine lv_aload_n hx hb dX5_reduce_64 rfl (lv_at hl 0 rfl) ?_
    refine lv_aload_n hx hb dX5_reduce_65 rfl (lv_at hl 0 rfl) ?_
    refine g_X5_40 Cx hW (k := 157) (by decide) rfl (v := .ref (G.2.2.1 + 169)) (rf_157_6 iu_28) dX5_reduce_66 ?_
    refine lv_aload_n hx hb dX5_reduce_69 rfl (lv_at hl 0 rfl) ?_
    refine g_X5_43 Cx hW (k := 157) (by decide) rfl (v := .ref (G.2.2.1 + 171)) (rf_157_7 iu_28) dX5_reduce_70 ?_
    have q_31 : 0 ≤ u_17.1 169 1 ∧ u_17.1 169 1 ≤ 32 := iu_17.fi 169 1 0 (by decide) rfl
    have lk_32 : u_28.1 169 1 = u_17.1 169 1 := ((fu_28 169 rfl).1 1).trans (uF_ne (fun h => absurd h.2 (by decide)))
    have q_33 : 0 ≤ u_28.1 171 1 ∧ u_28.1 171 1 ≤ 32 := iu_28.fi 171 1 0 (by decide) rfl
    refine sBr (sV (As := [.ref (G.2.2.1 + 169), .ref (G.2.2.1 + 171)]) (rest := [.ref (G.2.2.1 + 167)]) (k := 157) Cx (s_X5_common l G u_28  iu_28 (by omega)) (c_X5_152 Cx rfl rfl (rmk_ok (by omega) (by decide))) hW (by decide) rfl rfl rfl hl.1 rfl (Nat.le_of_ble_eq_true rfl) dX5_reduce_73 ⟨Nat.le_of_ble_eq_true rfl, Nat.le_of_ble_eq_true rfl⟩) hL (fun r_36 u_34 H locs k_35 hW hL => ?_)
    obtain ⟨iu_34, fu_34, xu_34⟩ := k_35
    have F_37 := F_30.trans (fu_34.to pP_N)
    rcases xu_34.1 with rfl | rfl
    · have q_38 : 0 ≤ u_34.1 169 1 ∧ u_34.1 169 1 ≤ 32 := iu_34.fi 169 1 0 (by decide) rfl
      have q_39 : (-1) ≤ u_34.1 169 2 ∧ u_34.1 169 2 ≤ 1 := iu_34.fi 169 2 0 (by decide) rfl
      refine sBv (sV (As := [.ref (G.2.2.1 + 169)]) (rest := []) (k := 167) Cx (s_X0_copy l G u_34 (o := 167) (a := 169) iu_34 rfl rfl) (c_X5_141 Cx rfl rfl (rmk_ok (by omega) (by decide))) hW (by decide) rfl rfl rfl hl.1 rfl (Nat.le_of_ble_eq_true rfl) dX5_reduce_76 ⟨Nat.le_of_ble_eq_true rfl, Nat.le_of_ble_eq_true rfl⟩) hL (fun u_40 H locs k_41 hW hL => ?_)
      obtain ⟨iu_40, fu_40, xu_40⟩ := k_41
      have F_42 := F_37.trans (fu_40.to (pB_sub rfl rfl))
      refine lv_aload_n hx hb dX5_reduce_79 rfl (lv_at hl 0 rfl) ?_
      refine g_X5_30 Cx hW (k := 157) (by decide) rfl (v := .ref (G.2.2.1 + 163)) (rf_157_3 iu_40) dX5_reduce_80 ?_
      refine lv_aload_n hx hb dX5_reduce_83 rfl (lv_at hl 0 rfl) ?_
      refine g_X5_37 Cx hW (k := 157) (by decide) rfl (v := .ref (G.2.2.1 + 167)) (rf_157_5 iu_40) dX5_reduce_84 ?_
      refine lv_aload_n hx hb dX5_reduce_87 rfl (lv_at hl 0 rfl) ?_
      refine g_X5_46 Cx hW (k := 157) (by decide) rfl (v := .ref (G.2.2.1 + 173)) (rf_157_8 iu_40) dX5_reduce_88 ?_
      refine lv_aload_n hx hb dX5_reduce_91 rfl (lv_at hl 0 rfl) ?_
      refine g_X5_49 Cx hW (k := 157) (by decide) rfl (v := .ref (G.2.2.1 + 175)) (rf_157_9 iu_40) dX5_reduce_92 ?_
      have lk_43 : u_40.1 163 1 = S19.1 163 1 := ((fu_40 163 rfl).1 1).trans (((fu_34 163 rfl).1 1).trans (((fu_28 163 rfl).1 1).trans ((uF_ne (fun h => absurd h.2 (by decide))).trans (((fu_17 163 rfl).1 1).trans ((fu_10 163 rfl).1 1)))))
      have q_44 : 0 ≤ u_40.1 167 1 ∧ u_40.1 167 1 ≤ 32 := iu_40.fi 167 1 0 (by decide) rfl
      have lk_45 : u_40.1 163 2 = S19.1 163 2 := ((fu_40 163 rfl).1 2).trans (((fu_34 163 rfl).1 2).trans (((fu_28 163 rfl).1 2).trans ((uF_ne (fun h => absurd h.1 (by decide))).trans (((fu_17 163 rfl).1 2).trans ((fu_10 163 rfl).1 2)))))
      have q_46 : (-1) ≤ u_40.1 167 2 ∧ u_40.1 167 2 ≤ 1 := iu_40.fi 167 2 0 (by decide) rfl
      refine sBv (sV (As := [.ref (G.2.2.1 + 167), .ref (G.2.2.1 + 173), .ref (G.2.2.1 + 175)]) (rest := []) (k := 163) Cx (s_X0_divide l G u_40 (o := 163) (b := 167) (q := 173) (h := 175) (n := 12) iu_40 rfl rfl rfl rfl (show (163 : Nat) ≠ 167 by decide) (show (163 : Nat) ≠ 173 by decide) (show (163 : Nat) ≠ 175 by decide) (show (167 : Nat) ≠ 173 by decide) (show (167 : Nat) ≠ 175 by decide) (show (173 : Nat) ≠ 175 by decide) (by omega)) (c_X5_137 Cx rfl rfl (rmk_ok (by omega) (by decide))) hW (by decide) rfl rfl rfl hl.1 rfl (Nat.le_of_ble_eq_true rfl) dX5_reduce_95 ⟨Nat.le_of_ble_eq_true rfl, Nat.le_of_ble_eq_true rfl⟩) hL (fun u_47 H locs k_48 hW hL => ?_)
      obtain ⟨iu_47, fu_47, xu_47⟩ := k_48
      have F_49 := F_42.trans (fu_47.to (pD_sub (pB_sub rfl rfl) (pB_sub rfl rfl) (pB_sub rfl rfl)))
      refine lv_aload_n hx hb dX5_reduce_98 rfl (lv_at hl 0 rfl) ?_
      refine g_X5_30 Cx hW (k := 157) (by decide) rfl (v := .ref (G.2.2.1 + 163)) (rf_157_3 iu_47) dX5_reduce_99 ?_
      refine lv_aload_n hx hb dX5_reduce_102 rfl (lv_at hl 0 rfl) ?_
      refine g_X5_46 Cx hW (k := 157) (by decide) rfl (v := .ref (G.2.2.1 + 173)) (rf_157_8 iu_47) dX5_reduce_103 ?_
      have q_50 : 0 ≤ u_47.1 173 1 ∧ u_47.1 173 1 ≤ 32 := iu_47.fi 173 1 0 (by decide) rfl
      have q_51 : (-1) ≤ u_47.1 173 2 ∧ u_47.1 173 2 ≤ 1 := iu_47.fi 173 2 0 (by decide) rfl
      refine sBv (sV (As := [.ref (G.2.2.1 + 173)]) (rest := []) (k := 163) Cx (s_X0_copy l G u_47 (o := 163) (a := 173) iu_47 rfl rfl) (c_X5_141 Cx rfl rfl (rmk_ok (by omega) (by decide))) hW (by decide) rfl rfl rfl hl.1 rfl (Nat.le_of_ble_eq_true rfl) dX5_reduce_106 ⟨Nat.le_of_ble_eq_true rfl, Nat.le_of_ble_eq_true rfl⟩) hL (fun u_52 H locs k_53 hW hL => ?_)
      obtain ⟨iu_52, fu_52, xu_52⟩ := k_53
      have F_54 := F_49.trans (fu_52.to (pB_sub rfl rfl))
      refine lv_aload_n hx hb dX5_reduce_109 rfl (lv_at hl 0 rfl) ?_
      refine g_X5_34 Cx hW (k := 157) (by decide) rfl (v := .ref (G.2.2.1 + 165)) (rf_157_4 iu_52) dX5_reduce_110 ?_
      refine lv_aload_n hx hb dX5_reduce_113 rfl (lv_at hl 0 rfl) ?_
      refine g_X5_37 Cx hW (k := 157) (by decide) rfl (v := .ref (G.2.2.1 + 167)) (rf_157_5 iu_52) dX5_reduce_114 ?_
      refine lv_aload_n hx hb dX5_reduce_117 rfl (lv_at hl 0 rfl) ?_
      refine g_X5_46 Cx hW (k := 157) (by decide) rfl (v := .ref (G.2.2.1 + 173)) (rf_157_8 iu_52) dX5_reduce_118 ?_
      refine lv_aload_n hx hb dX5_reduce_121 rfl (lv_at hl 0 rfl) ?_
      refine g_X5_49 Cx hW (k := 157) (by decide) rfl (v := .ref (G.2.2.1 + 175)) (rf_157_9 iu_52) dX5_reduce_122 ?_
      have lk_55 : u_52.1 165 1 = u_10.1 165 1 := ((fu_52 165 rfl).1 1).trans (((fu_47 165 rfl).1 1).trans (((fu_40 165 rfl).1 1).trans (((fu_34 165 rfl).1 1).trans (((fu_28 165 rfl).1 1).trans ((uF_ne (fun h => absurd h.2 (by decide))).trans ((fu_17 165 rfl).1 1))))))
      have lk_56 : u_52.1 167 1 = u_40.1 167 1 := ((fu_52 167 rfl).1 1).trans ((fu_47 167 rfl).1 1)
      have lk_57 : u_52.1 165 2 = u_10.1 165 2 := ((fu_52 165 rfl).1 2).trans (((fu_47 165 rfl).1 2).trans (((fu_40 165 rfl).1 2).trans (((fu_34 165 rfl).1 2).trans (((fu_28 165 rfl).1 2).trans ((uF_ne (fun h => absurd h.1 (by decide))).trans ((fu_17 165 rfl).1 2))))))
      have lk_58 : u_52.1 167 2 = u_40.1 167 2 := ((fu_52 167 rfl).1 2).trans ((fu_47 167 rfl).1 2)
      refine sBv (sV (As := [.ref (G.2.2.1 + 167), .ref (G.2.2.1 + 173), .ref (G.2.2.1 + 175)]) (rest := []) (k := 165) Cx (s_X0_divide l G u_52 (o := 165) (b := 167) (q := 173) (h := 175) (n := 12) iu_52 rfl rfl rfl rfl (show (165 : Nat) ≠ 167 by decide) (show (165 : Nat) ≠ 173 by decide) (show (165 : Nat) ≠ 175 by decide) (show (167 : Nat) ≠ 173 by decide) (show (167 : Nat) ≠ 175 by decide) (show (173 : Nat) ≠ 175 by decide) (by omega)) (c_X5_137 Cx rfl rfl (rmk_ok (by omega) (by decide))) hW (by decide) rfl rfl rfl hl.1 rfl (Nat.le_of_ble_eq_true rfl) dX5_reduce_125 ⟨Nat.le_of_ble_eq_true rfl, Nat.le_of_ble_eq_true rfl⟩) hL (fun u_59 H locs k_60 hW hL => ?_)
      obtain ⟨iu_59, fu_59, xu_59⟩ := k_60
      have F_61 := F_54.trans (fu_59.to (pD_sub (pB_sub rfl rfl) (pB_sub rfl rfl) (pB_sub rfl rfl)))
      refine lv_aload_n hx hb dX5_reduce_128 rfl (lv_at hl 0 rfl) ?_
      refine g_X5_34 Cx hW (k := 157) (by decide) rfl (v := .ref (G.2.2.1 + 165)) (rf_157_4 iu_59) dX5_reduce_129 ?_
      refine lv_aload_n hx hb dX5_reduce_132 rfl (lv_at hl 0 rfl) ?_
      refine g_X5_46 Cx hW (k := 157) (by decide) rfl (v := .ref (G.2.2.1 + 173)) (rf_157_8 iu_59) dX5_reduce_133 ?_
      have q_62 : 0 ≤ u_59.1 173 1 ∧ u_59.1 173 1 ≤ 32 := iu_59.fi 173 1 0 (by decide) rfl
      have q_63 : (-1) ≤ u_59.1 173 2 ∧ u_59.1 173 2 ≤ 1 := iu_59.fi 173 2 0 (by decide) rfl
      refine sBv (sV (As := [.ref (G.2.2.1 + 173)]) (rest := []) (k := 165) Cx (s_X0_copy l G u_59 (o := 165) (a := 173) iu_59 rfl rfl) (c_X5_141 Cx rfl rfl (rmk_ok (by omega) (by decide))) hW (by decide) rfl rfl rfl hl.1 rfl (Nat.le_of_ble_eq_true rfl) dX5_reduce_136 ⟨Nat.le_of_ble_eq_true rfl, Nat.le_of_ble_eq_true rfl⟩) hL (fun u_64 H locs k_65 hW hL => ?_)
      obtain ⟨iu_64, fu_64, xu_64⟩ := k_65
      have F_66 := F_61.trans (fu_64.to (pB_sub rfl rfl))
      exact sVret Cx hr hlk hW hL ⟨iu_64, F_66⟩ dX5_reduce_139
    · have q_67 : 0 ≤ u_34.1 171 1 ∧ u_34.1 171 1 ≤ 32 := iu_34.fi 171 1 0 (by decide) rfl
      have q_68 : (-1) ≤ u_34.1 171 2 ∧ u_34.1 171 2 ≤ 1 := iu_34.fi 171 2 0 (by decide) rfl
      refine sBv (sV (As := [.ref (G.2.2.1 + 171)]) (rest := []) (k := 167) Cx (s_X0_copy l G u_34 (o := 167) (a := 171) iu_34 rfl rfl) (c_X5_141 Cx rfl rfl (rmk_ok (by omega) (by decide))) hW (by decide) rfl rfl rfl hl.1 rfl (Nat.le_of_ble_eq_true rfl) dX5_reduce_76 ⟨Nat.le_of_ble_eq_true rfl, Nat.le_of_ble_eq_true rfl⟩) hL (fun u_69 H locs k_70 hW hL => ?_)
      obtain ⟨iu_69, fu_69, xu_69⟩ := k_70
      have F_71 := F_37.trans (fu_69.to (pB_sub rfl rfl))
      refine lv_aload_n hx hb dX5_reduce_79 rfl (lv_at hl 0 rfl) ?_
      refine g_X5_30 Cx hW (k := 157) (by decide) rfl (v := .ref (G.2.2.1 + 163)) (rf_157_3 iu_69) dX5_reduce_80 ?_
      refine lv_aload_n hx hb dX5_reduce_83 rfl (lv_at hl 0 rfl) ?_
      refine g_X5_37 Cx hW (k := 157) (by decide) rfl (v := .ref (G.2.2.1 + 167)) (rf_157_5 iu_69) dX5_reduce_84 ?_
      refine lv_aload_n hx hb dX5_reduce_87 rfl (lv_at hl 0 rfl) ?_
      refine g_X5_46 Cx hW (k := 157) (by decide) rfl (v := .ref (G.2.2.1 + 173)) (rf_157_8 iu_69) dX5_reduce_88 ?_
      refine lv_aload_n hx hb dX5_reduce_91 rfl (lv_at hl 0 rfl) ?_
      refine g_X5_49 Cx hW (k := 157) (by decide) rfl (v := .ref (G.2.2.1 + 175)) (rf_157_9 iu_69) dX5_reduce_92 ?_
      have lk_72 : u_69.1 163 1 = S19.1 163 1 := ((fu_69 163 rfl).1 1).trans (((fu_34 163 rfl).1 1).trans (((fu_28 163 rfl).1 1).trans ((uF_ne (fun h => absurd h.2 (by decide))).trans (((fu_17 163 rfl).1 1).trans ((fu_10 163 rfl).1 1)))))
      have q_73 : 0 ≤ u_69.1 167 1 ∧ u_69.1 167 1 ≤ 32 := iu_69.fi 167 1 0 (by decide) rfl
      have lk_74 : u_69.1 163 2 = S19.1 163 2 := ((fu_69 163 rfl).1 2).trans (((fu_34 163 rfl).1 2).trans (((fu_28 163 rfl).1 2).trans ((uF_ne (fun h => absurd h.1 (by decide))).trans (((fu_17 163 rfl).1 2).trans ((fu_10 163 rfl).1 2)))))
      have q_75 : (-1) ≤ u_69.1 167 2 ∧ u_69.1 167 2 ≤ 1 := iu_69.fi 167 2 0 (by decide) rfl
      refine sBv (sV (As := [.ref (G.2.2.1 + 167), .ref (G.2.2.1 + 173), .ref (G.2.2.1 + 175)]) (rest := []) (k := 163) Cx (s_X0_divide l G u_69 (o := 163) (b := 167) (q := 173) (h := 175) (n := 12) iu_69 rfl rfl rfl rfl (show (163 : Nat) ≠ 167 by decide) (show (163 : Nat) ≠ 173 by decide) (show (163 : Nat) ≠ 175 by decide) (show (167 : Nat) ≠ 173 by decide) (show (167 : Nat) ≠ 175 by decide) (show (173 : Nat) ≠ 175 by decide) (by omega)) (c_X5_137 Cx rfl rfl (rmk_ok (by omega) (by decide))) hW (by decide) rfl rfl rfl hl.1 rfl (Nat.le_of_ble_eq_true rfl) dX5_reduce_95 ⟨Nat.le_of_ble_eq_true rfl, Nat.le_of_ble_eq_true rfl⟩) hL (fun u_76 H locs k_77 hW hL => ?_)
      obtain ⟨iu_76, fu_76, xu_76⟩ := k_77
      have F_78 := F_71.trans (fu_76.to (pD_sub (pB_sub rfl rfl) (pB_sub rfl rfl) (pB_sub rfl rfl)))
      refine lv_aload_n hx hb dX5_reduce_98 rfl (lv_at hl 0 rfl) ?_
      refine g_X5_30 Cx hW (k := 157) (by decide) rfl (v := .ref (G.2.2.1 + 163)) (rf_157_3 iu_76) dX5_reduce_99 ?_
      refine lv_aload_n hx hb dX5_reduce_102 rfl (lv_at hl 0 rfl) ?_
      refine g_X5_46 Cx hW (k := 157) (by decide) rfl (v := .ref (G.2.2.1 + 173)) (rf_157_8 iu_76) dX5_reduce_103 ?_
      have q_79 : 0 ≤ u_76.1 173 1 ∧ u_76.1 173 1 ≤ 32 := iu_76.fi 173 1 0 (by decide) rfl
      have q_80 : (-1) ≤ u_76.1 173 2 ∧ u_76.1 173 2 ≤ 1 := iu_76.fi 173 2 0 (by decide) rfl
      refine sBv (sV (As := [.ref (G.2.2.1 + 173)]) (rest := []) (k := 163) Cx (s_X0_copy l G u_76 (o := 163) (a := 173) iu_76 rfl rfl) (c_X5_141 Cx rfl rfl (rmk_ok (by omega) (by decide))) hW (by decide) rfl rfl rfl hl.1 rfl (Nat.le_of_ble_eq_true rfl) dX5_reduce_106 ⟨Nat.le_of_ble_eq_true rfl, Nat.le_of_ble_eq_true rfl⟩) hL (fun u_81 H locs k_82 hW hL => ?_)
      obtain ⟨iu_81, fu_81, xu_81⟩ := k_82
      have F_83 := F_78.trans (fu_81.to (pB_sub rfl rfl))
      refine lv_aload_n hx hb dX5_reduce_109 rfl (lv_at hl 0 rfl) ?_
      refine g_X5_34 Cx hW (k := 157) (by decide) rfl (v := .ref (G.2.2.1 + 165)) (rf_157_4 iu_81) dX5_reduce_110 ?_
      refine lv_aload_n hx hb dX5_reduce_113 rfl (lv_at hl 0 rfl) ?_
      refine g_X5_37 Cx hW (k := 157) (by decide) rfl (v := .ref (G.2.2.1 + 167)) (rf_157_5 iu_81) dX5_reduce_114 ?_
      refine lv_aload_n hx hb dX5_reduce_117 rfl (lv_at hl 0 rfl) ?_
      refine g_X5_46 Cx hW (k := 157) (by decide) rfl (v := .ref (G.2.2.1 + 173)) (rf_157_8 iu_81) dX5_reduce_118 ?_
      refine lv_aload_n hx hb dX5_reduce_121 rfl (lv_at hl 0 rfl) ?_
      refine g_X5_49 Cx hW (k := 157) (by decide) rfl (v := .ref (G.2.2.1 + 175)) (rf_157_9 iu_81) dX5_reduce_122 ?_
      have lk_84 : u_81.1 165 1 = u_10.1 165 1 := ((fu_81 165 rfl).1 1).trans (((fu_76 165 rfl).1 1).trans (((fu_69 165 rfl).1 1).trans (((fu_34 165 rfl).1 1).trans (((fu_28 165 rfl).1 1).trans ((uF_ne (fun h => absurd h.2 (by decide))).trans ((fu_17 165 rfl).1 1))))))
      have lk_85 : u_81.1 167 1 = u_69.1 167 1 := ((fu_81 167 rfl).1 1).trans ((fu_76 167 rfl).1 1)
      have lk_86 : u_81.1 165 2 = u_10.1 165 2 := ((fu_81 165 rfl).1 2).trans (((fu_76 165 rfl).1 2).trans (((fu_69 165 rfl).1 2).trans (((fu_34 165 rfl).1 2).trans (((fu_28 165 rfl).1 2).trans ((uF_ne (fun h => absurd h.1 (by decide))).trans ((fu_17 165 rfl).1 2))))))
      have lk_87 : u_81.1 167 2 = u_69.1 167 2 := ((fu_81 167 rfl).1 2).trans ((fu_76 167 rfl).1 2)
      refine sBv (sV (As := [.ref (G.2.2.1 + 167), .ref (G.2.2.1 + 173), .ref (G.2.2.1 + 175)]) (rest := []) (k := 165) Cx (s_X0_divide l G u_81 (o := 165) (b := 167) (q := 173) (h := 175) (n := 12) iu_81 rfl rfl rfl rfl (show (165 : Nat) ≠ 167 by decide) (show (165 : Nat) ≠ 173 by decide) (show (165 : Nat) ≠ 175 by decide) (show (167 : Nat) ≠ 173 by decide) (show (167 : Nat) ≠ 175 by decide) (show (173 : Nat) ≠ 175 by decide) (by omega)) (c_X5_137 Cx rfl rfl (rmk_ok (by omega) (by decide))) hW (by decide) rfl rfl rfl hl.1 rfl (Nat.le_of_ble_eq_true rfl) dX5_reduce_125 ⟨Nat.le_of_ble_eq_true rfl, Nat.le_of_ble_eq_true rfl⟩) hL (fun u_88 H locs k_89 hW hL => ?_)
      obtain ⟨iu_88, fu_88, xu_88⟩ := k_89
      have F_90 := F_83.trans (fu_88.to (pD_sub (pB_sub rfl rfl) (pB_sub rfl rfl) (pB_sub rfl rfl)))
      refine lv_aload_n hx hb dX5_reduce_128 rfl (lv_at hl 0 rfl) ?_
      refine g_X5_34 Cx hW (k := 157) (by decide) rfl (v := .ref (G.2.2.1 + 165)) (rf_157_4 iu_88) dX5_reduce_129 ?_
      refine lv_aload_n hx hb dX5_reduce_132 rfl (lv_at hl 0 rfl) ?_
      refine g_X5_46 Cx hW (k := 157) (by decide) rfl (v := .ref (G.2.2.1 + 173)) (rf_157_8 iu_88) dX5_reduce_133 ?_
      have q_91 : 0 ≤ u_88.1 173 1 ∧ u_88.1 173 1 ≤ 32 := iu_88.fi 173 1 0 (by decide) rfl
      have q_92 : (-1) ≤ u_88.1 173 2 ∧ u_88.1 173 2 ≤ 1 := iu_88.fi 173 2 0 (by decide) rfl
      refine sBv (sV (As := [.ref (G.2.2.1 + 173)]) (rest := []) (k := 165) Cx (s_X0_copy l G u_88 (o := 165) (a := 173) iu_88 rfl rfl) (c_X5_141 Cx rfl rfl (rmk_ok (by omega) (by decide))) hW (by decide) rfl rfl rfl hl.1 rfl (Nat.le_of_ble_eq_true rfl) dX5_reduce_136 ⟨Nat.le_of_ble_eq_true rfl, Nat.le_of_ble_eq_true rfl⟩) hL (fun u_93 H locs k_94 hW hL => ?_)
      obtain ⟨iu_93, fu_93, xu_93⟩ := k_94
      have F_95 := F_90.trans (fu_93.to (pB_sub rfl rfl))
      exact sVret Cx hr hlk hW hL ⟨iu_93, F_95⟩ dX5_reduce_139
  refine lv_iload_n hx hb dX5_reduce_8 rfl (lv_at hl 3 rfl) ?_
  refine r_if_eq (tgt := 19) hx hb ⟨(by omega), (by omega)⟩ dX5_reduce_9 (by decide) (fun c_96 => ?_) (fun c_96 => ?_)
  · have q_97 : 0 ≤ u_3.1 163 1 ∧ u_3.1 163 1 ≤ 32 := iu_3.fi 163 1 0 (by decide) rfl
    exact join_19 u_3  _ _ _ iu_3 F_5 (Fr.rf : Fr u_3 u_3 (pB 163)) (by omega) hW hL (lv_sub hl [0, 1, 2, 3] rfl)
  · refine lv_aload_n hx hb dX5_reduce_12 rfl (lv_at hl 0 rfl) ?_
    refine g_X5_30 Cx hW (k := 157) (by decide) rfl (v := .ref (G.2.2.1 + 163)) (rf_157_3 iu_3) dX5_reduce_13 ?_
    have q_98 : 0 ≤ u_3.1 163 1 ∧ u_3.1 163 1 ≤ 32 := iu_3.fi 163 1 0 (by decide) rfl
    have q_99 : (-1) ≤ u_3.1 163 2 ∧ u_3.1 163 2 ≤ 1 := iu_3.fi 163 2 0 (by decide) rfl
    refine sBv (sV (As := []) (rest := []) (k := 163) Cx (s_X0_turn l G u_3 (o := 163) iu_3 rfl) (c_X5_144 Cx rfl rfl (rmk_ok (by omega) (by decide))) hW (by decide) rfl rfl rfl hl.1 rfl (Nat.le_of_ble_eq_true rfl) dX5_reduce_16 ⟨Nat.le_of_ble_eq_true rfl, Nat.le_of_ble_eq_true rfl⟩) hL (fun u_100 H locs k_101 hW hL => ?_)
    obtain ⟨iu_100, fu_100, xu_100⟩ := k_101
    have F_102 := F_5.trans (fu_100.to (pB_sub rfl rfl))
    have F_103 := (Fr.rf : Fr u_3 u_3 (pB 163)).trans fu_100
    have q_104 : 0 ≤ u_100.1 163 1 ∧ u_100.1 163 1 ≤ 32 := iu_100.fi 163 1 0 (by decide) rfl
    exact join_19 u_100  _ _ _ iu_100 F_102 F_103 (by omega) hW hL (lv_sub hl [0, 1, 2, 3] rfl)

set_option maxRecDepth 100000 in
set_option maxHeartbeats 4000000 in
theorem s_X5_writePoint (l : Launch) (G : sG) (S : sS) {vs : Int} (hI : cX G S 0 0 0) (hvs : 0 ≤ vs ∧ vs ≤ 12) : Met l yX5_writePoint (.code yX5_writePoint cX5_writePoint 3 none :: tb) (rmk 6 0 0) (sPc G 294 S [.ref (G.2.2.1 + 157), .int (iv vs)]) (sQv G 294 (fun u => cX G u 0 0 0 ∧ Fr S u pN)) 0 0 (sF G) := by
  refine sEnter (by decide) (Nat.le_of_ble_eq_true rfl) ?_
  intro p e s m args below meth c Cx hr hlk hnm hW ls hl
  have Cx : sC G p m c cX5_writePoint 3 s args RX5 := Cx
  obtain ⟨hx, hb, hml, hown, hts⟩ := id Cx.1
  have hL : sL G [] := sL_nil
  have hl : lv_has ls 3 [(0, .ref (G.2.2.1 + 157)), (1, .int (iv vs))] := hl
  have hW0 := hW
  refine lv_aload_n hx hb dX5_writePoint_0 rfl (lv_at hl 0 rfl) ?_
  refine lv_aload_n hx hb dX5_writePoint_1 rfl (lv_at hl 0 rfl) ?_
  refine g_X5_37 Cx hW (k := 157) (by decide) rfl (v := .ref (G.2.2.1 + 167)) (rf_157_5 hI) dX5_writePoint_2 ?_
  refine sBv (sV (As := [.ref (G.2.2.1 + 167)]) (rest := []) (k := 157) Cx (s_X5_pointDenominator l G S (v := 167) hI rfl) (c_X5_170 Cx rfl rfl (rmk_ok (by omega) (by decide))) hW (by decide) rfl rfl rfl hl.1 rfl (Nat.le_of_ble_eq_true rfl) dX5_writePoint_5 ⟨Nat.le_of_ble_eq_true rfl, Nat.le_of_ble_eq_true rfl⟩) hL (fun u_1 H locs k_2 hW hL => ?_)
  obtain ⟨iu_1, fu_1, xu_1⟩ := k_2
  have F_3 := (Fr.rf : Fr S S pN).trans (fu_1.to (pB_sub rfl rfl))
  refine lv_iconst (v := iv 1) hx hb dX5_writePoint_8 (by decide) ?_
  refine lv_istore_n (lv' := [(2, .int (iv 1)), (0, .ref (G.2.2.1 + 157)), (1, .int (iv vs))]) hx hb dX5_writePoint_9 rfl hl (by decide) rfl (fun ls hl => ?_)
  have loop_10 : ∀ (fuel : Nat) (S10 : sS) (j : Int) (H : Heap) (locs : List Loc) (ls : Array Slot), (13 - j).toNat < fuel → (cX G S10 0 0 0) → (Fr S S10 pN) → (Fr u_1 S10 pN) → (1 ≤ j ∧ j ≤ 13) → (S10.1 167 1 ≤ 12) → sW G 294 S10 H → sL G locs → lv_has ls 3 [(2, .int (iv j)), (0, .ref (G.2.2.1 + 157)), (1, .int (iv vs))] → W p l e (rmk 6 0 0) s m args below meth c H locs 0 0 (MQ below (sQv G 294 (fun u => cX G u 0 0 0 ∧ Fr S u pN)) args s 0 0 (sF G)) (F0 m 10 ls []) := by
    intro fuel
    induction fuel with
    | zero => intro S10 j H locs ls hmeas hI10 hFm10 hL10_ hj hd hW hL hl; exact absurd hmeas (Nat.not_lt_zero _)
    | succ fuel ih_10 =>
      intro S10 j H locs ls hmeas hI10 hFm10 hL10_ hj hd hW hL hl
      refine lv_iload_n hx hb dX5_writePoint_10 rfl (lv_at hl 0 rfl) ?_
      refine lv_iload_n hx hb dX5_writePoint_11 rfl (lv_at hl 2 rfl) ?_
      refine r_icmp_gt (tgt := 60) hx hb ⟨(by omega), (by omega)⟩ ⟨(by omega), (by omega)⟩ dX5_writePoint_12 (by decide) (fun c_4 => ?_) (fun c_4 => ?_)
      · refine lv_aload_n hx hb dX5_writePoint_60 rfl (lv_at hl 1 rfl) ?_
        refine g_X5_16 Cx hW (k := 157) (by decide) rfl (v := .ref (G.2.2.1 + 158)) (rf_157_0 hI10) dX5_writePoint_61 ?_
        refine zLdc Cx 9 (by decide) ⟨rfl, rfl⟩ dX5_writePoint_64 ?_
        refine sBv (sV (As := [.ref (G.1.2 100 9)]) (rest := []) (k := 158) Cx (s_X10_word l G S10 (o := 158) (si := 9) (N := 1500) hI10 ⟨by decide, rfl, rfl, rfl, rfl, by decide⟩ (by decide)) (c_X5_95 Cx rfl rfl (rmk_ok (by omega) (by decide))) hW (by decide) rfl rfl rfl hl.1 rfl (Nat.le_of_ble_eq_true rfl) dX5_writePoint_66 ⟨Nat.le_of_ble_eq_true rfl, Nat.le_of_ble_eq_true rfl⟩) hL (fun u_5 H locs k_6 hW hL => ?_)
        obtain ⟨iu_5, fu_5⟩ := k_6
        have F_7 := hFm10.trans (fu_5.to (pB_sub rfl rfl))
        have F_8 := hL10_.trans (fu_5.to (pB_sub rfl rfl))
        refine lv_iconst (v := iv 1) hx hb dX5_writePoint_69 (by decide) ?_
        refine lv_istore_n (lv' := [(2, .int (iv 1)), (0, .ref (G.2.2.1 + 157)), (1, .int (iv vs))]) hx hb dX5_writePoint_70 rfl hl (by decide) rfl (fun ls hl => ?_)
        have loop_71 : ∀ (fuel : Nat) (S71 : sS) (j2 : Int) (H : Heap) (locs : List Loc) (ls : Array Slot), (13 - j2).toNat < fuel → (cX G S71 0 0 0) → (Fr S S71 pN) → (Fr u_1 S71 pN) → (Fr u_5 S71 pN) → (1 ≤ j2 ∧ j2 ≤ 13) → (S71.1 167 1 ≤ 12) → sW G 294 S71 H → sL G locs → lv_has ls 3 [(2, .int (iv j2)), (0, .ref (G.2.2.1 + 157)), (1, .int (iv vs))] → W p l e (rmk 6 0 0) s m args below meth c H locs 0 0 (MQ below (sQv G 294 (fun u => cX G u 0 0 0 ∧ Fr S u pN)) args s 0 0 (sF G)) (F0 m 71 ls []) := by
          intro fuel
          induction fuel with
          | zero => intro S71 j2 H locs ls hmeas hI71 hFm71 hFL1071 hL71_ hj2 hd2 hW hL hl; exact absurd hmeas (Nat.not_lt_zero _)
          | succ fuel ih_71 =>
            intro S71 j2 H locs ls hmeas hI71 hFm71 hFL1071 hL71_ hj2 hd2 hW hL hl
            refine lv_iload_n hx hb dX5_writePoint_71 rfl (lv_at hl 0 rfl) ?_
            refine lv_iload_n hx hb dX5_writePoint_72 rfl (lv_at hl 2 rfl) ?_
            refine r_icmp_gt (tgt := 122) hx hb ⟨(by omega), (by omega)⟩ ⟨(by omega), (by omega)⟩ dX5_writePoint_73 (by decide) (fun c_9 => ?_) (fun c_9 => ?_)
            · refine lv_aload_n hx hb dX5_writePoint_122 rfl (lv_at hl 1 rfl) ?_
              refine g_X5_16 Cx hW (k := 157) (by decide) rfl (v := .ref (G.2.2.1 + 158)) (rf_157_0 hI71) dX5_writePoint_123 ?_
              refine zLdc Cx 8 (by decide) ⟨rfl, rfl⟩ dX5_writePoint_126 ?_
              refine sBv (sV (As := [.ref (G.1.2 100 8)]) (rest := []) (k := 158) Cx (s_X10_word l G S71 (o := 158) (si := 8) (N := 1500) hI71 ⟨by decide, rfl, rfl, rfl, rfl, by decide⟩ (by decide)) (c_X5_95 Cx rfl rfl (rmk_ok (by omega) (by decide))) hW (by decide) rfl rfl rfl hl.1 rfl (Nat.le_of_ble_eq_true rfl) dX5_writePoint_128 ⟨Nat.le_of_ble_eq_true rfl, Nat.le_of_ble_eq_true rfl⟩) hL (fun u_10 H locs k_11 hW hL => ?_)
              obtain ⟨iu_10, fu_10⟩ := k_11
              have F_12 := hFm71.trans (fu_10.to (pB_sub rfl rfl))
              have F_13 := hFL1071.trans (fu_10.to (pB_sub rfl rfl))
              have F_14 := hL71_.trans (fu_10.to (pB_sub rfl rfl))
              refine lv_aload_n hx hb dX5_writePoint_131 rfl (lv_at hl 1 rfl) ?_
              refine lv_aload_n hx hb dX5_writePoint_132 rfl (lv_at hl 1 rfl) ?_
              refine g_X5_40 Cx hW (k := 157) (by decide) rfl (v := .ref (G.2.2.1 + 169)) (rf_157_6 iu_10) dX5_writePoint_133 ?_
              refine sBv (sV (As := [.ref (G.2.2.1 + 169)]) (rest := []) (k := 157) Cx (s_X5_pointDenominator l G u_10 (v := 169) iu_10 rfl) (c_X5_170 Cx rfl rfl (rmk_ok (by omega) (by decide))) hW (by decide) rfl rfl rfl hl.1 rfl (Nat.le_of_ble_eq_true rfl) dX5_writePoint_136 ⟨Nat.le_of_ble_eq_true rfl, Nat.le_of_ble_eq_true rfl⟩) hL (fun u_15 H locs k_16 hW hL => ?_)
              obtain ⟨iu_15, fu_15, xu_15⟩ := k_16
              have F_17 := F_12.trans (fu_15.to (pB_sub rfl rfl))
              have F_18 := F_13.trans (fu_15.to (pB_sub rfl rfl))
              have F_19 := F_14.trans (fu_15.to (pB_sub rfl rfl))
              refine lv_aload_n hx hb dX5_writePoint_139 rfl (lv_at hl 1 rfl) ?_
              refine g_X5_40 Cx hW (k := 157) (by decide) rfl (v := .ref (G.2.2.1 + 169)) (rf_157_6 iu_15) dX5_writePoint_140 ?_
              refine lv_aload_n hx hb dX5_writePoint_143 rfl (lv_at hl 1 rfl) ?_
              refine g_X5_37 Cx hW (k := 157) (by decide) rfl (v := .ref (G.2.2.1 + 167)) (rf_157_5 iu_15) dX5_writePoint_144 ?_
              refine lv_aload_n hx hb dX5_writePoint_147 rfl (lv_at hl 1 rfl) ?_
              refine g_X5_46 Cx hW (k := 157) (by decide) rfl (v := .ref (G.2.2.1 + 173)) (rf_157_8 iu_15) dX5_writePoint_148 ?_
              refine lv_aload_n hx hb dX5_writePoint_151 rfl (lv_at hl 1 rfl) ?_
              refine g_X5_49 Cx hW (k := 157) (by decide) rfl (v := .ref (G.2.2.1 + 175)) (rf_157_9 iu_15) dX5_writePoint_152 ?_
              have q_20 : 0 ≤ u_15.1 169 1 ∧ u_15.1 169 1 ≤ 32 := iu_15.fi 169 1 0 (by decide) rfl
              have q_21 : 0 ≤ S71.1 167 1 ∧ S71.1 167 1 ≤ 32 := hI71.fi 167 1 0 (by decide) rfl
              have lk_22 : u_15.1 167 1 = S71.1 167 1 := ((fu_15 167 rfl).1 1).trans ((fu_10 167 rfl).1 1)
              have q_23 : (-1) ≤ u_15.1 169 2 ∧ u_15.1 169 2 ≤ 1 := iu_15.fi 169 2 0 (by decide) rfl
              have q_24 : (-1) ≤ S71.1 167 2 ∧ S71.1 167 2 ≤ 1 := hI71.fi 167 2 0 (by decide) rfl
              have lk_25 : u_15.1 167 2 = S71.1 167 2 := ((fu_15 167 rfl).1 2).trans ((fu_10 167 rfl).1 2)
              refine sBv (sV (As := [.ref (G.2.2.1 + 167), .ref (G.2.2.1 + 173), .ref (G.2.2.1 + 175)]) (rest := []) (k := 169) Cx (s_X0_divide l G u_15 (o := 169) (b := 167) (q := 173) (h := 175) (n := 12) iu_15 rfl rfl rfl rfl (show (169 : Nat) ≠ 167 by decide) (show (169 : Nat) ≠ 173 by decide) (show (169 : Nat) ≠ 175 by decide) (show (167 : Nat) ≠ 173 by decide) (show (167 : Nat) ≠ 175 by decide) (show (173 : Nat) ≠ 175 by decide) (by omega)) (c_X5_137 Cx rfl rfl (rmk_ok (by omega) (by decide))) hW (by decide) rfl rfl rfl hl.1 rfl (Nat.le_of_ble_eq_true rfl) dX5_writePoint_155 ⟨Nat.le_of_ble_eq_true rfl, Nat.le_of_ble_eq_true rfl⟩) hL (fun u_26 H locs k_27 hW hL => ?_)
              obtain ⟨iu_26, fu_26, xu_26⟩ := k_27
              have F_28 := F_17.trans (fu_26.to (pD_sub (pB_sub rfl rfl) (pB_sub rfl rfl) (pB_sub rfl rfl)))
              have F_29 := F_18.trans (fu_26.to (pD_sub (pB_sub rfl rfl) (pB_sub rfl rfl) (pB_sub rfl rfl)))
              have F_30 := F_19.trans (fu_26.to (pD_sub (pB_sub rfl rfl) (pB_sub rfl rfl) (pB_sub rfl rfl)))
              refine lv_aload_n hx hb dX5_writePoint_158 rfl (lv_at hl 1 rfl) ?_
              refine g_X5_16 Cx hW (k := 157) (by decide) rfl (v := .ref (G.2.2.1 + 158)) (rf_157_0 iu_26) dX5_writePoint_159 ?_
              refine lv_aload_n hx hb dX5_writePoint_162 rfl (lv_at hl 1 rfl) ?_
              refine g_X5_46 Cx hW (k := 157) (by decide) rfl (v := .ref (G.2.2.1 + 173)) (rf_157_8 iu_26) dX5_writePoint_163 ?_
              refine lv_iconst (v := iv 1) hx hb dX5_writePoint_166 (by decide) ?_
              refine sBv (sV (As := [.ref (G.2.2.1 + 173), .int (iv 1)]) (rest := []) (k := 158) Cx (s_X10_number l G u_26 (o := 158) (v := 173) (ap := 1) (N := 1500) iu_26 ⟨by decide, rfl, rfl, rfl, rfl, by decide⟩ rfl (by omega)) (c_X5_99 Cx rfl rfl (rmk_ok (by omega) (by decide))) hW (by decide) rfl rfl rfl hl.1 rfl (Nat.le_of_ble_eq_true rfl) dX5_writePoint_167 ⟨Nat.le_of_ble_eq_true rfl, Nat.le_of_ble_eq_true rfl⟩) hL (fun u_31 H locs k_32 hW hL => ?_)
              obtain ⟨iu_31, fu_31⟩ := k_32
              have F_33 := F_28.trans (fu_31.to (pB_sub rfl rfl))
              have F_34 := F_29.trans (fu_31.to (pB_sub rfl rfl))
              have F_35 := F_30.trans (fu_31.to (pB_sub rfl rfl))
              exact sVret Cx hr hlk hW hL ⟨iu_31, F_33⟩ dX5_writePoint_170
            · refine lv_aload_n hx hb dX5_writePoint_76 rfl (lv_at hl 1 rfl) ?_
              refine lv_iload_n hx hb dX5_writePoint_77 rfl (lv_at hl 0 rfl) ?_
              refine lv_aload_n hx hb dX5_writePoint_78 rfl (lv_at hl 1 rfl) ?_
              refine g_X5_40 Cx hW (k := 157) (by decide) rfl (v := .ref (G.2.2.1 + 169)) (rf_157_6 hI71) dX5_writePoint_79 ?_
              refine sBv (sV (As := [.int (iv j2), .ref (G.2.2.1 + 169)]) (rest := []) (k := 157) Cx (s_X5_pointNumber l G S71 (j := j2) (v := 169) hI71 rfl (by omega)) (c_X5_173 Cx rfl rfl (rmk_ok (by omega) (by decide))) hW (by decide) rfl rfl rfl hl.1 rfl (Nat.le_of_ble_eq_true rfl) dX5_writePoint_82 ⟨Nat.le_of_ble_eq_true rfl, Nat.le_of_ble_eq_true rfl⟩) hL (fun u_36 H locs k_37 hW hL => ?_)
              obtain ⟨iu_36, fu_36, xu_36⟩ := k_37
              have F_38 := hFm71.trans (fu_36.to (pB_sub rfl rfl))
              have F_39 := hFL1071.trans (fu_36.to (pB_sub rfl rfl))
              have F_40 := hL71_.trans (fu_36.to (pB_sub rfl rfl))
              refine lv_aload_n hx hb dX5_writePoint_85 rfl (lv_at hl 1 rfl) ?_
              refine g_X5_40 Cx hW (k := 157) (by decide) rfl (v := .ref (G.2.2.1 + 169)) (rf_157_6 iu_36) dX5_writePoint_86 ?_
              refine lv_aload_n hx hb dX5_writePoint_89 rfl (lv_at hl 1 rfl) ?_
              refine g_X5_37 Cx hW (k := 157) (by decide) rfl (v := .ref (G.2.2.1 + 167)) (rf_157_5 iu_36) dX5_writePoint_90 ?_
              refine lv_aload_n hx hb dX5_writePoint_93 rfl (lv_at hl 1 rfl) ?_
              refine g_X5_46 Cx hW (k := 157) (by decide) rfl (v := .ref (G.2.2.1 + 173)) (rf_157_8 iu_36) dX5_writePoint_94 ?_
              refine lv_aload_n hx hb dX5_writePoint_97 rfl (lv_at hl 1 rfl) ?_
              refine g_X5_49 Cx hW (k := 157) (by decide) rfl (v := .ref (G.2.2.1 + 175)) (rf_157_9 iu_36) dX5_writePoint_98 ?_
              have q_41 : 0 ≤ u_36.1 169 1 ∧ u_36.1 169 1 ≤ 32 := iu_36.fi 169 1 0 (by decide) rfl
              have q_42 : 0 ≤ S71.1 167 1 ∧ S71.1 167 1 ≤ 32 := hI71.fi 167 1 0 (by decide) rfl
              have lk_43 : u_36.1 167 1 = S71.1 167 1 := (fu_36 167 rfl).1 1
              have q_44 : (-1) ≤ u_36.1 169 2 ∧ u_36.1 169 2 ≤ 1 := iu_36.fi 169 2 0 (by decide) rfl
              have q_45 : (-1) ≤ S71.1 167 2 ∧ S71.1 167 2 ≤ 1 := hI71.fi 167 2 0 (by decide) rfl
              have lk_46 : u_36.1 167 2 = S71.1 167 2 := (fu_36 167 rfl).1 2
              refine sBv (sV (As := [.ref (G.2.2.1 + 167), .ref (G.2.2.1 + 173), .ref (G.2.2.1 + 175)]) (rest := []) (k := 169) Cx (s_X0_divide l G u_36 (o := 169) (b := 167) (q := 173) (h := 175) (n := 12) iu_36 rfl rfl rfl rfl (show (169 : Nat) ≠ 167 by decide) (show (169 : Nat) ≠ 173 by decide) (show (169 : Nat) ≠ 175 by decide) (show (167 : Nat) ≠ 173 by decide) (show (167 : Nat) ≠ 175 by decide) (show (173 : Nat) ≠ 175 by decide) (by omega)) (c_X5_137 Cx rfl rfl (rmk_ok (by omega) (by decide))) hW (by decide) rfl rfl rfl hl.1 rfl (Nat.le_of_ble_eq_true rfl) dX5_writePoint_101 ⟨Nat.le_of_ble_eq_true rfl, Nat.le_of_ble_eq_true rfl⟩) hL (fun u_47 H locs k_48 hW hL => ?_)
              obtain ⟨iu_47, fu_47, xu_47⟩ := k_48
              have F_49 := F_38.trans (fu_47.to (pD_sub (pB_sub rfl rfl) (pB_sub rfl rfl) (pB_sub rfl rfl)))
              have F_50 := F_39.trans (fu_47.to (pD_sub (pB_sub rfl rfl) (pB_sub rfl rfl) (pB_sub rfl rfl)))
              have F_51 := F_40.trans (fu_47.to (pD_sub (pB_sub rfl rfl) (pB_sub rfl rfl) (pB_sub rfl rfl)))
              refine lv_aload_n hx hb dX5_writePoint_104 rfl (lv_at hl 1 rfl) ?_
              refine g_X5_16 Cx hW (k := 157) (by decide) rfl (v := .ref (G.2.2.1 + 158)) (rf_157_0 iu_47) dX5_writePoint_105 ?_
              refine lv_aload_n hx hb dX5_writePoint_108 rfl (lv_at hl 1 rfl) ?_
              refine g_X5_46 Cx hW (k := 157) (by decide) rfl (v := .ref (G.2.2.1 + 173)) (rf_157_8 iu_47) dX5_writePoint_109 ?_
              refine lv_iconst (v := iv 1) hx hb dX5_writePoint_112 (by decide) ?_
              refine sBv (sV (As := [.ref (G.2.2.1 + 173), .int (iv 1)]) (rest := []) (k := 158) Cx (s_X10_number l G u_47 (o := 158) (v := 173) (ap := 1) (N := 1500) iu_47 ⟨by decide, rfl, rfl, rfl, rfl, by decide⟩ rfl (by omega)) (c_X5_99 Cx rfl rfl (rmk_ok (by omega) (by decide))) hW (by decide) rfl rfl rfl hl.1 rfl (Nat.le_of_ble_eq_true rfl) dX5_writePoint_113 ⟨Nat.le_of_ble_eq_true rfl, Nat.le_of_ble_eq_true rfl⟩) hL (fun u_52 H locs k_53 hW hL => ?_)
              obtain ⟨iu_52, fu_52⟩ := k_53
              have F_54 := F_49.trans (fu_52.to (pB_sub rfl rfl))
              have F_55 := F_50.trans (fu_52.to (pB_sub rfl rfl))
              have F_56 := F_51.trans (fu_52.to (pB_sub rfl rfl))
              refine lv_iinc (v := iv (j2 + 1)) (lv' := [(2, .int (iv (j2 + 1))), (0, .ref (G.2.2.1 + 157)), (1, .int (iv vs))]) hx hb dX5_writePoint_116 hl (k := 0) rfl ((Int32.ofInt_add _ _).symm) (by decide) rfl (fun ls hl => ?_)
              refine lv_goto (tgt := 71) hx hb dX5_writePoint_119 (by decide) ?_
              have lk_57 : u_52.1 167 1 = S71.1 167 1 := ((fu_52 167 rfl).1 1).trans (((fu_47 167 rfl).1 1).trans ((fu_36 167 rfl).1 1))
              exact ih_71 u_52 (j2 + 1) _ _ _ (by omega) iu_52 F_54 F_55 F_56 (by omega) (by omega) hW hL (lv_sub hl [0, 1, 2] rfl)
        have q_58 : 0 ≤ S10.1 167 1 ∧ S10.1 167 1 ≤ 32 := hI10.fi 167 1 0 (by decide) rfl
        have lk_59 : u_5.1 167 1 = S10.1 167 1 := (fu_5 167 rfl).1 1
        exact loop_71 (_ + 1) u_5 1 _ _ _ (Nat.lt_succ_self _) iu_5 F_7 F_8 Fr.rf (by omega) (by omega) hW hL (lv_sub hl [0, 1, 2] rfl)
      · refine lv_aload_n hx hb dX5_writePoint_15 rfl (lv_at hl 1 rfl) ?_
        refine g_X5_40 Cx hW (k := 157) (by decide) rfl (v := .ref (G.2.2.1 + 169)) (rf_157_6 hI10) dX5_writePoint_16 ?_
        refine lv_aload_n hx hb dX5_writePoint_19 rfl (lv_at hl 1 rfl) ?_
        refine g_X5_37 Cx hW (k := 157) (by decide) rfl (v := .ref (G.2.2.1 + 167)) (rf_157_5 hI10) dX5_writePoint_20 ?_
        have q_60 : 0 ≤ S10.1 167 1 ∧ S10.1 167 1 ≤ 32 := hI10.fi 167 1 0 (by decide) rfl
        have q_61 : (-1) ≤ S10.1 167 2 ∧ S10.1 167 2 ≤ 1 := hI10.fi 167 2 0 (by decide) rfl
        refine sBv (sV (As := [.ref (G.2.2.1 + 167)]) (rest := []) (k := 169) Cx (s_X0_copy l G S10 (o := 169) (a := 167) hI10 rfl rfl) (c_X5_141 Cx rfl rfl (rmk_ok (by omega) (by decide))) hW (by decide) rfl rfl rfl hl.1 rfl (Nat.le_of_ble_eq_true rfl) dX5_writePoint_23 ⟨Nat.le_of_ble_eq_true rfl, Nat.le_of_ble_eq_true rfl⟩) hL (fun u_62 H locs k_63 hW hL => ?_)
        obtain ⟨iu_62, fu_62, xu_62⟩ := k_63
        have F_64 := hFm10.trans (fu_62.to (pB_sub rfl rfl))
        have F_65 := hL10_.trans (fu_62.to (pB_sub rfl rfl))
        refine lv_aload_n hx hb dX5_writePoint_26 rfl (lv_at hl 1 rfl) ?_
        refine lv_iload_n hx hb dX5_writePoint_27 rfl (lv_at hl 0 rfl) ?_
        refine lv_aload_n hx hb dX5_writePoint_28 rfl (lv_at hl 1 rfl) ?_
        refine g_X5_43 Cx hW (k := 157) (by decide) rfl (v := .ref (G.2.2.1 + 171)) (rf_157_7 iu_62) dX5_writePoint_29 ?_
        refine sBv (sV (As := [.int (iv j), .ref (G.2.2.1 + 171)]) (rest := []) (k := 157) Cx (s_X5_pointNumber l G u_62 (j := j) (v := 171) iu_62 rfl (by omega)) (c_X5_173 Cx rfl rfl (rmk_ok (by omega) (by decide))) hW (by decide) rfl rfl rfl hl.1 rfl (Nat.le_of_ble_eq_true rfl) dX5_writePoint_32 ⟨Nat.le_of_ble_eq_true rfl, Nat.le_of_ble_eq_true rfl⟩) hL (fun u_66 H locs k_67 hW hL => ?_)
        obtain ⟨iu_66, fu_66, xu_66⟩ := k_67
        have F_68 := F_64.trans (fu_66.to (pB_sub rfl rfl))
        have F_69 := F_65.trans (fu_66.to (pB_sub rfl rfl))
        refine lv_aload_n hx hb dX5_writePoint_35 rfl (lv_at hl 1 rfl) ?_
        refine g_X5_37 Cx hW (k := 157) (by decide) rfl (v := .ref (G.2.2.1 + 167)) (rf_157_5 iu_66) dX5_writePoint_36 ?_
        refine lv_aload_n hx hb dX5_writePoint_39 rfl (lv_at hl 1 rfl) ?_
        refine lv_aload_n hx hb dX5_writePoint_40 rfl (lv_at hl 1 rfl) ?_
        refine g_X5_40 Cx hW (k := 157) (by decide) rfl (v := .ref (G.2.2.1 + 169)) (rf_157_6 iu_66) dX5_writePoint_41 ?_
        refine lv_aload_n hx hb dX5_writePoint_44 rfl (lv_at hl 1 rfl) ?_
        refine g_X5_43 Cx hW (k := 157) (by decide) rfl (v := .ref (G.2.2.1 + 171)) (rf_157_7 iu_66) dX5_writePoint_45 ?_
        have q_70 : 0 ≤ u_62.1 169 1 ∧ u_62.1 169 1 ≤ 32 := iu_62.fi 169 1 0 (by decide) rfl
        have lk_71 : u_66.1 169 1 = u_62.1 169 1 := (fu_66 169 rfl).1 1
        have q_72 : 0 ≤ u_66.1 171 1 ∧ u_66.1 171 1 ≤ 32 := iu_66.fi 171 1 0 (by decide) rfl
        refine sBr (sV (As := [.ref (G.2.2.1 + 169), .ref (G.2.2.1 + 171)]) (rest := [.ref (G.2.2.1 + 167)]) (k := 157) Cx (s_X5_common l G u_66  iu_66 (by omega)) (c_X5_152 Cx rfl rfl (rmk_ok (by omega) (by decide))) hW (by decide) rfl rfl rfl hl.1 rfl (Nat.le_of_ble_eq_true rfl) dX5_writePoint_48 ⟨Nat.le_of_ble_eq_true rfl, Nat.le_of_ble_eq_true rfl⟩) hL (fun r_75 u_73 H locs k_74 hW hL => ?_)
        obtain ⟨iu_73, fu_73, xu_73⟩ := k_74
        have F_76 := F_68.trans (fu_73.to pP_N)
        have F_77 := F_69.trans (fu_73.to pP_N)
        rcases xu_73.1 with rfl | rfl
        · have q_78 : 0 ≤ u_73.1 169 1 ∧ u_73.1 169 1 ≤ 32 := iu_73.fi 169 1 0 (by decide) rfl
          have q_79 : (-1) ≤ u_73.1 169 2 ∧ u_73.1 169 2 ≤ 1 := iu_73.fi 169 2 0 (by decide) rfl
          refine sBv (sV (As := [.ref (G.2.2.1 + 169)]) (rest := []) (k := 167) Cx (s_X0_copy l G u_73 (o := 167) (a := 169) iu_73 rfl rfl) (c_X5_141 Cx rfl rfl (rmk_ok (by omega) (by decide))) hW (by decide) rfl rfl rfl hl.1 rfl (Nat.le_of_ble_eq_true rfl) dX5_writePoint_51 ⟨Nat.le_of_ble_eq_true rfl, Nat.le_of_ble_eq_true rfl⟩) hL (fun u_80 H locs k_81 hW hL => ?_)
          obtain ⟨iu_80, fu_80, xu_80⟩ := k_81
          have F_82 := F_76.trans (fu_80.to (pB_sub rfl rfl))
          have F_83 := F_77.trans (fu_80.to (pB_sub rfl rfl))
          refine lv_iinc (v := iv (j + 1)) (lv' := [(2, .int (iv (j + 1))), (0, .ref (G.2.2.1 + 157)), (1, .int (iv vs))]) hx hb dX5_writePoint_54 hl (k := 0) rfl ((Int32.ofInt_add _ _).symm) (by decide) rfl (fun ls hl => ?_)
          refine lv_goto (tgt := 10) hx hb dX5_writePoint_57 (by decide) ?_
          have q_84 : 0 ≤ u_80.1 167 1 ∧ u_80.1 167 1 ≤ 32 := iu_80.fi 167 1 0 (by decide) rfl
          exact ih_10 u_80 (j + 1) _ _ _ (by omega) iu_80 F_82 F_83 (by omega) (by omega) hW hL (lv_sub hl [0, 1, 2] rfl)
        · have q_85 : 0 ≤ u_73.1 171 1 ∧ u_73.1 171 1 ≤ 32 := iu_73.fi 171 1 0 (by decide) rfl
          have q_86 : (-1) ≤ u_73.1 171 2 ∧ u_73.1 171 2 ≤ 1 := iu_73.fi 171 2 0 (by decide) rfl
          refine sBv (sV (As := [.ref (G.2.2.1 + 171)]) (rest := []) (k := 167) Cx (s_X0_copy l G u_73 (o := 167) (a := 171) iu_73 rfl rfl) (c_X5_141 Cx rfl rfl (rmk_ok (by omega) (by decide))) hW (by decide) rfl rfl rfl hl.1 rfl (Nat.le_of_ble_eq_true rfl) dX5_writePoint_51 ⟨Nat.le_of_ble_eq_true rfl, Nat.le_of_ble_eq_true rfl⟩) hL (fun u_87 H locs k_88 hW hL => ?_)
          obtain ⟨iu_87, fu_87, xu_87⟩ := k_88
          have F_89 := F_76.trans (fu_87.to (pB_sub rfl rfl))
          have F_90 := F_77.trans (fu_87.to (pB_sub rfl rfl))
          refine lv_iinc (v := iv (j + 1)) (lv' := [(2, .int (iv (j + 1))), (0, .ref (G.2.2.1 + 157)), (1, .int (iv vs))]) hx hb dX5_writePoint_54 hl (k := 0) rfl ((Int32.ofInt_add _ _).symm) (by decide) rfl (fun ls hl => ?_)
          refine lv_goto (tgt := 10) hx hb dX5_writePoint_57 (by decide) ?_
          have q_91 : 0 ≤ u_87.1 167 1 ∧ u_87.1 167 1 ≤ 32 := iu_87.fi 167 1 0 (by decide) rfl
          exact ih_10 u_87 (j + 1) _ _ _ (by omega) iu_87 F_89 F_90 (by omega) (by omega) hW hL (lv_sub hl [0, 1, 2] rfl)
  have q_92 : 0 ≤ u_1.1 167 1 ∧ u_1.1 167 1 ≤ 32 := iu_1.fi 167 1 0 (by decide) rfl
  exact loop_10 (_ + 1) u_1 1 _ _ _ (Nat.lt_succ_self _) iu_1 F_3 Fr.rf (by omega) (by omega) hW hL (lv_sub hl [0, 1, 2] rfl)

set_option maxRecDepth 100000 in
set_option maxHeartbeats 4000000 in
theorem s_X5_proveOptimal (l : Launch) (G : sG) (S : sS) {md : Nat} (hI : cX G S 0 0 0) (hm2 : mdl md) : Met l yX5_proveOptimal (.code yX5_proveOptimal cX5_proveOptimal 2 none :: tb) (rmk 7 0 0) (sPc G 294 S [.ref (G.2.2.1 + 157), .ref (G.2.2.1 + md)]) (sQv G 294 (fun u => cX G u 0 0 0 ∧ Fr S u pN)) 0 0 (sF G) := by
  refine sEnter (by decide) (Nat.le_of_ble_eq_true rfl) ?_
  intro p e s m args below meth c Cx hr hlk hnm hW ls hl
  have Cx : sC G p m c cX5_proveOptimal 2 s args RX5 := Cx
  obtain ⟨hx, hb, hml, hown, hts⟩ := id Cx.1
  have hL : sL G [] := sL_nil
  have hl : lv_has ls 2 [(0, .ref (G.2.2.1 + 157)), (1, .ref (G.2.2.1 + md))] := hl
  have hW0 := hW
  refine lv_aload_n hx hb dX5_proveOptimal_0 rfl (lv_at hl 0 rfl) ?_
  refine g_X5_16 Cx hW (k := 157) (by decide) rfl (v := .ref (G.2.2.1 + 158)) (rf_157_0 hI) dX5_proveOptimal_1 ?_
  refine sBv (sV (As := []) (rest := []) (k := 158) Cx (s_X10_clear l G S (o := 158) (N := 1500) hI ⟨by decide, rfl, rfl, rfl, rfl, by decide⟩) (c_X5_52 Cx rfl rfl (rmk_ok (by omega) (by decide))) hW (by decide) rfl rfl rfl hl.1 rfl (Nat.le_of_ble_eq_true rfl) dX5_proveOptimal_4 ⟨Nat.le_of_ble_eq_true rfl, Nat.le_of_ble_eq_true rfl⟩) hL (fun u_1 H locs k_2 hW hL => ?_)
  obtain ⟨iu_1, fu_1, xu_1⟩ := k_2
  have F_3 := (Fr.rf : Fr S S pN).trans (fu_1.to (pB_sub rfl rfl))
  refine lv_aload_n hx hb dX5_proveOptimal_7 rfl (lv_at hl 0 rfl) ?_
  refine g_X5_16 Cx hW (k := 157) (by decide) rfl (v := .ref (G.2.2.1 + 158)) (rf_157_0 iu_1) dX5_proveOptimal_8 ?_
  refine zLdc Cx 7 (by decide) ⟨rfl, rfl⟩ dX5_proveOptimal_11 ?_
  refine sBv (sV (As := [.ref (G.1.2 100 7)]) (rest := []) (k := 158) Cx (s_X10_word l G u_1 (o := 158) (si := 7) (N := 1500) iu_1 ⟨by decide, rfl, rfl, rfl, rfl, by decide⟩ (by decide)) (c_X5_95 Cx rfl rfl (rmk_ok (by omega) (by decide))) hW (by decide) rfl rfl rfl hl.1 rfl (Nat.le_of_ble_eq_true rfl) dX5_proveOptimal_13 ⟨Nat.le_of_ble_eq_true rfl, Nat.le_of_ble_eq_true rfl⟩) hL (fun u_4 H locs k_5 hW hL => ?_)
  obtain ⟨iu_4, fu_4⟩ := k_5
  have F_6 := F_3.trans (fu_4.to (pB_sub rfl rfl))
  refine lv_aload_n hx hb dX5_proveOptimal_16 rfl (lv_at hl 0 rfl) ?_
  refine lv_iconst (v := iv 0) hx hb dX5_proveOptimal_17 (by decide) ?_
  refine lv_aload_n hx hb dX5_proveOptimal_18 rfl (lv_at hl 0 rfl) ?_
  refine g_X5_30 Cx hW (k := 157) (by decide) rfl (v := .ref (G.2.2.1 + 163)) (rf_157_3 iu_4) dX5_proveOptimal_19 ?_
  refine sBv (sV (As := [.int (iv 0), .ref (G.2.2.1 + 163)]) (rest := []) (k := 157) Cx (s_X5_pointNumber l G u_4 (j := 0) (v := 163) iu_4 rfl (by omega)) (c_X5_173 Cx rfl rfl (rmk_ok (by omega) (by decide))) hW (by decide) rfl rfl rfl hl.1 rfl (Nat.le_of_ble_eq_true rfl) dX5_proveOptimal_22 ⟨Nat.le_of_ble_eq_true rfl, Nat.le_of_ble_eq_true rfl⟩) hL (fun u_7 H locs k_8 hW hL => ?_)
  obtain ⟨iu_7, fu_7, xu_7⟩ := k_8
  have F_9 := F_6.trans (fu_7.to (pB_sub rfl rfl))
  refine lv_aload_n hx hb dX5_proveOptimal_25 rfl (lv_at hl 0 rfl) ?_
  refine lv_aload_n hx hb dX5_proveOptimal_26 rfl (lv_at hl 0 rfl) ?_
  refine g_X5_34 Cx hW (k := 157) (by decide) rfl (v := .ref (G.2.2.1 + 165)) (rf_157_4 iu_7) dX5_proveOptimal_27 ?_
  refine sBv (sV (As := [.ref (G.2.2.1 + 165)]) (rest := []) (k := 157) Cx (s_X5_pointDenominator l G u_7 (v := 165) iu_7 rfl) (c_X5_170 Cx rfl rfl (rmk_ok (by omega) (by decide))) hW (by decide) rfl rfl rfl hl.1 rfl (Nat.le_of_ble_eq_true rfl) dX5_proveOptimal_30 ⟨Nat.le_of_ble_eq_true rfl, Nat.le_of_ble_eq_true rfl⟩) hL (fun u_10 H locs k_11 hW hL => ?_)
  obtain ⟨iu_10, fu_10, xu_10⟩ := k_11
  have F_12 := F_9.trans (fu_10.to (pB_sub rfl rfl))
  refine lv_aload_n hx hb dX5_proveOptimal_33 rfl (lv_at hl 0 rfl) ?_
  refine lv_aload_n hx hb dX5_proveOptimal_34 rfl (lv_at hl 0 rfl) ?_
  refine g_X5_30 Cx hW (k := 157) (by decide) rfl (v := .ref (G.2.2.1 + 163)) (rf_157_3 iu_10) dX5_proveOptimal_35 ?_
  refine lv_aload_n hx hb dX5_proveOptimal_38 rfl (lv_at hl 0 rfl) ?_
  refine g_X5_34 Cx hW (k := 157) (by decide) rfl (v := .ref (G.2.2.1 + 165)) (rf_157_4 iu_10) dX5_proveOptimal_39 ?_
  have join_54 : ∀ (tn : Int) (H : Heap) (locs : List Loc) (ls : Array Slot), (0 ≤ tn ∧ tn ≤ 1) → sW G 294 u_10 H → sL G locs → lv_has ls 2 [(0, .ref (G.2.2.1 + 157)), (1, .ref (G.2.2.1 + md))] → W p l e (rmk 7 0 0) s m args below meth c H locs 0 0 (MQ below (sQv G 294 (fun u => cX G u 0 0 0 ∧ Fr S u pN)) args s 0 0 (sF G)) (F0 m 54 ls [.int (iv tn), .ref (G.2.2.1 + 165), .ref (G.2.2.1 + 163), .ref (G.2.2.1 + 157)]) := by
    intro tn H locs ls htn hW hL hl
    have q_13 : 0 ≤ u_7.1 163 1 ∧ u_7.1 163 1 ≤ 32 := iu_7.fi 163 1 0 (by decide) rfl
    have lk_14 : u_10.1 163 1 = u_7.1 163 1 := (fu_10 163 rfl).1 1
    have q_15 : 0 ≤ u_10.1 165 1 ∧ u_10.1 165 1 ≤ 32 := iu_10.fi 165 1 0 (by decide) rfl
    refine sBv (sV (As := [.ref (G.2.2.1 + 163), .ref (G.2.2.1 + 165), .int (iv tn)]) (rest := []) (k := 157) Cx (s_X5_reduce_163 l G u_10 (tn := tn) iu_10 (by omega) (by omega)) (c_X5_156 Cx rfl rfl (rmk_ok (by omega) (by decide))) hW (by decide) rfl rfl rfl hl.1 rfl (Nat.le_of_ble_eq_true rfl) dX5_proveOptimal_54 ⟨Nat.le_of_ble_eq_true rfl, Nat.le_of_ble_eq_true rfl⟩) hL (fun u_16 H locs k_17 hW hL => ?_)
    obtain ⟨iu_16, fu_16⟩ := k_17
    have F_18 := F_12.trans fu_16
    refine lv_aload_n hx hb dX5_proveOptimal_57 rfl (lv_at hl 0 rfl) ?_
    refine g_X5_16 Cx hW (k := 157) (by decide) rfl (v := .ref (G.2.2.1 + 158)) (rf_157_0 iu_16) dX5_proveOptimal_58 ?_
    refine lv_aload_n hx hb dX5_proveOptimal_61 rfl (lv_at hl 0 rfl) ?_
    refine g_X5_30 Cx hW (k := 157) (by decide) rfl (v := .ref (G.2.2.1 + 163)) (rf_157_3 iu_16) dX5_proveOptimal_62 ?_
    refine lv_iconst (v := iv 1) hx hb dX5_proveOptimal_65 (by decide) ?_
    refine sBv (sV (As := [.ref (G.2.2.1 + 163), .int (iv 1)]) (rest := []) (k := 158) Cx (s_X10_number l G u_16 (o := 158) (v := 163) (ap := 1) (N := 1500) iu_16 ⟨by decide, rfl, rfl, rfl, rfl, by decide⟩ rfl (by omega)) (c_X5_99 Cx rfl rfl (rmk_ok (by omega) (by decide))) hW (by decide) rfl rfl rfl hl.1 rfl (Nat.le_of_ble_eq_true rfl) dX5_proveOptimal_66 ⟨Nat.le_of_ble_eq_true rfl, Nat.le_of_ble_eq_true rfl⟩) hL (fun u_19 H locs k_20 hW hL => ?_)
    obtain ⟨iu_19, fu_19⟩ := k_20
    have F_21 := F_18.trans (fu_19.to (pB_sub rfl rfl))
    refine lv_aload_n hx hb dX5_proveOptimal_69 rfl (lv_at hl 0 rfl) ?_
    refine g_X5_16 Cx hW (k := 157) (by decide) rfl (v := .ref (G.2.2.1 + 158)) (rf_157_0 iu_19) dX5_proveOptimal_70 ?_
    refine zLdc Cx 8 (by decide) ⟨rfl, rfl⟩ dX5_proveOptimal_73 ?_
    refine sBv (sV (As := [.ref (G.1.2 100 8)]) (rest := []) (k := 158) Cx (s_X10_word l G u_19 (o := 158) (si := 8) (N := 1500) iu_19 ⟨by decide, rfl, rfl, rfl, rfl, by decide⟩ (by decide)) (c_X5_95 Cx rfl rfl (rmk_ok (by omega) (by decide))) hW (by decide) rfl rfl rfl hl.1 rfl (Nat.le_of_ble_eq_true rfl) dX5_proveOptimal_75 ⟨Nat.le_of_ble_eq_true rfl, Nat.le_of_ble_eq_true rfl⟩) hL (fun u_22 H locs k_23 hW hL => ?_)
    obtain ⟨iu_22, fu_22⟩ := k_23
    have F_24 := F_21.trans (fu_22.to (pB_sub rfl rfl))
    refine lv_aload_n hx hb dX5_proveOptimal_78 rfl (lv_at hl 0 rfl) ?_
    refine g_X5_16 Cx hW (k := 157) (by decide) rfl (v := .ref (G.2.2.1 + 158)) (rf_157_0 iu_22) dX5_proveOptimal_79 ?_
    refine lv_aload_n hx hb dX5_proveOptimal_82 rfl (lv_at hl 0 rfl) ?_
    refine g_X5_34 Cx hW (k := 157) (by decide) rfl (v := .ref (G.2.2.1 + 165)) (rf_157_4 iu_22) dX5_proveOptimal_83 ?_
    refine lv_iconst (v := iv 1) hx hb dX5_proveOptimal_86 (by decide) ?_
    refine sBv (sV (As := [.ref (G.2.2.1 + 165), .int (iv 1)]) (rest := []) (k := 158) Cx (s_X10_number l G u_22 (o := 158) (v := 165) (ap := 1) (N := 1500) iu_22 ⟨by decide, rfl, rfl, rfl, rfl, by decide⟩ rfl (by omega)) (c_X5_99 Cx rfl rfl (rmk_ok (by omega) (by decide))) hW (by decide) rfl rfl rfl hl.1 rfl (Nat.le_of_ble_eq_true rfl) dX5_proveOptimal_87 ⟨Nat.le_of_ble_eq_true rfl, Nat.le_of_ble_eq_true rfl⟩) hL (fun u_25 H locs k_26 hW hL => ?_)
    obtain ⟨iu_25, fu_25⟩ := k_26
    have F_27 := F_24.trans (fu_25.to (pB_sub rfl rfl))
    refine lv_aload_n hx hb dX5_proveOptimal_90 rfl (lv_at hl 0 rfl) ?_
    refine lv_aload_n hx hb dX5_proveOptimal_91 rfl (lv_at hl 1 rfl) ?_
    have q_28 : 0 ≤ S.1 md 2 ∧ S.1 md 2 ≤ 12 := hI.fi md 2 3 (mdl_k hm2) hm2.1
    refine g_X5_186 Cx hW (k := md) (mdl_l hm2) hm2.1 (v := S.1 md 2) (((fu_25 md (pB_no (tau_ne hm2.1 (rfl : tau 158 = .inl 10) (fun h => by cases h)) (tau_ne hm2.1 (rfl : tau 159 = .inr (.byte, 1500)) (fun h => by cases h)))).1 2).trans (((fu_22 md (pB_no (tau_ne hm2.1 (rfl : tau 158 = .inl 10) (fun h => by cases h)) (tau_ne hm2.1 (rfl : tau 159 = .inr (.byte, 1500)) (fun h => by cases h)))).1 2).trans (((fu_19 md (pB_no (tau_ne hm2.1 (rfl : tau 158 = .inl 10) (fun h => by cases h)) (tau_ne hm2.1 (rfl : tau 159 = .inr (.byte, 1500)) (fun h => by cases h)))).1 2).trans (((fu_16 md (mdl_pN hm2).1).1 2).trans (((fu_10 md (pB_no (tau_ne hm2.1 (rfl : tau 165 = .inl 0) (fun h => by cases h)) (tau_ne hm2.1 (rfl : tau 166 = .inr (.int, 32)) (fun h => by cases h)))).1 2).trans (((fu_7 md (pB_no (tau_ne hm2.1 (rfl : tau 163 = .inl 0) (fun h => by cases h)) (tau_ne hm2.1 (rfl : tau 164 = .inr (.int, 32)) (fun h => by cases h)))).1 2).trans (((fu_4 md (pB_no (tau_ne hm2.1 (rfl : tau 158 = .inl 10) (fun h => by cases h)) (tau_ne hm2.1 (rfl : tau 159 = .inr (.byte, 1500)) (fun h => by cases h)))).1 2).trans ((fu_1 md (pB_no (tau_ne hm2.1 (rfl : tau 158 = .inl 10) (fun h => by cases h)) (tau_ne hm2.1 (rfl : tau 159 = .inr (.byte, 1500)) (fun h => by cases h)))).1 2)))))))) dX5_proveOptimal_92 ?_
    refine sBv (sV (As := [.int (iv (S.1 md 2))]) (rest := []) (k := 157) Cx (s_X5_writePoint l G u_25 (vs := S.1 md 2) iu_25 (by omega)) (c_X5_189 Cx rfl rfl (rmk_ok (by omega) (by decide))) hW (by decide) rfl rfl rfl hl.1 rfl (Nat.le_of_ble_eq_true rfl) dX5_proveOptimal_95 ⟨Nat.le_of_ble_eq_true rfl, Nat.le_of_ble_eq_true rfl⟩) hL (fun u_29 H locs k_30 hW hL => ?_)
    obtain ⟨iu_29, fu_29⟩ := k_30
    have F_31 := F_27.trans fu_29
    exact sVret Cx hr hlk hW hL ⟨iu_29, F_31⟩ dX5_proveOptimal_98
  refine lv_aload_n hx hb dX5_proveOptimal_42 rfl (lv_at hl 1 rfl) ?_
  have q_32 : 0 ≤ S.1 md 4 ∧ S.1 md 4 ≤ 1 := hI.fi md 4 3 (mdl_k hm2) hm2.1
  refine g_X5_180 Cx hW (k := md) (mdl_l hm2) hm2.1 (v := S.1 md 4) (((fu_10 md (pB_no (tau_ne hm2.1 (rfl : tau 165 = .inl 0) (fun h => by cases h)) (tau_ne hm2.1 (rfl : tau 166 = .inr (.int, 32)) (fun h => by cases h)))).1 4).trans (((fu_7 md (pB_no (tau_ne hm2.1 (rfl : tau 163 = .inl 0) (fun h => by cases h)) (tau_ne hm2.1 (rfl : tau 164 = .inr (.int, 32)) (fun h => by cases h)))).1 4).trans (((fu_4 md (pB_no (tau_ne hm2.1 (rfl : tau 158 = .inl 10) (fun h => by cases h)) (tau_ne hm2.1 (rfl : tau 159 = .inr (.byte, 1500)) (fun h => by cases h)))).1 4).trans ((fu_1 md (pB_no (tau_ne hm2.1 (rfl : tau 158 = .inl 10) (fun h => by cases h)) (tau_ne hm2.1 (rfl : tau 159 = .inr (.byte, 1500)) (fun h => by cases h)))).1 4)))) dX5_proveOptimal_43 ?_
  refine r_if_ne (tgt := 53) hx hb ⟨(by omega), (by omega)⟩ dX5_proveOptimal_46 (by decide) (fun c_33 => ?_) (fun c_33 => ?_)
  · refine lv_iconst (v := iv 0) hx hb dX5_proveOptimal_53 (by decide) ?_
    exact join_54 0 _ _ _ (by omega) hW hL (lv_sub hl [0, 1] rfl)
  · refine lv_iconst (v := iv 1) hx hb dX5_proveOptimal_49 (by decide) ?_
    refine lv_goto (tgt := 54) hx hb dX5_proveOptimal_50 (by decide) ?_
    exact join_54 1 _ _ _ (by omega) hW hL (lv_sub hl [0, 1] rfl)

set_option maxRecDepth 100000 in
set_option maxHeartbeats 4000000 in
theorem s_X5_proveInfeasible (l : Launch) (G : sG) (S : sS)  (hI : cX G S 0 0 0) : Met l yX5_proveInfeasible (.code yX5_proveInfeasible cX5_proveInfeasible 1 none :: tb) (rmk 6 0 0) (sPc G 294 S [.ref (G.2.2.1 + 157)]) (sQv G 294 (fun u => cX G u 0 0 0 ∧ Fr S u pN)) 0 0 (sF G) := by
  refine sEnter (by decide) (Nat.le_of_ble_eq_true rfl) ?_
  intro p e s m args below meth c Cx hr hlk hnm hW ls hl
  have Cx : sC G p m c cX5_proveInfeasible 1 s args RX5 := Cx
  obtain ⟨hx, hb, hml, hown, hts⟩ := id Cx.1
  have hL : sL G [] := sL_nil
  have hl : lv_has ls 1 [(0, .ref (G.2.2.1 + 157))] := hl
  have hW0 := hW
  refine lv_aload_n hx hb dX5_proveInfeasible_0 rfl (lv_at hl 0 rfl) ?_
  refine g_X5_16 Cx hW (k := 157) (by decide) rfl (v := .ref (G.2.2.1 + 158)) (rf_157_0 hI) dX5_proveInfeasible_1 ?_
  refine sBv (sV (As := []) (rest := []) (k := 158) Cx (s_X10_clear l G S (o := 158) (N := 1500) hI ⟨by decide, rfl, rfl, rfl, rfl, by decide⟩) (c_X5_52 Cx rfl rfl (rmk_ok (by omega) (by decide))) hW (by decide) rfl rfl rfl hl.1 rfl (Nat.le_of_ble_eq_true rfl) dX5_proveInfeasible_4 ⟨Nat.le_of_ble_eq_true rfl, Nat.le_of_ble_eq_true rfl⟩) hL (fun u_1 H locs k_2 hW hL => ?_)
  obtain ⟨iu_1, fu_1, xu_1⟩ := k_2
  have F_3 := (Fr.rf : Fr S S pN).trans (fu_1.to (pB_sub rfl rfl))
  refine lv_aload_n hx hb dX5_proveInfeasible_7 rfl (lv_at hl 0 rfl) ?_
  refine g_X5_16 Cx hW (k := 157) (by decide) rfl (v := .ref (G.2.2.1 + 158)) (rf_157_0 iu_1) dX5_proveInfeasible_8 ?_
  refine zLdc Cx 10 (by decide) ⟨rfl, rfl⟩ dX5_proveInfeasible_11 ?_
  refine sBv (sV (As := [.ref (G.1.2 100 10)]) (rest := []) (k := 158) Cx (s_X10_word l G u_1 (o := 158) (si := 10) (N := 1500) iu_1 ⟨by decide, rfl, rfl, rfl, rfl, by decide⟩ (by decide)) (c_X5_95 Cx rfl rfl (rmk_ok (by omega) (by decide))) hW (by decide) rfl rfl rfl hl.1 rfl (Nat.le_of_ble_eq_true rfl) dX5_proveInfeasible_13 ⟨Nat.le_of_ble_eq_true rfl, Nat.le_of_ble_eq_true rfl⟩) hL (fun u_4 H locs k_5 hW hL => ?_)
  obtain ⟨iu_4, fu_4⟩ := k_5
  have F_6 := F_3.trans (fu_4.to (pB_sub rfl rfl))
  exact sVret Cx hr hlk hW hL ⟨iu_4, F_6⟩ dX5_proveInfeasible_16

set_option maxRecDepth 100000 in
set_option maxHeartbeats 4000000 in
theorem s_X5_proveUnbounded (l : Launch) (G : sG) (S : sS) {md : Nat} (hI : cX G S 0 0 0) (hm2 : mdl md) (hcol : 1 ≤ S.1 135 18) : Met l yX5_proveUnbounded (.code yX5_proveUnbounded cX5_proveUnbounded 4 none :: tb) (rmk 7 0 0) (sPc G 294 S [.ref (G.2.2.1 + 157), .ref (G.2.2.1 + md), .ref (G.2.2.1 + 135)]) (sQv G 294 (fun u => cX G u 0 0 0 ∧ Fr S u pN)) 0 0 (sF G) := by
  refine sEnter (by decide) (Nat.le_of_ble_eq_true rfl) ?_
  intro p e s m args below meth c Cx hr hlk hnm hW ls hl
  have Cx : sC G p m c cX5_proveUnbounded 4 s args RX5 := Cx
  obtain ⟨hx, hb, hml, hown, hts⟩ := id Cx.1
  have hL : sL G [] := sL_nil
  have hl : lv_has ls 4 [(0, .ref (G.2.2.1 + 157)), (1, .ref (G.2.2.1 + md)), (2, .ref (G.2.2.1 + 135))] := hl
  have hW0 := hW
  refine lv_aload_n hx hb dX5_proveUnbounded_0 rfl (lv_at hl 0 rfl) ?_
  refine lv_aload_n hx hb dX5_proveUnbounded_1 rfl (lv_at hl 2 rfl) ?_
  refine lv_aload_n hx hb dX5_proveUnbounded_2 rfl (lv_at hl 1 rfl) ?_
  have q_1 : 0 ≤ S.1 md 2 ∧ S.1 md 2 ≤ 12 := hI.fi md 2 3 (mdl_k hm2) hm2.1
  refine g_X5_186 Cx hW (k := md) (mdl_l hm2) hm2.1 (v := S.1 md 2) rfl dX5_proveUnbounded_3 ?_
  refine sBv (sV (As := [.ref (G.2.2.1 + 135), .int (iv (S.1 md 2))]) (rest := []) (k := 157) Cx (s_X5_takePoint l G S (vs := S.1 md 2) hI (by omega)) (c_X5_194 Cx rfl rfl (rmk_ok (by omega) (by decide))) hW (by decide) rfl rfl rfl hl.1 rfl (Nat.le_of_ble_eq_true rfl) dX5_proveUnbounded_6 ⟨Nat.le_of_ble_eq_true rfl, Nat.le_of_ble_eq_true rfl⟩) hL (fun u_2 H locs k_3 hW hL => ?_)
  obtain ⟨iu_2, fu_2⟩ := k_3
  have F_4 := (Fr.rf : Fr S S pN).trans fu_2
  refine lv_aload_n hx hb dX5_proveUnbounded_9 rfl (lv_at hl 0 rfl) ?_
  refine g_X5_16 Cx hW (k := 157) (by decide) rfl (v := .ref (G.2.2.1 + 158)) (rf_157_0 iu_2) dX5_proveUnbounded_10 ?_
  refine sBv (sV (As := []) (rest := []) (k := 158) Cx (s_X10_clear l G u_2 (o := 158) (N := 1500) iu_2 ⟨by decide, rfl, rfl, rfl, rfl, by decide⟩) (c_X5_52 Cx rfl rfl (rmk_ok (by omega) (by decide))) hW (by decide) rfl rfl rfl hl.1 rfl (Nat.le_of_ble_eq_true rfl) dX5_proveUnbounded_13 ⟨Nat.le_of_ble_eq_true rfl, Nat.le_of_ble_eq_true rfl⟩) hL (fun u_5 H locs k_6 hW hL => ?_)
  obtain ⟨iu_5, fu_5, xu_5⟩ := k_6
  have F_7 := F_4.trans (fu_5.to (pB_sub rfl rfl))
  refine lv_aload_n hx hb dX5_proveUnbounded_16 rfl (lv_at hl 0 rfl) ?_
  refine g_X5_16 Cx hW (k := 157) (by decide) rfl (v := .ref (G.2.2.1 + 158)) (rf_157_0 iu_5) dX5_proveUnbounded_17 ?_
  refine zLdc Cx 11 (by decide) ⟨rfl, rfl⟩ dX5_proveUnbounded_20 ?_
  refine sBv (sV (As := [.ref (G.1.2 100 11)]) (rest := []) (k := 158) Cx (s_X10_word l G u_5 (o := 158) (si := 11) (N := 1500) iu_5 ⟨by decide, rfl, rfl, rfl, rfl, by decide⟩ (by decide)) (c_X5_95 Cx rfl rfl (rmk_ok (by omega) (by decide))) hW (by decide) rfl rfl rfl hl.1 rfl (Nat.le_of_ble_eq_true rfl) dX5_proveUnbounded_22 ⟨Nat.le_of_ble_eq_true rfl, Nat.le_of_ble_eq_true rfl⟩) hL (fun u_8 H locs k_9 hW hL => ?_)
  obtain ⟨iu_8, fu_8⟩ := k_9
  have F_10 := F_7.trans (fu_8.to (pB_sub rfl rfl))
  refine lv_aload_n hx hb dX5_proveUnbounded_25 rfl (lv_at hl 0 rfl) ?_
  refine lv_aload_n hx hb dX5_proveUnbounded_26 rfl (lv_at hl 1 rfl) ?_
  refine g_X5_186 Cx hW (k := md) (mdl_l hm2) hm2.1 (v := S.1 md 2) (((fu_8 md (pB_no (tau_ne hm2.1 (rfl : tau 158 = .inl 10) (fun h => by cases h)) (tau_ne hm2.1 (rfl : tau 159 = .inr (.byte, 1500)) (fun h => by cases h)))).1 2).trans (((fu_5 md (pB_no (tau_ne hm2.1 (rfl : tau 158 = .inl 10) (fun h => by cases h)) (tau_ne hm2.1 (rfl : tau 159 = .inr (.byte, 1500)) (fun h => by cases h)))).1 2).trans ((fu_2 md (mdl_pN hm2).1).1 2))) dX5_proveUnbounded_27 ?_
  refine sBv (sV (As := [.int (iv (S.1 md 2))]) (rest := []) (k := 157) Cx (s_X5_writePoint l G u_8 (vs := S.1 md 2) iu_8 (by omega)) (c_X5_189 Cx rfl rfl (rmk_ok (by omega) (by decide))) hW (by decide) rfl rfl rfl hl.1 rfl (Nat.le_of_ble_eq_true rfl) dX5_proveUnbounded_30 ⟨Nat.le_of_ble_eq_true rfl, Nat.le_of_ble_eq_true rfl⟩) hL (fun u_11 H locs k_12 hW hL => ?_)
  obtain ⟨iu_11, fu_11⟩ := k_12
  have F_13 := F_10.trans fu_11
  refine lv_aload_n hx hb dX5_proveUnbounded_33 rfl (lv_at hl 0 rfl) ?_
  refine g_X5_16 Cx hW (k := 157) (by decide) rfl (v := .ref (G.2.2.1 + 158)) (rf_157_0 iu_11) dX5_proveUnbounded_34 ?_
  refine zLdc Cx 12 (by decide) ⟨rfl, rfl⟩ dX5_proveUnbounded_37 ?_
  refine sBv (sV (As := [.ref (G.1.2 100 12)]) (rest := []) (k := 158) Cx (s_X10_word l G u_11 (o := 158) (si := 12) (N := 1500) iu_11 ⟨by decide, rfl, rfl, rfl, rfl, by decide⟩ (by decide)) (c_X5_95 Cx rfl rfl (rmk_ok (by omega) (by decide))) hW (by decide) rfl rfl rfl hl.1 rfl (Nat.le_of_ble_eq_true rfl) dX5_proveUnbounded_39 ⟨Nat.le_of_ble_eq_true rfl, Nat.le_of_ble_eq_true rfl⟩) hL (fun u_14 H locs k_15 hW hL => ?_)
  obtain ⟨iu_14, fu_14⟩ := k_15
  have F_16 := F_13.trans (fu_14.to (pB_sub rfl rfl))
  refine lv_iconst (v := iv 1) hx hb dX5_proveUnbounded_42 (by decide) ?_
  refine lv_istore_n (lv' := [(3, .int (iv 1)), (0, .ref (G.2.2.1 + 157)), (1, .ref (G.2.2.1 + md)), (2, .ref (G.2.2.1 + 135))]) hx hb dX5_proveUnbounded_43 rfl hl (by decide) rfl (fun ls hl => ?_)
  have loop_44 : ∀ (fuel : Nat) (S44 : sS) (j : Int) (H : Heap) (locs : List Loc) (ls : Array Slot), (13 - j).toNat < fuel → (cX G S44 0 0 0) → (Fr S S44 pN) → (Fr u_14 S44 pN) → (1 ≤ j ∧ j ≤ 13) → sW G 294 S44 H → sL G locs → lv_has ls 4 [(3, .int (iv j)), (0, .ref (G.2.2.1 + 157)), (1, .ref (G.2.2.1 + md)), (2, .ref (G.2.2.1 + 135))] → W p l e (rmk 7 0 0) s m args below meth c H locs 0 0 (MQ below (sQv G 294 (fun u => cX G u 0 0 0 ∧ Fr S u pN)) args s 0 0 (sF G)) (F0 m 44 ls []) := by
    intro fuel
    induction fuel with
    | zero => intro S44 j H locs ls hmeas hI44 hFm44 hL44_ hj hW hL hl; exact absurd hmeas (Nat.not_lt_zero _)
    | succ fuel ih_44 =>
      intro S44 j H locs ls hmeas hI44 hFm44 hL44_ hj hW hL hl
      refine lv_iload_n hx hb dX5_proveUnbounded_44 rfl (lv_at hl 0 rfl) ?_
      refine lv_aload_n hx hb dX5_proveUnbounded_45 rfl (lv_at hl 2 rfl) ?_
      refine g_X5_186 Cx hW (k := md) (mdl_l hm2) hm2.1 (v := S.1 md 2) (((hL44_ md (mdl_pN hm2).1).1 2).trans (((fu_14 md (pB_no (tau_ne hm2.1 (rfl : tau 158 = .inl 10) (fun h => by cases h)) (tau_ne hm2.1 (rfl : tau 159 = .inr (.byte, 1500)) (fun h => by cases h)))).1 2).trans (((fu_11 md (mdl_pN hm2).1).1 2).trans (((fu_8 md (pB_no (tau_ne hm2.1 (rfl : tau 158 = .inl 10) (fun h => by cases h)) (tau_ne hm2.1 (rfl : tau 159 = .inr (.byte, 1500)) (fun h => by cases h)))).1 2).trans (((fu_5 md (pB_no (tau_ne hm2.1 (rfl : tau 158 = .inl 10) (fun h => by cases h)) (tau_ne hm2.1 (rfl : tau 159 = .inr (.byte, 1500)) (fun h => by cases h)))).1 2).trans ((fu_2 md (mdl_pN hm2).1).1 2)))))) dX5_proveUnbounded_46 ?_
      refine r_icmp_gt (tgt := 79) hx hb ⟨(by omega), (by omega)⟩ ⟨(by omega), (by omega)⟩ dX5_proveUnbounded_49 (by decide) (fun c_17 => ?_) (fun c_17 => ?_)
      · refine lv_aload_n hx hb dX5_proveUnbounded_79 rfl (lv_at hl 1 rfl) ?_
        refine g_X5_16 Cx hW (k := 157) (by decide) rfl (v := .ref (G.2.2.1 + 158)) (rf_157_0 hI44) dX5_proveUnbounded_80 ?_
        refine zLdc Cx 8 (by decide) ⟨rfl, rfl⟩ dX5_proveUnbounded_83 ?_
        refine sBv (sV (As := [.ref (G.1.2 100 8)]) (rest := []) (k := 158) Cx (s_X10_word l G S44 (o := 158) (si := 8) (N := 1500) hI44 ⟨by decide, rfl, rfl, rfl, rfl, by decide⟩ (by decide)) (c_X5_95 Cx rfl rfl (rmk_ok (by omega) (by decide))) hW (by decide) rfl rfl rfl hl.1 rfl (Nat.le_of_ble_eq_true rfl) dX5_proveUnbounded_85 ⟨Nat.le_of_ble_eq_true rfl, Nat.le_of_ble_eq_true rfl⟩) hL (fun u_18 H locs k_19 hW hL => ?_)
        obtain ⟨iu_18, fu_18⟩ := k_19
        have F_20 := hFm44.trans (fu_18.to (pB_sub rfl rfl))
        have F_21 := hL44_.trans (fu_18.to (pB_sub rfl rfl))
        refine lv_aload_n hx hb dX5_proveUnbounded_88 rfl (lv_at hl 1 rfl) ?_
        refine g_X5_16 Cx hW (k := 157) (by decide) rfl (v := .ref (G.2.2.1 + 158)) (rf_157_0 iu_18) dX5_proveUnbounded_89 ?_
        refine zLdc Cx 13 (by decide) ⟨rfl, rfl⟩ dX5_proveUnbounded_92 ?_
        refine sBv (sV (As := [.ref (G.1.2 100 13)]) (rest := []) (k := 158) Cx (s_X10_word l G u_18 (o := 158) (si := 13) (N := 1500) iu_18 ⟨by decide, rfl, rfl, rfl, rfl, by decide⟩ (by decide)) (c_X5_95 Cx rfl rfl (rmk_ok (by omega) (by decide))) hW (by decide) rfl rfl rfl hl.1 rfl (Nat.le_of_ble_eq_true rfl) dX5_proveUnbounded_94 ⟨Nat.le_of_ble_eq_true rfl, Nat.le_of_ble_eq_true rfl⟩) hL (fun u_22 H locs k_23 hW hL => ?_)
        obtain ⟨iu_22, fu_22⟩ := k_23
        have F_24 := F_20.trans (fu_22.to (pB_sub rfl rfl))
        have F_25 := F_21.trans (fu_22.to (pB_sub rfl rfl))
        exact sVret Cx hr hlk hW hL ⟨iu_22, F_24⟩ dX5_proveUnbounded_97
      · refine lv_aload_n hx hb dX5_proveUnbounded_52 rfl (lv_at hl 3 rfl) ?_
        refine lv_iload_n hx hb dX5_proveUnbounded_53 rfl (lv_at hl 0 rfl) ?_
        refine lv_aload_n hx hb dX5_proveUnbounded_54 rfl (lv_at hl 1 rfl) ?_
        refine g_X5_40 Cx hW (k := 157) (by decide) rfl (v := .ref (G.2.2.1 + 169)) (rf_157_6 hI44) dX5_proveUnbounded_55 ?_
        have q_26 : (-1) ≤ S.1 135 18 ∧ S.1 135 18 ≤ 13 := hI.fi 135 18 2 (by decide) rfl
        have lk_27 : S44.1 135 18 = S.1 135 18 := ((hL44_ 135 rfl).1 18).trans (((fu_14 135 rfl).1 18).trans (((fu_11 135 rfl).1 18).trans (((fu_8 135 rfl).1 18).trans (((fu_5 135 rfl).1 18).trans ((fu_2 135 rfl).1 18)))))
        refine sBv (sV (As := [.int (iv j), .ref (G.2.2.1 + 169)]) (rest := []) (k := 135) Cx (s_X2_rayNumber l G S44 (k := j) (v := 169) hI44 rfl (by omega) (by omega)) (c_X5_202 Cx rfl rfl (rmk_ok (by omega) (by decide))) hW (by decide) rfl rfl rfl hl.1 rfl (Nat.le_of_ble_eq_true rfl) dX5_proveUnbounded_58 ⟨Nat.le_of_ble_eq_true rfl, Nat.le_of_ble_eq_true rfl⟩) hL (fun u_28 H locs k_29 hW hL => ?_)
        obtain ⟨iu_28, fu_28, xu_28⟩ := k_29
        have F_30 := hFm44.trans (fu_28.to (pB_sub rfl rfl))
        have F_31 := hL44_.trans (fu_28.to (pB_sub rfl rfl))
        refine lv_aload_n hx hb dX5_proveUnbounded_61 rfl (lv_at hl 1 rfl) ?_
        refine g_X5_16 Cx hW (k := 157) (by decide) rfl (v := .ref (G.2.2.1 + 158)) (rf_157_0 iu_28) dX5_proveUnbounded_62 ?_
        refine lv_aload_n hx hb dX5_proveUnbounded_65 rfl (lv_at hl 1 rfl) ?_
        refine g_X5_40 Cx hW (k := 157) (by decide) rfl (v := .ref (G.2.2.1 + 169)) (rf_157_6 iu_28) dX5_proveUnbounded_66 ?_
        refine lv_iconst (v := iv 1) hx hb dX5_proveUnbounded_69 (by decide) ?_
        refine sBv (sV (As := [.ref (G.2.2.1 + 169), .int (iv 1)]) (rest := []) (k := 158) Cx (s_X10_number l G u_28 (o := 158) (v := 169) (ap := 1) (N := 1500) iu_28 ⟨by decide, rfl, rfl, rfl, rfl, by decide⟩ rfl (by omega)) (c_X5_99 Cx rfl rfl (rmk_ok (by omega) (by decide))) hW (by decide) rfl rfl rfl hl.1 rfl (Nat.le_of_ble_eq_true rfl) dX5_proveUnbounded_70 ⟨Nat.le_of_ble_eq_true rfl, Nat.le_of_ble_eq_true rfl⟩) hL (fun u_32 H locs k_33 hW hL => ?_)
        obtain ⟨iu_32, fu_32⟩ := k_33
        have F_34 := F_30.trans (fu_32.to (pB_sub rfl rfl))
        have F_35 := F_31.trans (fu_32.to (pB_sub rfl rfl))
        refine lv_iinc (v := iv (j + 1)) (lv' := [(3, .int (iv (j + 1))), (0, .ref (G.2.2.1 + 157)), (1, .ref (G.2.2.1 + md)), (2, .ref (G.2.2.1 + 135))]) hx hb dX5_proveUnbounded_73 hl (k := 0) rfl ((Int32.ofInt_add _ _).symm) (by decide) rfl (fun ls hl => ?_)
        refine lv_goto (tgt := 44) hx hb dX5_proveUnbounded_76 (by decide) ?_
        exact ih_44 u_32 (j + 1) _ _ _ (by omega) iu_32 F_34 F_35 (by omega) hW hL (lv_sub hl [0, 1, 2, 3] rfl)
  exact loop_44 (_ + 1) u_14 1 _ _ _ (Nat.lt_succ_self _) iu_14 F_16 Fr.rf (by omega) hW hL (lv_sub hl [0, 1, 2, 3] rfl)
