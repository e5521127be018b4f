/-- a word stands at f, up to b -/
def WMc (B : Int → Int) (f b : Int) (si : Nat) : Prop := ((strN.getD si 0 : Nat) : Int) = b - f ∧ ∀ j, 0 ≤ j → j < b - f → B (f + j) = sB si j
def wsi (k : Int) : Nat := (k + 7).toNat
set_option maxRecDepth 100000 in
set_option maxHeartbeats 4000000 in
theorem b_J1_charAt (l : Launch) (G : sG) (S : sS) {si : Nat} {k : Int} (hsi : si < 38) (hk : 0 ≤ k ∧ k < (strN.getD si 0 : Nat)) : Met l yJ1_charAt_3b067 (.code yJ1_charAt_3b067 cJ1_charAt_3b067 2 (some .char) :: tb) (rmk 3 0 0) (sPc G 294 S [.ref (G.1.2 101 si), .int (iv k)]) (sQi G 294 (fun r u => u = S ∧ (r = sB si k ∧ 0 ≤ r ∧ r ≤ 127))) 0 0 (sF G) := by
  refine sEnterF (by decide) (Nat.le_of_ble_eq_true rfl) ?_
  intro p e s m args below meth c Cx hr hlk hnm hW ls hl
  have Cx : sC G p m c cJ1_charAt_3b067 2 s args RJ1 := Cx
  obtain ⟨hx, hb, hml, hown, hts⟩ := id Cx.1
  have hL : sL G [] := sL_nil
  have hl : lv_has ls 2 [(0, .ref (G.1.2 101 si)), (1, .int (iv k))] := hl
  have hW0 := hW
  have hnr := strN_r si hsi
  refine lv_iload_n hx hb dJ1_charAt_3b067_0 rfl (lv_at hl 1 rfl) ?_
  refine lv_aload_n hx hb dJ1_charAt_3b067_1 rfl (lv_at hl 0 rfl) ?_
  refine zLen Cx hW0 hW hL (i := si) hsi dJ1_charAt_3b067_2 ?_
  refine sBv (sSt (As := [.int (iv k), .int (iv (((strN.getD si 0 : Nat) : Int)))]) (rest := []) Cx (s_J0_checkIndex_df160 l G S (k := k) (n := ((strN.getD si 0 : Nat) : Int)) (by omega)) (c_J1_9 Cx rfl rfl (rmk_ok (by omega) (by decide))) hW rfl hl.1 rfl (Nat.le_of_ble_eq_true rfl) dJ1_charAt_3b067_3 ⟨Nat.le_of_ble_eq_true rfl, Nat.le_of_ble_eq_true rfl⟩) hL (fun u_1 H locs k_2 hW hL => ?_)
  rw [k_2] at hW
  refine lv_aload_n hx hb dJ1_charAt_3b067_6 rfl (lv_at hl 0 rfl) ?_
  refine lv_iload_n hx hb dJ1_charAt_3b067_7 rfl (lv_at hl 1 rfl) ?_
  refine zByteE Cx hW0 hW hL (i := si) hsi ⟨(by omega), (by omega)⟩ dJ1_charAt_3b067_8 (fun z_3 hz_3 kz_3 ez_3 => ?_)
  refine lv_sipush (v := iv 255) hx hb dJ1_charAt_3b067_9 (by decide) ?_
  refine r_and255e hx hb ⟨(by omega), (by omega)⟩ dJ1_charAt_3b067_12 (fun z_4 hz_4 kz_4 ez_4 => ?_)
  refine r_i2c hx hb ⟨(by omega), (by omega)⟩ dJ1_charAt_3b067_13 ?_
  exact sCret Cx hr hlk hW hL ⟨(by omega), (by omega)⟩ ⟨rfl, ⟨(by omega), (by omega), (by omega)⟩⟩ dJ1_charAt_3b067_14

set_option maxRecDepth 100000 in
set_option maxHeartbeats 4000000 in
theorem b_J0_charAt (l : Launch) (G : sG) (S : sS) {si : Nat} {k : Int} (hsi : si < 38) (hk : 0 ≤ k ∧ k < (strN.getD si 0 : Nat)) : Met l yJ0_charAt_5068e (.code yJ0_charAt_5068e cJ0_charAt_5068e 2 (some .char) :: tb) (rmk 4 0 0) (sPc G 294 S [.ref (G.1.2 100 si), .int (iv k)]) (sQi G 294 (fun r u => u = S ∧ (r = sB si k ∧ 0 ≤ r ∧ r ≤ 127))) 0 0 (sF G) := by
  refine sEnterF (by decide) (Nat.le_of_ble_eq_true rfl) ?_
  intro p e s m args below meth c Cx hr hlk hnm hW ls hl
  have Cx : sC G p m c cJ0_charAt_5068e 2 s args RJ0 := Cx
  obtain ⟨hx, hb, hml, hown, hts⟩ := id Cx.1
  have hL : sL G [] := sL_nil
  have hl : lv_has ls 2 [(0, .ref (G.1.2 100 si)), (1, .int (iv k))] := hl
  have hW0 := hW
  have hnr := strN_r si hsi
  refine lv_aload_n hx hb dJ0_charAt_5068e_0 rfl (lv_at hl 0 rfl) ?_
  refine sBi (sVz (As := []) (rest := []) (a := G.1.2 100 si) Cx (s_J0_isLatin1_aae02 l G S (si := si) hsi) (c_J0_492 Cx rfl rfl (rmk_ok (by omega) (by decide))) hW (zRecv Cx hW0 hW hsi) rfl hl.1 rfl (Nat.le_of_ble_eq_true rfl) dJ0_charAt_5068e_1 ⟨Nat.le_of_ble_eq_true rfl, Nat.le_of_ble_eq_true rfl⟩) hL (fun r_3 u_1 H locs k_2 hW hL => ?_)
  obtain ⟨eu_1, xu_1⟩ := k_2
  rw [eu_1] at hW
  refine r_if_eq (tgt := 16) hx hb ⟨(by omega), (by omega)⟩ dJ0_charAt_5068e_4 (by decide) (fun c => absurd c (by omega)) (fun _ => ?_)
  refine lv_aload_n hx hb dJ0_charAt_5068e_7 rfl (lv_at hl 0 rfl) ?_
  refine zValue Cx hW0 hW hL (i := si) hsi w_2804 dJ0_charAt_5068e_8 ?_
  refine lv_iload_n hx hb dJ0_charAt_5068e_11 rfl (lv_at hl 1 rfl) ?_
  refine sBi (sSt (As := [.ref (G.1.2 101 si), .int (iv k)]) (rest := []) Cx (b_J1_charAt l G S (si := si) (k := k) hsi (by omega)) (c_J0_495 Cx rfl rfl (rmk_ok (by omega) (by decide))) hW rfl hl.1 rfl (Nat.le_of_ble_eq_true rfl) dJ0_charAt_5068e_12 ⟨Nat.le_of_ble_eq_true rfl, Nat.le_of_ble_eq_true rfl⟩) hL (fun r_6 u_4 H locs k_5 hW hL => ?_)
  obtain ⟨eu_4, xu_4⟩ := k_5
  rw [eu_4] at hW
  exact sCret Cx hr hlk hW hL ⟨(by omega), (by omega)⟩ ⟨rfl, (by omega)⟩ dJ0_charAt_5068e_15

set_option maxRecDepth 100000 in
set_option maxHeartbeats 4000000 in
theorem b_X8_isLetter (l : Launch) (G : sG) (S : sS) {k : Int} (hk : -2147483648 ≤ k ∧ k ≤ 2147483647) : Met l yX8_isLetter (.code yX8_isLetter cX8_isLetter 1 (some .boolean) :: tb) (rmk 1 0 0) (sPc G 294 S [.int (iv k)]) (sQi G 294 (fun r u => u = S ∧ ((0 ≤ r ∧ r ≤ 1) ∧ Hd (r = 1 → isLt k) ∧ Hd (r = 0 → ¬ isLt k)))) 0 0 (sF G) := by
  refine sEnter (by decide) (Nat.le_of_ble_eq_true rfl) ?_
  intro p e s m args below meth c Cx hr hlk hnm hW ls hl
  have Cx : sC G p m c cX8_isLetter 1 s args RX8 := Cx
  obtain ⟨hx, hb, hml, hown, hts⟩ := id Cx.1
  have hL : sL G [] := sL_nil
  have hl : lv_has ls 1 [(0, .int (iv k))] := hl
  have hW0 := hW
  refine lv_iload_n hx hb dX8_isLetter_0 rfl (lv_at hl 0 rfl) ?_
  refine lv_bipush (v := iv 97) hx hb dX8_isLetter_1 (by decide) ?_
  refine r_icmp_lt (tgt := 12) hx hb ⟨(by omega), (by omega)⟩ ⟨(by omega), (by omega)⟩ dX8_isLetter_3 (by decide) (fun c_1 => ?_) (fun c_1 => ?_)
  · refine lv_iload_n hx hb dX8_isLetter_12 rfl (lv_at hl 0 rfl) ?_
    refine lv_bipush (v := iv 65) hx hb dX8_isLetter_13 (by decide) ?_
    refine r_icmp_lt (tgt := 28) hx hb ⟨(by omega), (by omega)⟩ ⟨(by omega), (by omega)⟩ dX8_isLetter_15 (by decide) (fun c_2 => ?_) (fun c_2 => ?_)
    · refine lv_iconst (v := iv 0) hx hb dX8_isLetter_28 (by decide) ?_
      exact sZret Cx hr hlk hW hL (by omega) ⟨rfl, ⟨(by omega), (fun h => absurd h (by decide)), (fun _ => by unfold isLt; omega)⟩⟩ dX8_isLetter_29
    · refine lv_iload_n hx hb dX8_isLetter_18 rfl (lv_at hl 0 rfl) ?_
      refine lv_bipush (v := iv 90) hx hb dX8_isLetter_19 (by decide) ?_
      refine r_icmp_gt (tgt := 28) hx hb ⟨(by omega), (by omega)⟩ ⟨(by omega), (by omega)⟩ dX8_isLetter_21 (by decide) (fun c_3 => ?_) (fun c_3 => ?_)
      · refine lv_iconst (v := iv 0) hx hb dX8_isLetter_28 (by decide) ?_
        exact sZret Cx hr hlk hW hL (by omega) ⟨rfl, ⟨(by omega), (fun h => absurd h (by decide)), (fun _ => by unfold isLt; omega)⟩⟩ dX8_isLetter_29
      · refine lv_iconst (v := iv 1) hx hb dX8_isLetter_24 (by decide) ?_
        refine lv_goto (tgt := 29) hx hb dX8_isLetter_25 (by decide) ?_
        exact sZret Cx hr hlk hW hL (by omega) ⟨rfl, ⟨(by omega), (fun _ => by unfold isLt; omega), (fun h => absurd h (by decide))⟩⟩ dX8_isLetter_29
  · refine lv_iload_n hx hb dX8_isLetter_6 rfl (lv_at hl 0 rfl) ?_
    refine lv_bipush (v := iv 122) hx hb dX8_isLetter_7 (by decide) ?_
    refine r_icmp_le (tgt := 24) hx hb ⟨(by omega), (by omega)⟩ ⟨(by omega), (by omega)⟩ dX8_isLetter_9 (by decide) (fun c_4 => ?_) (fun c_4 => ?_)
    · refine lv_iconst (v := iv 1) hx hb dX8_isLetter_24 (by decide) ?_
      refine lv_goto (tgt := 29) hx hb dX8_isLetter_25 (by decide) ?_
      exact sZret Cx hr hlk hW hL (by omega) ⟨rfl, ⟨(by omega), (fun _ => by unfold isLt; omega), (fun h => absurd h (by decide))⟩⟩ dX8_isLetter_29
    · refine lv_iload_n hx hb dX8_isLetter_12 rfl (lv_at hl 0 rfl) ?_
      refine lv_bipush (v := iv 65) hx hb dX8_isLetter_13 (by decide) ?_
      refine r_icmp_lt (tgt := 28) hx hb ⟨(by omega), (by omega)⟩ ⟨(by omega), (by omega)⟩ dX8_isLetter_15 (by decide) (fun c_5 => ?_) (fun c_5 => ?_)
      · refine lv_iconst (v := iv 0) hx hb dX8_isLetter_28 (by decide) ?_
        exact sZret Cx hr hlk hW hL (by omega) ⟨rfl, ⟨(by omega), (fun h => absurd h (by decide)), (fun _ => by unfold isLt; omega)⟩⟩ dX8_isLetter_29
      · refine lv_iload_n hx hb dX8_isLetter_18 rfl (lv_at hl 0 rfl) ?_
        refine lv_bipush (v := iv 90) hx hb dX8_isLetter_19 (by decide) ?_
        refine r_icmp_gt (tgt := 28) hx hb ⟨(by omega), (by omega)⟩ ⟨(by omega), (by omega)⟩ dX8_isLetter_21 (by decide) (fun c_6 => ?_) (fun c_6 => ?_)
        · refine lv_iconst (v := iv 0) hx hb dX8_isLetter_28 (by decide) ?_
          exact sZret Cx hr hlk hW hL (by omega) ⟨rfl, ⟨(by omega), (fun h => absurd h (by decide)), (fun _ => by unfold isLt; omega)⟩⟩ dX8_isLetter_29
        · refine lv_iconst (v := iv 1) hx hb dX8_isLetter_24 (by decide) ?_
          refine lv_goto (tgt := 29) hx hb dX8_isLetter_25 (by decide) ?_
          exact sZret Cx hr hlk hW hL (by omega) ⟨rfl, ⟨(by omega), (fun _ => by unfold isLt; omega), (fun h => absurd h (by decide))⟩⟩ dX8_isLetter_29

set_option maxRecDepth 100000 in
set_option maxHeartbeats 4000000 in
theorem b_X8_isDigit (l : Launch) (G : sG) (S : sS) {k : Int} (hk : -2147483648 ≤ k ∧ k ≤ 2147483647) : Met l yX8_isDigit (.code yX8_isDigit cX8_isDigit 1 (some .boolean) :: tb) (rmk 1 0 0) (sPc G 294 S [.int (iv k)]) (sQi G 294 (fun r u => u = S ∧ ((0 ≤ r ∧ r ≤ 1) ∧ Hd (r = 1 → isDg k) ∧ Hd (r = 0 → ¬ isDg k)))) 0 0 (sF G) := by
  refine sEnter (by decide) (Nat.le_of_ble_eq_true rfl) ?_
  intro p e s m args below meth c Cx hr hlk hnm hW ls hl
  have Cx : sC G p m c cX8_isDigit 1 s args RX8 := Cx
  obtain ⟨hx, hb, hml, hown, hts⟩ := id Cx.1
  have hL : sL G [] := sL_nil
  have hl : lv_has ls 1 [(0, .int (iv k))] := hl
  have hW0 := hW
  refine lv_iload_n hx hb dX8_isDigit_0 rfl (lv_at hl 0 rfl) ?_
  refine lv_bipush (v := iv 48) hx hb dX8_isDigit_1 (by decide) ?_
  refine r_icmp_lt (tgt := 16) hx hb ⟨(by omega), (by omega)⟩ ⟨(by omega), (by omega)⟩ dX8_isDigit_3 (by decide) (fun c_1 => ?_) (fun c_1 => ?_)
  · refine lv_iconst (v := iv 0) hx hb dX8_isDigit_16 (by decide) ?_
    exact sZret Cx hr hlk hW hL (by omega) ⟨rfl, ⟨(by omega), (fun h => absurd h (by decide)), (fun _ => by unfold isDg; omega)⟩⟩ dX8_isDigit_17
  · refine lv_iload_n hx hb dX8_isDigit_6 rfl (lv_at hl 0 rfl) ?_
    refine lv_bipush (v := iv 57) hx hb dX8_isDigit_7 (by decide) ?_
    refine r_icmp_gt (tgt := 16) hx hb ⟨(by omega), (by omega)⟩ ⟨(by omega), (by omega)⟩ dX8_isDigit_9 (by decide) (fun c_2 => ?_) (fun c_2 => ?_)
    · refine lv_iconst (v := iv 0) hx hb dX8_isDigit_16 (by decide) ?_
      exact sZret Cx hr hlk hW hL (by omega) ⟨rfl, ⟨(by omega), (fun h => absurd h (by decide)), (fun _ => by unfold isDg; omega)⟩⟩ dX8_isDigit_17
    · refine lv_iconst (v := iv 1) hx hb dX8_isDigit_12 (by decide) ?_
      refine lv_goto (tgt := 17) hx hb dX8_isDigit_13 (by decide) ?_
      exact sZret Cx hr hlk hW hL (by omega) ⟨rfl, ⟨(by omega), (fun _ => by unfold isDg; omega), (fun h => absurd h (by decide))⟩⟩ dX8_isDigit_17

set_option maxRecDepth 100000 in
set_option maxHeartbeats 4000000 in
theorem b_X4_word (l : Launch) (G : sG) (S : sS) {k : Int} (hk : 7 ≤ k ∧ k ≤ 15) : Met l yX4_word (.code yX4_word cX4_word 1 (some (.object "java/lang/String")) :: tb) (rmk 1 0 0) (sPc G 294 S [.int (iv k)]) (sQs G 294 (fun r u => u = S ∧ (r = wsi k ∧ r < 38))) 0 0 (sF G) := by
  refine sEnter (by decide) (Nat.le_of_ble_eq_true rfl) ?_
  intro p e s m args below meth c Cx hr hlk hnm hW ls hl
  have Cx : sC G p m c cX4_word 1 s args RX4 := Cx
  obtain ⟨hx, hb, hml, hown, hts⟩ := id Cx.1
  have hL : sL G [] := sL_nil
  have hl : lv_has ls 1 [(0, .int (iv k))] := hl
  have hW0 := hW
  refine lv_iload_n hx hb dX4_word_0 rfl (lv_at hl 0 rfl) ?_
  by_cases c_1 : k = 7
  · refine lv_tableIn (off := 47) (tgt := 48) hx hb dX4_word_1 (by rw [c_1]; decide) (by rw [c_1]; decide) (by rw [c_1]; decide) (by decide) ?_
    refine zLdc Cx 14 (by decide) ⟨rfl, rfl⟩ dX4_word_48 ?_
    exact sSret Cx hr hlk hW hL (v := 14) ⟨rfl, ⟨(by unfold wsi; omega), by decide⟩⟩ dX4_word_50
  by_cases c_2 : k = 8
  · refine lv_tableIn (off := 50) (tgt := 51) hx hb dX4_word_1 (by rw [c_2]; decide) (by rw [c_2]; decide) (by rw [c_2]; decide) (by decide) ?_
    refine zLdc Cx 15 (by decide) ⟨rfl, rfl⟩ dX4_word_51 ?_
    exact sSret Cx hr hlk hW hL (v := 15) ⟨rfl, ⟨(by unfold wsi; omega), by decide⟩⟩ dX4_word_53
  by_cases c_3 : k = 9
  · refine lv_tableIn (off := 53) (tgt := 54) hx hb dX4_word_1 (by rw [c_3]; decide) (by rw [c_3]; decide) (by rw [c_3]; decide) (by decide) ?_
    refine zLdc Cx 16 (by decide) ⟨rfl, rfl⟩ dX4_word_54 ?_
    exact sSret Cx hr hlk hW hL (v := 16) ⟨rfl, ⟨(by unfold wsi; omega), by decide⟩⟩ dX4_word_56
  by_cases c_4 : k = 10
  · refine lv_tableIn (off := 56) (tgt := 57) hx hb dX4_word_1 (by rw [c_4]; decide) (by rw [c_4]; decide) (by rw [c_4]; decide) (by decide) ?_
    refine zLdc Cx 17 (by decide) ⟨rfl, rfl⟩ dX4_word_57 ?_
    exact sSret Cx hr hlk hW hL (v := 17) ⟨rfl, ⟨(by unfold wsi; omega), by decide⟩⟩ dX4_word_59
  by_cases c_5 : k = 11
  · refine lv_tableIn (off := 59) (tgt := 60) hx hb dX4_word_1 (by rw [c_5]; decide) (by rw [c_5]; decide) (by rw [c_5]; decide) (by decide) ?_
    refine zLdc Cx 18 (by decide) ⟨rfl, rfl⟩ dX4_word_60 ?_
    exact sSret Cx hr hlk hW hL (v := 18) ⟨rfl, ⟨(by unfold wsi; omega), by decide⟩⟩ dX4_word_62
  by_cases c_6 : k = 12
  · refine lv_tableIn (off := 62) (tgt := 63) hx hb dX4_word_1 (by rw [c_6]; decide) (by rw [c_6]; decide) (by rw [c_6]; decide) (by decide) ?_
    refine zLdc Cx 19 (by decide) ⟨rfl, rfl⟩ dX4_word_63 ?_
    exact sSret Cx hr hlk hW hL (v := 19) ⟨rfl, ⟨(by unfold wsi; omega), by decide⟩⟩ dX4_word_65
  by_cases c_7 : k = 13
  · refine lv_tableIn (off := 65) (tgt := 66) hx hb dX4_word_1 (by rw [c_7]; decide) (by rw [c_7]; decide) (by rw [c_7]; decide) (by decide) ?_
    refine zLdc Cx 20 (by decide) ⟨rfl, rfl⟩ dX4_word_66 ?_
    exact sSret Cx hr hlk hW hL (v := 20) ⟨rfl, ⟨(by unfold wsi; omega), by decide⟩⟩ dX4_word_68
  by_cases c_8 : k = 14
  · refine lv_tableIn (off := 68) (tgt := 69) hx hb dX4_word_1 (by rw [c_8]; decide) (by rw [c_8]; decide) (by rw [c_8]; decide) (by decide) ?_
    refine zLdc Cx 21 (by decide) ⟨rfl, rfl⟩ dX4_word_69 ?_
    exact sSret Cx hr hlk hW hL (v := 21) ⟨rfl, ⟨(by unfold wsi; omega), by decide⟩⟩ dX4_word_71
  refine lv_tableOut (tgt := 72) hx hb dX4_word_1 (by rw [iv_toInt ⟨(by omega), (by omega)⟩]; omega) (by decide) ?_
  refine zLdc Cx 22 (by decide) ⟨rfl, rfl⟩ dX4_word_72 ?_
  exact sSret Cx hr hlk hW hL (v := 22) ⟨rfl, ⟨(by unfold wsi; omega), by decide⟩⟩ dX4_word_74

set_option maxRecDepth 100000 in
set_option maxHeartbeats 4000000 in
theorem b_X4_isWord (l : Launch) (G : sG) (S : sS) {f b : Int} {si : Nat} (hI : cX G S 0 0 0) (hfb : 0 ≤ f ∧ f ≤ b ∧ b ≤ 30001) (hsi : si < 38) (hrt : RT G S) : Met l yX4_isWord (.code yX4_isWord cX4_isWord 5 (some .boolean) :: tb) (rmk 5 0 0) (sPc G 294 S [.ref (G.2.2.1 + 189), .int (iv f), .int (iv b), .ref (G.1.2 100 si)]) (sQi G 294 (fun r u => u = S ∧ (0 ≤ r ∧ r ≤ 1 ∧ Hd (r = 1 ↔ WMc (bt S 1) f b si)))) 0 0 (sF G) := by
  refine sEnter (by decide) (Nat.le_of_ble_eq_true rfl) ?_
  intro p e s m args below meth c Cx hr hlk hnm hW ls hl
  have Cx : sC G p m c cX4_isWord 5 s args RX4 := Cx
  obtain ⟨hx, hb, hml, hown, hts⟩ := id Cx.1
  have hL : sL G [] := sL_nil
  have hl : lv_has ls 5 [(0, .ref (G.2.2.1 + 189)), (1, .int (iv f)), (2, .int (iv b)), (3, .ref (G.1.2 100 si))] := hl
  have hW0 := hW
  have hnr := strN_r si hsi
  have hl1 : 0 ≤ S.1 1 1 ∧ S.1 1 1 ≤ 30000 := hI.fi 1 1 10 (by decide) rfl
  refine lv_aload_n hx hb dX4_isWord_0 rfl (lv_at hl 3 rfl) ?_
  refine sBi (sVz (As := []) (rest := []) (a := G.1.2 100 si) Cx (s_J0_length_8abf5 l G S (si := si) hsi) (c_X4_87 Cx rfl rfl (rmk_ok (by omega) (by decide))) hW (zRecv Cx hW0 hW hsi) rfl hl.1 rfl (Nat.le_of_ble_eq_true rfl) dX4_isWord_1 ⟨Nat.le_of_ble_eq_true rfl, Nat.le_of_ble_eq_true rfl⟩) hL (fun r_3 u_1 H locs k_2 hW hL => ?_)
  obtain ⟨eu_1, xu_1⟩ := k_2
  rw [eu_1] at hW
  refine lv_iload_n hx hb dX4_isWord_4 rfl (lv_at hl 2 rfl) ?_
  refine lv_iload_n hx hb dX4_isWord_5 rfl (lv_at hl 1 rfl) ?_
  refine r_isub hx hb dX4_isWord_6 ?_
  refine r_icmp_eq (tgt := 12) hx hb ⟨(by omega), (by omega)⟩ ⟨(by omega), (by omega)⟩ dX4_isWord_7 (by decide) (fun c_4 => ?_) (fun c_4 => ?_)
  · refine lv_iconst (v := iv 0) hx hb dX4_isWord_12 (by decide) ?_
    refine lv_istore (lv' := [(4, .int (iv 0)), (0, .ref (G.2.2.1 + 189)), (1, .int (iv f)), (2, .int (iv b)), (3, .ref (G.1.2 100 si))]) hx hb dX4_isWord_13 hl (by decide) rfl (fun ls hl => ?_)
    have loop_15 : ∀ (fuel : Nat) (i : Int) (H : Heap) (locs : List Loc) (ls : Array Slot), (71 - i).toNat < fuel → (0 ≤ i ∧ i ≤ 70) → (i ≤ b - f) → (Hd (∀ j, 0 ≤ j → j < i → bt S 1 (f + j) = sB si j)) → sW G 294 S H → sL G locs → lv_has ls 5 [(4, .int (iv i)), (0, .ref (G.2.2.1 + 189)), (1, .int (iv f)), (2, .int (iv b)), (3, .ref (G.1.2 100 si))] → W p l e (rmk 5 0 0) s m args below meth c H locs 0 0 (MQ below (sQi G 294 (fun r u => u = S ∧ (0 ≤ r ∧ r ≤ 1 ∧ Hd (r = 1 ↔ WMc (bt S 1) f b si)))) args s 0 0 (sF G)) (F0 m 15 ls []) := by
      intro fuel
      induction fuel with
      | zero => intro i H locs ls hmeas hi hin hz hW hL hl; exact absurd hmeas (Nat.not_lt_zero _)
      | succ fuel ih_15 =>
        intro i H locs ls hmeas hi hin hz hW hL hl
        refine lv_iload hx hb dX4_isWord_15 (lv_at hl 0 rfl) ?_
        refine lv_aload_n hx hb dX4_isWord_17 rfl (lv_at hl 4 rfl) ?_
        refine sBi (sVz (As := []) (rest := [.int (iv i)]) (a := G.1.2 100 si) Cx (s_J0_length_8abf5 l G S (si := si) hsi) (c_X4_87 Cx rfl rfl (rmk_ok (by omega) (by decide))) hW (zRecv Cx hW0 hW hsi) rfl hl.1 rfl (Nat.le_of_ble_eq_true rfl) dX4_isWord_18 ⟨Nat.le_of_ble_eq_true rfl, Nat.le_of_ble_eq_true rfl⟩) hL (fun r_7 u_5 H locs k_6 hW hL => ?_)
        obtain ⟨eu_5, xu_5⟩ := k_6
        rw [eu_5] at hW
        refine r_icmp_ge (tgt := 52) hx hb ⟨(by omega), (by omega)⟩ ⟨(by omega), (by omega)⟩ dX4_isWord_21 (by decide) (fun c_8 => ?_) (fun c_8 => ?_)
        · refine lv_iconst (v := iv 1) hx hb dX4_isWord_52 (by decide) ?_
          exact sZret Cx hr hlk hW hL (by omega) ⟨rfl, ⟨(by omega), (by omega), (show _ ↔ _ from ⟨fun _ => ⟨by omega, fun j a c => hz j a (by omega)⟩, fun _ => rfl⟩)⟩⟩ dX4_isWord_53
        · refine lv_aload_n hx hb dX4_isWord_24 rfl (lv_at hl 1 rfl) ?_
          refine g_X4_14 Cx hW (k := 189) (by decide) rfl (v := .ref (G.2.2.1 + 1)) hrt dX4_isWord_25 ?_
          refine lv_iload_n hx hb dX4_isWord_28 rfl (lv_at hl 2 rfl) ?_
          refine lv_iload hx hb dX4_isWord_29 (lv_at hl 0 rfl) ?_
          refine r_iadd hx hb dX4_isWord_31 ?_
          have q_9 : 0 ≤ S.1 1 1 ∧ S.1 1 1 ≤ 30000 := hI.fi 1 1 10 (by decide) rfl
          refine sBi (sV (As := [.int (iv (f + i))]) (rest := []) (k := 1) Cx (s_X10_byteAt l G S (o := 1) (k := f + i) (N := 30000) hI ⟨by decide, rfl, rfl, rfl, rfl, by decide⟩ (by omega)) (c_X4_43 Cx rfl rfl (rmk_ok (by omega) (by decide))) hW (by decide) rfl rfl rfl hl.1 rfl (Nat.le_of_ble_eq_true rfl) dX4_isWord_32 ⟨Nat.le_of_ble_eq_true rfl, Nat.le_of_ble_eq_true rfl⟩) hL (fun r_12 u_10 H locs k_11 hW hL => ?_)
          obtain ⟨eu_10, xu_10⟩ := k_11
          rw [eu_10] at hW
          refine lv_aload_n hx hb dX4_isWord_35 rfl (lv_at hl 4 rfl) ?_
          refine lv_iload hx hb dX4_isWord_36 (lv_at hl 0 rfl) ?_
          refine sBi (sVz (As := [.int (iv i)]) (rest := [.int (iv r_12)]) (a := G.1.2 100 si) Cx (b_J0_charAt l G S (si := si) (k := i) hsi (by omega)) (c_X4_90 Cx rfl rfl (rmk_ok (by omega) (by decide))) hW (zRecv Cx hW0 hW hsi) rfl hl.1 rfl (Nat.le_of_ble_eq_true rfl) dX4_isWord_38 ⟨Nat.le_of_ble_eq_true rfl, Nat.le_of_ble_eq_true rfl⟩) hL (fun r_15 u_13 H locs k_14 hW hL => ?_)
          obtain ⟨eu_13, xu_13⟩ := k_14
          rw [eu_13] at hW
          refine r_icmp_eq (tgt := 46) hx hb ⟨(by omega), (by omega)⟩ ⟨(by omega), (by omega)⟩ dX4_isWord_41 (by decide) (fun c_16 => ?_) (fun c_16 => ?_)
          · refine lv_iinc (v := iv (i + 1)) (lv' := [(4, .int (iv (i + 1))), (0, .ref (G.2.2.1 + 189)), (1, .int (iv f)), (2, .int (iv b)), (3, .ref (G.1.2 100 si))]) hx hb dX4_isWord_46 hl (k := 0) rfl ((Int32.ofInt_add _ _).symm) (by decide) rfl (fun ls hl => ?_)
            refine lv_goto (tgt := 15) hx hb dX4_isWord_49 (by decide) ?_
            exact ih_15 (i + 1) _ _ _ (by omega) (by omega) (by omega) (fun j a c => by by_cases q : j = i; (rw [q]; have e1 := xu_10.1; have e2 := xu_13.1; omega); exact hz j a (by omega)) hW hL (lv_sub hl [0, 1, 2, 3, 4] rfl)
          · refine lv_iconst (v := iv 0) hx hb dX4_isWord_44 (by decide) ?_
            exact sZret Cx hr hlk hW hL (by omega) ⟨rfl, ⟨(by omega), (by omega), (show _ ↔ _ from ⟨fun q => absurd q (by omega), fun q => by have q1 := q.2 i (by omega) (by omega); have e1 := xu_10.1; have e2 := xu_13.1; exfalso; omega⟩)⟩⟩ dX4_isWord_45
    exact loop_15 (_ + 1) 0 _ _ _ (Nat.lt_succ_self _) (by omega) (by omega) (fun j a c => absurd c (by omega)) hW hL (lv_sub hl [0, 1, 2, 3, 4] rfl)
  · refine lv_iconst (v := iv 0) hx hb dX4_isWord_10 (by decide) ?_
    exact sZret Cx hr hlk hW hL (by omega) ⟨rfl, ⟨(by omega), (by omega), (show _ ↔ _ from ⟨fun q => absurd q (by omega), fun q => by have q1 := q.1; exfalso; omega⟩)⟩⟩ dX4_isWord_11
