def pH (k : Nat) : Bool := rgB 3 4 k || rgB 119 184 k || rgB 193 224 k || Nat.beq k 227
theorem pH_i {k : Nat} (h : (3 ≤ k ∧ k ≤ 4) ∨ (119 ≤ k ∧ k ≤ 184) ∨ (193 ≤ k ∧ k ≤ 224) ∨ k = 227) : pH k = true := by
  rw [pH]
  rcases h with h | h | h | h
  · rw [rgB_i h]; rfl
  · rw [rgB_i h, Bool.or_true]; rfl
  · rw [rgB_i h, Bool.or_true]; rfl
  · rw [h]; rfl
theorem pN_t {k : Nat} (h : pN k = true) : (3 ≤ k ∧ k ≤ 4) ∨ (121 ≤ k ∧ k ≤ 184) ∨ (194 ≤ k ∧ k ≤ 224) ∨ k = 227 := by
  simp only [pN, Bool.or_eq_true] at h
  rcases h with (((((h | h) | h) | h) | h) | h) | h
  all_goals first | (have := rgB_t h; omega) | (have := Nat.eq_of_beq_eq_true h; omega)
theorem pX_H : ∀ k, pX k = true → pH k = true := by
  have a : ∀ k, k < 231 → pX k = true → pH k = true := by decide +kernel
  intro k h
  have := rgB_t (pC_A k (pX_C k h))
  exact a k (by omega) h
theorem pW_H : ∀ k, pW k = true → pH k = true := by
  have a : ∀ k, k < 231 → pW k = true → pH k = true := by decide +kernel
  intro k h
  have := rgB_t (pW_A k h)
  exact a k (by omega) h
theorem pH_C : ∀ k, pH k = true → pC k = true := fun k h => by
  simp only [pH, Bool.or_eq_true] at h
  rw [pC, rgB_i (a := 3) (b := 230) (by rcases h with ((h | h) | h) | h; all_goals first | (have := rgB_t h; omega) | (have := Nat.eq_of_beq_eq_true h; omega)), Bool.or_true]
theorem cX.mod119 {G : sG} {S : sS} {x y : Nat} {b : Int} {o : Nat} (h : cX G S x y b) (m : mdl o) : cX G (uR S 119 7 (.ref (G.2.2.1 + o))) x y b := by
  have eo : ∀ k i, ¬ (k = 119 ∧ i = 7) → (uR S 119 7 (.ref (G.2.2.1 + o))).2.2.2 k i = S.2.2.2 k i := fun k i q => uR_ne q
  obtain ⟨m1, ⟨m2, m3, m4⟩, ⟨m5, m6, m7⟩, ⟨m8, m9, m10⟩, m11, m12⟩ := h.rm
  refine h.putR (show tau 119 = .inl 7 from rfl) (by decide) (by decide) ⟨?_, ⟨m2, m3, by rw [eo _ _ (by decide)]; exact m4⟩, ⟨o, m, uR_on⟩, ⟨m8, m9, by rw [eo _ _ (by decide)]; exact m10⟩, ?_, ?_⟩
  · rw [eo _ _ (by decide), eo _ _ (by decide)]; exact m1
  · rw [eo _ _ (by decide), eo _ _ (by decide)]; exact m11
  · rw [eo _ _ (by decide)]; exact m12
set_option maxRecDepth 100000 in
set_option maxHeartbeats 4000000 in
theorem s_X7_start (l : Launch) (G : sG) (S : sS) {md : Nat} {al : Int} (hI : cX G S 0 0 0) (hm2 : mdl md) (hal : 0 ≤ al ∧ al ≤ 20) : Met l yX7_start (.code yX7_start cX7_start 3 none :: tb) (rmk 5 0 0) (sPc G 294 S [.ref (G.2.2.1 + 119), .ref (G.2.2.1 + md), .int (iv al)]) (sQv G 294 (fun u => cX G u 0 0 0 ∧ Fr S u pH)) 0 0 (sF G) := by
  refine sEnter (by decide) (Nat.le_of_ble_eq_true rfl) ?_
  intro p e s m args below meth c Cx hr hlk hnm hW ls hl
  have Cx : sC G p m c cX7_start 3 s args RX7 := Cx
  obtain ⟨hx, hb, hml, hown, hts⟩ := id Cx.1
  have hL : sL G [] := sL_nil
  have hl : lv_has ls 3 [(0, .ref (G.2.2.1 + 119)), (1, .ref (G.2.2.1 + md)), (2, .int (iv al))] := hl
  have hW0 := hW
  refine lv_aload_n hx hb dX7_start_0 rfl (lv_at hl 0 rfl) ?_
  refine lv_aload_n hx hb dX7_start_1 rfl (lv_at hl 1 rfl) ?_
  refine p_X7_51 Cx hW hL (k := 119) (by decide) rfl dX7_start_2 (fun H locs hW hL => ?_)
  have F_1 : Fr S (uR S 119 7 (.ref (G.2.2.1 + md))) pH := (Fr.rf : Fr S S pH).R rfl
  have i_2 : cX G (uR S 119 7 (.ref (G.2.2.1 + md))) 0 0 0 := hI.mod119 hm2
  refine lv_aload_n hx hb dX7_start_5 rfl (lv_at hl 0 rfl) ?_
  refine lv_iload_n hx hb dX7_start_6 rfl (lv_at hl 2 rfl) ?_
  refine p_X7_55 Cx hW hL (k := 119) (by decide) rfl dX7_start_7 (fun H locs hW hL => ?_)
  have F_3 : Fr S (uF (uR S 119 7 (.ref (G.2.2.1 + md))) 119 8 al) pH := F_1.F rfl
  have i_4 : cX G (uF (uR S 119 7 (.ref (G.2.2.1 + md))) 119 8 al) 0 0 0 := i_2.F rfl rfl (show 0 ≤ al ∧ al ≤ 20 from ⟨by omega, by omega⟩)
  refine lv_aload_n hx hb dX7_start_10 rfl (lv_at hl 0 rfl) ?_
  refine g_X7_12 Cx hW (k := 119) (by decide) rfl (v := .ref (G.2.2.1 + 120)) (rf_119_0 i_4) dX7_start_11 ?_
  refine lv_aload_n hx hb dX7_start_14 rfl (lv_at hl 1 rfl) ?_
  refine sBv (sV (As := [.ref (G.2.2.1 + md)]) (rest := []) (k := 120) Cx (s_X6_take_120 l G (uF (uR S 119 7 (.ref (G.2.2.1 + md))) 119 8 al) (md := md) i_4 hm2) (c_X7_59 Cx rfl rfl (rmk_ok (by omega) (by decide))) hW (by decide) rfl rfl rfl hl.1 rfl (Nat.le_of_ble_eq_true rfl) dX7_start_15 ⟨Nat.le_of_ble_eq_true rfl, Nat.le_of_ble_eq_true rfl⟩) hL (fun u_5 H locs k_6 hW hL => ?_)
  obtain ⟨iu_5, fu_5⟩ := k_6
  have F_7 := F_3.trans (fu_5.to pW_H)
  refine lv_aload_n hx hb dX7_start_18 rfl (lv_at hl 0 rfl) ?_
  refine g_X7_21 Cx hW (k := 119) (by decide) rfl (v := .ref (G.2.2.1 + 135)) (rf_119_1 iu_5) dX7_start_19 ?_
  refine lv_aload_n hx hb dX7_start_22 rfl (lv_at hl 1 rfl) ?_
  refine sBv (sV (As := [.ref (G.2.2.1 + md)]) (rest := []) (k := 135) Cx (s_X2_start l G u_5 (md := md) iu_5 hm2) (c_X7_63 Cx rfl rfl (rmk_ok (by omega) (by decide))) hW (by decide) rfl rfl rfl hl.1 rfl (Nat.le_of_ble_eq_true rfl) dX7_start_23 ⟨Nat.le_of_ble_eq_true rfl, Nat.le_of_ble_eq_true rfl⟩) hL (fun u_8 H locs k_9 hW hL => ?_)
  obtain ⟨iu_8, fu_8⟩ := k_9
  have F_10 := F_7.trans (fu_8.to pX_H)
  refine lv_aload_n hx hb dX7_start_26 rfl (lv_at hl 0 rfl) ?_
  refine g_X7_28 Cx hW (k := 119) (by decide) rfl (v := .ref (G.2.2.1 + 157)) (rf_119_2 iu_8) dX7_start_27 ?_
  refine sBv (sV (As := []) (rest := []) (k := 157) Cx (s_X5_clear l G u_8  iu_8) (c_X7_66 Cx rfl rfl (rmk_ok (by omega) (by decide))) hW (by decide) rfl rfl rfl hl.1 rfl (Nat.le_of_ble_eq_true rfl) dX7_start_30 ⟨Nat.le_of_ble_eq_true rfl, Nat.le_of_ble_eq_true rfl⟩) hL (fun u_11 H locs k_12 hW hL => ?_)
  obtain ⟨iu_11, fu_11⟩ := k_12
  have F_13 := F_10.trans (fu_11.to (fun k h => pW_H k (pN_W k h)))
  refine lv_aload_n hx hb dX7_start_33 rfl (lv_at hl 0 rfl) ?_
  refine lv_iconst (v := iv 1) hx hb dX7_start_34 (by decide) ?_
  refine p_X7_69 Cx hW hL (k := 119) (by decide) rfl dX7_start_35 (fun H locs hW hL => ?_)
  have F_14 : Fr S (uF u_11 119 9 1) pH := F_13.F rfl
  have i_15 : cX G (uF u_11 119 9 1) 0 0 0 := iu_11.status ⟨by omega, by omega⟩ (by omega)
  refine lv_aload_n hx hb dX7_start_38 rfl (lv_at hl 0 rfl) ?_
  refine lv_iconst (v := iv 0) hx hb dX7_start_39 (by decide) ?_
  refine p_X7_72 Cx hW hL (k := 119) (by decide) rfl dX7_start_40 (fun H locs hW hL => ?_)
  have F_16 : Fr S (uF (uF u_11 119 9 1) 119 10 0) pH := F_14.F rfl
  have i_17 : cX G (uF (uF u_11 119 9 1) 119 10 0) 0 0 0 := i_15.F rfl rfl (show (-2147483648) ≤ 0 ∧ 0 ≤ 2147483647 from ⟨by omega, by omega⟩)
  refine lv_aload_n hx hb dX7_start_43 rfl (lv_at hl 0 rfl) ?_
  refine lv_iconst (v := iv 1) hx hb dX7_start_44 (by decide) ?_
  refine p_X7_75 Cx hW hL (k := 119) (by decide) rfl dX7_start_45 (fun H locs hW hL => ?_)
  have F_18 : Fr S (uF (uF (uF u_11 119 9 1) 119 10 0) 119 11 1) pH := F_16.F rfl
  have i_19 : cX G (uF (uF (uF u_11 119 9 1) 119 10 0) 119 11 1) 0 0 0 := i_17.F rfl rfl (show 0 ≤ 1 ∧ 1 ≤ 1000 from ⟨by omega, by omega⟩)
  refine lv_aload_n hx hb dX7_start_48 rfl (lv_at hl 0 rfl) ?_
  refine lv_iconst (v := iv 0) hx hb dX7_start_49 (by decide) ?_
  refine p_X7_78 Cx hW hL (k := 119) (by decide) rfl dX7_start_50 (fun H locs hW hL => ?_)
  have F_20 : Fr S (uF (uF (uF (uF u_11 119 9 1) 119 10 0) 119 11 1) 119 12 0) pH := F_18.F rfl
  have i_21 : cX G (uF (uF (uF (uF u_11 119 9 1) 119 10 0) 119 11 1) 119 12 0) 0 0 0 := i_19.F rfl rfl (show (-2147483648) ≤ 0 ∧ 0 ≤ 2147483647 from ⟨by omega, by omega⟩)
  refine lv_aload_n hx hb dX7_start_53 rfl (lv_at hl 0 rfl) ?_
  refine lv_iconst (v := iv 0) hx hb dX7_start_54 (by decide) ?_
  refine p_X7_81 Cx hW hL (k := 119) (by decide) rfl dX7_start_55 (fun H locs hW hL => ?_)
  have F_22 : Fr S (uF (uF (uF (uF (uF u_11 119 9 1) 119 10 0) 119 11 1) 119 12 0) 119 13 0) pH := F_20.F rfl
  have i_23 : cX G (uF (uF (uF (uF (uF u_11 119 9 1) 119 10 0) 119 11 1) 119 12 0) 119 13 0) 0 0 0 := i_21.F rfl rfl (show (-2147483648) ≤ 0 ∧ 0 ≤ 2147483647 from ⟨by omega, by omega⟩)
  refine lv_aload_n hx hb dX7_start_58 rfl (lv_at hl 0 rfl) ?_
  refine lv_aload_n hx hb dX7_start_59 rfl (lv_at hl 0 rfl) ?_
  refine g_X7_21 Cx hW (k := 119) (by decide) rfl (v := .ref (G.2.2.1 + 135)) (rf_119_1 i_23) dX7_start_60 ?_
  have q_24 : 0 ≤ u_8.1 135 16 ∧ u_8.1 135 16 ≤ 1 := iu_8.fi 135 16 2 (by decide) rfl
  have lk_25 : (uF (uF (uF (uF (uF u_11 119 9 1) 119 10 0) 119 11 1) 119 12 0) 119 13 0).1 135 16 = u_8.1 135 16 := (uF_ne (fun h => absurd h.2 (by decide))).trans ((uF_ne (fun h => absurd h.2 (by decide))).trans ((uF_ne (fun h => absurd h.2 (by decide))).trans ((uF_ne (fun h => absurd h.2 (by decide))).trans ((uF_ne (fun h => absurd h.2 (by decide))).trans ((fu_11 135 rfl).1 16)))))
  refine sBi (sV (As := []) (rest := [.ref (G.2.2.1 + 119)]) (k := 135) Cx (s_X2_hasHelper l G (uF (uF (uF (uF (uF u_11 119 9 1) 119 10 0) 119 11 1) 119 12 0) 119 13 0)  i_23) (c_X7_84 Cx rfl rfl (rmk_ok (by omega) (by decide))) hW (by decide) rfl rfl rfl hl.1 rfl (Nat.le_of_ble_eq_true rfl) dX7_start_63 ⟨Nat.le_of_ble_eq_true rfl, Nat.le_of_ble_eq_true rfl⟩) hL (fun r_28 u_26 H locs k_27 hW hL => ?_)
  obtain ⟨eu_26, xu_26⟩ := k_27
  rw [eu_26] at hW
  refine r_if_eq (tgt := 73) hx hb ⟨(by omega), (by omega)⟩ dX7_start_66 (by decide) (fun c_29 => ?_) (fun c_29 => ?_)
  · refine lv_iconst (v := iv 2) hx hb dX7_start_73 (by decide) ?_
    refine p_X7_88 Cx hW hL (k := 119) (by decide) rfl dX7_start_74 (fun H locs hW hL => ?_)
    have F_30 : Fr S (uF (uF (uF (uF (uF (uF u_11 119 9 1) 119 10 0) 119 11 1) 119 12 0) 119 13 0) 119 14 2) pH := F_22.F rfl
    have i_31 : cX G (uF (uF (uF (uF (uF (uF u_11 119 9 1) 119 10 0) 119 11 1) 119 12 0) 119 13 0) 119 14 2) 0 0 0 := i_23.F rfl rfl (show 0 ≤ 2 ∧ 2 ≤ 3 from ⟨by omega, by omega⟩)
    refine lv_aload_n hx hb dX7_start_77 rfl (lv_at hl 0 rfl) ?_
    refine lv_iconst (v := iv 0) hx hb dX7_start_78 (by decide) ?_
    refine p_X7_91 Cx hW hL (k := 119) (by decide) rfl dX7_start_79 (fun H locs hW hL => ?_)
    have F_32 : Fr S (uF (uF (uF (uF (uF (uF (uF u_11 119 9 1) 119 10 0) 119 11 1) 119 12 0) 119 13 0) 119 14 2) 119 15 0) pH := F_30.F rfl
    have i_33 : cX G (uF (uF (uF (uF (uF (uF (uF u_11 119 9 1) 119 10 0) 119 11 1) 119 12 0) 119 13 0) 119 14 2) 119 15 0) 0 0 0 := i_31.F rfl rfl (show 0 ≤ 0 ∧ 0 ≤ 6 from ⟨by omega, by omega⟩)
    exact sVret Cx hr hlk hW hL ⟨i_33, F_32⟩ dX7_start_82
  · refine lv_iconst (v := iv 1) hx hb dX7_start_69 (by decide) ?_
    refine lv_goto (tgt := 74) hx hb dX7_start_70 (by decide) ?_
    refine p_X7_88 Cx hW hL (k := 119) (by decide) rfl dX7_start_74 (fun H locs hW hL => ?_)
    have F_34 : Fr S (uF (uF (uF (uF (uF (uF u_11 119 9 1) 119 10 0) 119 11 1) 119 12 0) 119 13 0) 119 14 1) pH := F_22.F rfl
    have i_35 : cX G (uF (uF (uF (uF (uF (uF u_11 119 9 1) 119 10 0) 119 11 1) 119 12 0) 119 13 0) 119 14 1) 0 0 0 := i_23.F rfl rfl (show 0 ≤ 1 ∧ 1 ≤ 3 from ⟨by omega, by omega⟩)
    refine lv_aload_n hx hb dX7_start_77 rfl (lv_at hl 0 rfl) ?_
    refine lv_iconst (v := iv 0) hx hb dX7_start_78 (by decide) ?_
    refine p_X7_91 Cx hW hL (k := 119) (by decide) rfl dX7_start_79 (fun H locs hW hL => ?_)
    have F_36 : Fr S (uF (uF (uF (uF (uF (uF (uF u_11 119 9 1) 119 10 0) 119 11 1) 119 12 0) 119 13 0) 119 14 1) 119 15 0) pH := F_34.F rfl
    have i_37 : cX G (uF (uF (uF (uF (uF (uF (uF u_11 119 9 1) 119 10 0) 119 11 1) 119 12 0) 119 13 0) 119 14 1) 119 15 0) 0 0 0 := i_35.F rfl rfl (show 0 ≤ 0 ∧ 0 ≤ 6 from ⟨by omega, by omega⟩)
    exact sVret Cx hr hlk hW hL ⟨i_37, F_36⟩ dX7_start_82

set_option maxRecDepth 100000 in
set_option maxHeartbeats 4000000 in
theorem s_X7_rowNumber (l : Launch) (G : sG) (S : sS) {k j : Int} (hI : cX G S 0 0 0) (hk : -2147483648 ≤ k ∧ k ≤ 2147483647) (hj : -2147483648 ≤ j ∧ j ≤ 2147483647) : Met l yX7_rowNumber (.code yX7_rowNumber cX7_rowNumber 3 (some .long) :: tb) (rmk 4 0 0) (sPc G 294 S [.ref (G.2.2.1 + 119), .int (iv k), .int (iv j)]) (sQl G 294 (fun r u => cX G u 0 0 0 ∧ Fr S u pN ∧ (-9223372036854775808 ≤ r ∧ r ≤ 9223372036854775807))) 0 0 (sF G) := by
  refine sEnter (by decide) (Nat.le_of_ble_eq_true rfl) ?_
  intro p e s m args below meth c Cx hr hlk hnm hW ls hl
  have Cx : sC G p m c cX7_rowNumber 3 s args RX7 := Cx
  obtain ⟨hx, hb, hml, hown, hts⟩ := id Cx.1
  have hL : sL G [] := sL_nil
  have hl : lv_has ls 3 [(0, .ref (G.2.2.1 + 119)), (1, .int (iv k)), (2, .int (iv j))] := hl
  have hW0 := hW
  refine lv_aload_n hx hb dX7_rowNumber_0 rfl (lv_at hl 0 rfl) ?_
  refine g_X7_12 Cx hW (k := 119) (by decide) rfl (v := .ref (G.2.2.1 + 120)) (rf_119_0 hI) dX7_rowNumber_1 ?_
  refine lv_iload_n hx hb dX7_rowNumber_4 rfl (lv_at hl 1 rfl) ?_
  refine lv_iload_n hx hb dX7_rowNumber_5 rfl (lv_at hl 2 rfl) ?_
  refine sBl (sV (As := [.int (iv k), .int (iv j)]) (rest := []) (k := 120) Cx (s_X6_lowBits_120 l G S (k := k) (j := j) hI (by omega) (by omega)) (c_X7_94 Cx rfl rfl (rmk_ok (by omega) (by decide))) hW (by decide) rfl rfl rfl hl.1 rfl (Nat.le_of_ble_eq_true rfl) dX7_rowNumber_6 ⟨Nat.le_of_ble_eq_true rfl, Nat.le_of_ble_eq_true rfl⟩) hL (fun r_3 u_1 H locs k_2 hW hL => ?_)
  obtain ⟨iu_1, fu_1, xu_1⟩ := k_2
  have F_4 := (Fr.rf : Fr S S pN).trans fu_1
  exact sLret Cx hr hlk hW hL ⟨iu_1, F_4, (by omega)⟩ dX7_rowNumber_9

set_option maxRecDepth 100000 in
set_option maxHeartbeats 4000000 in
theorem s_X7_isProved (l : Launch) (G : sG) (S : sS)  (hI : cX G S 0 0 0) : Met l yX7_isProved (.code yX7_isProved cX7_isProved 1 (some .boolean) :: tb) (rmk 1 0 0) (sPc G 294 S [.ref (G.2.2.1 + 119)]) (sQi G 294 (fun r u => u = S ∧ (0 ≤ r ∧ r ≤ 1))) 0 0 (sF G) := by
  refine sEnter (by decide) (Nat.le_of_ble_eq_true rfl) ?_
  intro p e s m args below meth c Cx hr hlk hnm hW ls hl
  have Cx : sC G p m c cX7_isProved 1 s args RX7 := Cx
  obtain ⟨hx, hb, hml, hown, hts⟩ := id Cx.1
  have hL : sL G [] := sL_nil
  have hl : lv_has ls 1 [(0, .ref (G.2.2.1 + 119))] := hl
  have hW0 := hW
  refine lv_aload_n hx hb dX7_isProved_0 rfl (lv_at hl 0 rfl) ?_
  have q_1 : 0 ≤ S.1 119 9 ∧ S.1 119 9 ≤ 6 := hI.fi 119 9 7 (by decide) rfl
  refine g_X7_69 Cx hW (k := 119) (by decide) rfl (v := S.1 119 9) rfl dX7_isProved_1 ?_
  refine lv_iconst (v := iv 2) hx hb dX7_isProved_4 (by decide) ?_
  refine r_icmp_lt (tgt := 20) hx hb ⟨(by omega), (by omega)⟩ ⟨(by omega), (by omega)⟩ dX7_isProved_5 (by decide) (fun c_2 => ?_) (fun c_2 => ?_)
  · refine lv_iconst (v := iv 0) hx hb dX7_isProved_20 (by decide) ?_
    exact sZret Cx hr hlk hW hL (by omega) ⟨rfl, (by omega)⟩ dX7_isProved_21
  · refine lv_aload_n hx hb dX7_isProved_8 rfl (lv_at hl 0 rfl) ?_
    refine g_X7_69 Cx hW (k := 119) (by decide) rfl (v := S.1 119 9) rfl dX7_isProved_9 ?_
    refine lv_iconst (v := iv 4) hx hb dX7_isProved_12 (by decide) ?_
    refine r_icmp_gt (tgt := 20) hx hb ⟨(by omega), (by omega)⟩ ⟨(by omega), (by omega)⟩ dX7_isProved_13 (by decide) (fun c_3 => ?_) (fun c_3 => ?_)
    · refine lv_iconst (v := iv 0) hx hb dX7_isProved_20 (by decide) ?_
      exact sZret Cx hr hlk hW hL (by omega) ⟨rfl, (by omega)⟩ dX7_isProved_21
    · refine lv_iconst (v := iv 1) hx hb dX7_isProved_16 (by decide) ?_
      refine lv_goto (tgt := 21) hx hb dX7_isProved_17 (by decide) ?_
      exact sZret Cx hr hlk hW hL (by omega) ⟨rfl, (by omega)⟩ dX7_isProved_21

set_option maxRecDepth 100000 in
set_option maxHeartbeats 4000000 in
theorem s_X7_state (l : Launch) (G : sG) (S : sS) {k : Int} (hI : cX G S 0 0 0) (hk : -2147483648 ≤ k ∧ k ≤ 2147483647) : Met l yX7_state (.code yX7_state cX7_state 2 (some .int) :: tb) (rmk 3 0 0) (sPc G 294 S [.ref (G.2.2.1 + 119), .int (iv k)]) (sQi G 294 (fun r u => u = S ∧ (-2147483648 ≤ r ∧ r ≤ 2147483647))) 0 0 (sF G) := by
  refine sEnter (by decide) (Nat.le_of_ble_eq_true rfl) ?_
  intro p e s m args below meth c Cx hr hlk hnm hW ls hl
  have Cx : sC G p m c cX7_state 2 s args RX7 := Cx
  obtain ⟨hx, hb, hml, hown, hts⟩ := id Cx.1
  have hL : sL G [] := sL_nil
  have hl : lv_has ls 2 [(0, .ref (G.2.2.1 + 119)), (1, .int (iv k))] := hl
  have hW0 := hW
  refine lv_iload_n hx hb dX7_state_0 rfl (lv_at hl 1 rfl) ?_
  by_cases c_1 : k = 0
  · refine lv_tableIn (off := 51) (tgt := 52) hx hb dX7_state_1 (by rw [c_1]; decide) (by rw [c_1]; decide) (by rw [c_1]; decide) (by decide) ?_
    refine lv_aload_n hx hb dX7_state_52 rfl (lv_at hl 0 rfl) ?_
    have q_2 : 0 ≤ S.1 119 9 ∧ S.1 119 9 ≤ 6 := hI.fi 119 9 7 (by decide) rfl
    refine g_X7_69 Cx hW (k := 119) (by decide) rfl (v := S.1 119 9) rfl dX7_state_53 ?_
    exact sIret Cx hr hlk hW hL ⟨rfl, (by omega)⟩ dX7_state_56
  by_cases c_3 : k = 1
  · refine lv_tableIn (off := 56) (tgt := 57) hx hb dX7_state_1 (by rw [c_3]; decide) (by rw [c_3]; decide) (by rw [c_3]; decide) (by decide) ?_
    refine lv_aload_n hx hb dX7_state_57 rfl (lv_at hl 0 rfl) ?_
    have q_4 : (-2147483648) ≤ S.1 119 10 ∧ S.1 119 10 ≤ 2147483647 := hI.fi 119 10 7 (by decide) rfl
    refine g_X7_72 Cx hW (k := 119) (by decide) rfl (v := S.1 119 10) rfl dX7_state_58 ?_
    exact sIret Cx hr hlk hW hL ⟨rfl, (by omega)⟩ dX7_state_61
  by_cases c_5 : k = 2
  · refine lv_tableIn (off := 61) (tgt := 62) hx hb dX7_state_1 (by rw [c_5]; decide) (by rw [c_5]; decide) (by rw [c_5]; decide) (by decide) ?_
    refine lv_aload_n hx hb dX7_state_62 rfl (lv_at hl 0 rfl) ?_
    have q_6 : 0 ≤ S.1 119 11 ∧ S.1 119 11 ≤ 1000 := hI.fi 119 11 7 (by decide) rfl
    refine g_X7_75 Cx hW (k := 119) (by decide) rfl (v := S.1 119 11) rfl dX7_state_63 ?_
    exact sIret Cx hr hlk hW hL ⟨rfl, (by omega)⟩ dX7_state_66
  by_cases c_7 : k = 3
  · refine lv_tableIn (off := 66) (tgt := 67) hx hb dX7_state_1 (by rw [c_7]; decide) (by rw [c_7]; decide) (by rw [c_7]; decide) (by decide) ?_
    refine lv_aload_n hx hb dX7_state_67 rfl (lv_at hl 0 rfl) ?_
    have q_8 : (-2147483648) ≤ S.1 119 12 ∧ S.1 119 12 ≤ 2147483647 := hI.fi 119 12 7 (by decide) rfl
    refine g_X7_78 Cx hW (k := 119) (by decide) rfl (v := S.1 119 12) rfl dX7_state_68 ?_
    exact sIret Cx hr hlk hW hL ⟨rfl, (by omega)⟩ dX7_state_71
  by_cases c_9 : k = 4
  · refine lv_tableIn (off := 71) (tgt := 72) hx hb dX7_state_1 (by rw [c_9]; decide) (by rw [c_9]; decide) (by rw [c_9]; decide) (by decide) ?_
    refine lv_aload_n hx hb dX7_state_72 rfl (lv_at hl 0 rfl) ?_
    have q_10 : (-2147483648) ≤ S.1 119 13 ∧ S.1 119 13 ≤ 2147483647 := hI.fi 119 13 7 (by decide) rfl
    refine g_X7_81 Cx hW (k := 119) (by decide) rfl (v := S.1 119 13) rfl dX7_state_73 ?_
    exact sIret Cx hr hlk hW hL ⟨rfl, (by omega)⟩ dX7_state_76
  by_cases c_11 : k = 5
  · refine lv_tableIn (off := 76) (tgt := 77) hx hb dX7_state_1 (by rw [c_11]; decide) (by rw [c_11]; decide) (by rw [c_11]; decide) (by decide) ?_
    refine lv_aload_n hx hb dX7_state_77 rfl (lv_at hl 0 rfl) ?_
    refine g_X7_12 Cx hW (k := 119) (by decide) rfl (v := .ref (G.2.2.1 + 120)) (rf_119_0 hI) dX7_state_78 ?_
    have q_12 : 0 ≤ S.1 120 9 ∧ S.1 120 9 ≤ 40 := hI.fi 120 9 6 (by decide) rfl
    refine sBi (sV (As := []) (rest := []) (k := 120) Cx (s_X6_count_120 l G S  hI) (c_X7_98 Cx rfl rfl (rmk_ok (by omega) (by decide))) hW (by decide) rfl rfl rfl hl.1 rfl (Nat.le_of_ble_eq_true rfl) dX7_state_81 ⟨Nat.le_of_ble_eq_true rfl, Nat.le_of_ble_eq_true rfl⟩) hL (fun r_15 u_13 H locs k_14 hW hL => ?_)
    obtain ⟨eu_13, xu_13⟩ := k_14
    rw [eu_13] at hW
    exact sIret Cx hr hlk hW hL ⟨rfl, (by omega)⟩ dX7_state_84
  by_cases c_16 : k = 6
  · refine lv_tableIn (off := 84) (tgt := 85) hx hb dX7_state_1 (by rw [c_16]; decide) (by rw [c_16]; decide) (by rw [c_16]; decide) (by decide) ?_
    refine lv_aload_n hx hb dX7_state_85 rfl (lv_at hl 0 rfl) ?_
    refine g_X7_12 Cx hW (k := 119) (by decide) rfl (v := .ref (G.2.2.1 + 120)) (rf_119_0 hI) dX7_state_86 ?_
    have q_17 : 0 ≤ S.1 120 9 ∧ S.1 120 9 ≤ 40 := hI.fi 120 9 6 (by decide) rfl
    refine sBi (sV (As := []) (rest := []) (k := 120) Cx (s_X6_count_120 l G S  hI) (c_X7_98 Cx rfl rfl (rmk_ok (by omega) (by decide))) hW (by decide) rfl rfl rfl hl.1 rfl (Nat.le_of_ble_eq_true rfl) dX7_state_89 ⟨Nat.le_of_ble_eq_true rfl, Nat.le_of_ble_eq_true rfl⟩) hL (fun r_20 u_18 H locs k_19 hW hL => ?_)
    obtain ⟨eu_18, xu_18⟩ := k_19
    rw [eu_18] at hW
    refine lv_aload_n hx hb dX7_state_92 rfl (lv_at hl 0 rfl) ?_
    obtain ⟨o_21, mo_21, eo_21⟩ := hI.rm.2.2.1
    refine g_X7_51 Cx hW (k := 119) (by decide) rfl (v := .ref (G.2.2.1 + o_21)) eo_21 dX7_state_93 ?_
    have q_22 : 0 ≤ S.1 o_21 3 ∧ S.1 o_21 3 ≤ 16 := hI.fi o_21 3 3 (mdl_k mo_21) mo_21.1
    refine g_X7_102 Cx hW (k := o_21) (mdl_l mo_21) mo_21.1 (v := S.1 o_21 3) rfl dX7_state_96 ?_
    refine r_isub hx hb dX7_state_99 ?_
    exact sIret Cx hr hlk hW hL ⟨rfl, (by omega)⟩ dX7_state_100
  by_cases c_23 : k = 7
  · refine lv_tableIn (off := 100) (tgt := 101) hx hb dX7_state_1 (by rw [c_23]; decide) (by rw [c_23]; decide) (by rw [c_23]; decide) (by decide) ?_
    refine lv_aload_n hx hb dX7_state_101 rfl (lv_at hl 0 rfl) ?_
    have q_24 : 0 ≤ S.1 119 14 ∧ S.1 119 14 ≤ 3 := hI.fi 119 14 7 (by decide) rfl
    refine g_X7_88 Cx hW (k := 119) (by decide) rfl (v := S.1 119 14) rfl dX7_state_102 ?_
    exact sIret Cx hr hlk hW hL ⟨rfl, (by omega)⟩ dX7_state_105
  by_cases c_25 : k = 8
  · refine lv_tableIn (off := 105) (tgt := 106) hx hb dX7_state_1 (by rw [c_25]; decide) (by rw [c_25]; decide) (by rw [c_25]; decide) (by decide) ?_
    refine lv_aload_n hx hb dX7_state_106 rfl (lv_at hl 0 rfl) ?_
    refine sBi (sV (As := []) (rest := []) (k := 119) Cx (s_X7_isProved l G S  hI) (c_X7_104 Cx rfl rfl (rmk_ok (by omega) (by decide))) hW (by decide) rfl rfl rfl hl.1 rfl (Nat.le_of_ble_eq_true rfl) dX7_state_107 ⟨Nat.le_of_ble_eq_true rfl, Nat.le_of_ble_eq_true rfl⟩) hL (fun r_28 u_26 H locs k_27 hW hL => ?_)
    obtain ⟨eu_26, xu_26⟩ := k_27
    rw [eu_26] at hW
    refine r_if_eq (tgt := 123) hx hb ⟨(by omega), (by omega)⟩ dX7_state_110 (by decide) (fun c_29 => ?_) (fun c_29 => ?_)
    · refine lv_iconst (v := iv 0) hx hb dX7_state_123 (by decide) ?_
      exact sIret Cx hr hlk hW hL ⟨rfl, (by omega)⟩ dX7_state_124
    · refine lv_aload_n hx hb dX7_state_113 rfl (lv_at hl 0 rfl) ?_
      refine g_X7_28 Cx hW (k := 119) (by decide) rfl (v := .ref (G.2.2.1 + 157)) (rf_119_2 hI) dX7_state_114 ?_
      refine sBi (sV (As := []) (rest := []) (k := 157) Cx (s_X5_proofLength l G S  hI) (c_X7_107 Cx rfl rfl (rmk_ok (by omega) (by decide))) hW (by decide) rfl rfl rfl hl.1 rfl (Nat.le_of_ble_eq_true rfl) dX7_state_117 ⟨Nat.le_of_ble_eq_true rfl, Nat.le_of_ble_eq_true rfl⟩) hL (fun r_32 u_30 H locs k_31 hW hL => ?_)
      obtain ⟨eu_30, xu_30⟩ := k_31
      rw [eu_30] at hW
      refine lv_goto (tgt := 124) hx hb dX7_state_120 (by decide) ?_
      exact sIret Cx hr hlk hW hL ⟨rfl, (by omega)⟩ dX7_state_124
  refine lv_tableOut (tgt := 125) hx hb dX7_state_1 (by rw [iv_toInt ⟨(by omega), (by omega)⟩]; omega) (by decide) ?_
  refine lv_iconst (v := iv (-1)) hx hb dX7_state_125 (by decide) ?_
  exact sIret Cx hr hlk hW hL ⟨rfl, (by omega)⟩ dX7_state_126

set_option maxRecDepth 100000 in
set_option maxHeartbeats 4000000 in
theorem s_X7_writeFraction (l : Launch) (G : sG) (S : sS) {j : Int} (hI : cX G S 0 0 0) (hj : -2147483648 ≤ j ∧ j ≤ 2147483647) : Met l yX7_writeFraction (.code yX7_writeFraction cX7_writeFraction 3 (some .boolean) :: tb) (rmk 8 0 0) (sPc G 294 S [.ref (G.2.2.1 + 119), .int (iv j), .ref (G.2.2.1 + 3)]) (sQi G 294 (fun r u => cX G u 0 0 0 ∧ Fr S u pN ∧ (0 ≤ r ∧ r ≤ 1))) 0 0 (sF G) := by
  refine sEnter (by decide) (Nat.le_of_ble_eq_true rfl) ?_
  intro p e s m args below meth c Cx hr hlk hnm hW ls hl
  have Cx : sC G p m c cX7_writeFraction 3 s args RX7 := Cx
  obtain ⟨hx, hb, hml, hown, hts⟩ := id Cx.1
  have hL : sL G [] := sL_nil
  have hl : lv_has ls 3 [(0, .ref (G.2.2.1 + 119)), (1, .int (iv j)), (2, .ref (G.2.2.1 + 3))] := hl
  have hW0 := hW
  refine lv_iload_n hx hb dX7_writeFraction_0 rfl (lv_at hl 1 rfl) ?_
  refine lv_aload_n hx hb dX7_writeFraction_1 rfl (lv_at hl 0 rfl) ?_
  obtain ⟨o_1, mo_1, eo_1⟩ := hI.rm.2.2.1
  refine g_X7_51 Cx hW (k := 119) (by decide) rfl (v := .ref (G.2.2.1 + o_1)) eo_1 dX7_writeFraction_2 ?_
  have q_2 : 0 ≤ S.1 o_1 2 ∧ S.1 o_1 2 ≤ 12 := hI.fi o_1 2 3 (mdl_k mo_1) mo_1.1
  refine g_X7_110 Cx hW (k := o_1) (mdl_l mo_1) mo_1.1 (v := S.1 o_1 2) rfl dX7_writeFraction_5 ?_
  refine r_icmp_gt (tgt := 23) hx hb ⟨(by omega), (by omega)⟩ ⟨(by omega), (by omega)⟩ dX7_writeFraction_8 (by decide) (fun c_3 => ?_) (fun c_3 => ?_)
  · refine lv_iconst (v := iv 0) hx hb dX7_writeFraction_23 (by decide) ?_
    exact sZret Cx hr hlk hW hL (by omega) ⟨hI, (Fr.rf : Fr S S pN), (by omega)⟩ dX7_writeFraction_24
  · refine lv_iload_n hx hb dX7_writeFraction_11 rfl (lv_at hl 1 rfl) ?_
    refine lv_aload_n hx hb dX7_writeFraction_12 rfl (lv_at hl 0 rfl) ?_
    refine g_X7_12 Cx hW (k := 119) (by decide) rfl (v := .ref (G.2.2.1 + 120)) (rf_119_0 hI) dX7_writeFraction_13 ?_
    have q_4 : 0 ≤ S.1 120 9 ∧ S.1 120 9 ≤ 40 := hI.fi 120 9 6 (by decide) rfl
    refine sBi (sV (As := []) (rest := [.int (iv j)]) (k := 120) Cx (s_X6_count_120 l G S  hI) (c_X7_98 Cx rfl rfl (rmk_ok (by omega) (by decide))) hW (by decide) rfl rfl rfl hl.1 rfl (Nat.le_of_ble_eq_true rfl) dX7_writeFraction_16 ⟨Nat.le_of_ble_eq_true rfl, Nat.le_of_ble_eq_true rfl⟩) hL (fun r_7 u_5 H locs k_6 hW hL => ?_)
    obtain ⟨eu_5, xu_5⟩ := k_6
    rw [eu_5] at hW
    refine r_ineg hx hb dX7_writeFraction_19 ?_
    refine r_icmp_ge (tgt := 25) hx hb ⟨(by omega), (by omega)⟩ ⟨(by omega), (by omega)⟩ dX7_writeFraction_20 (by decide) (fun c_8 => ?_) (fun c_8 => ?_)
    · refine lv_iload_n hx hb dX7_writeFraction_25 rfl (lv_at hl 1 rfl) ?_
      refine r_if_ge (tgt := 80) hx hb ⟨(by omega), (by omega)⟩ dX7_writeFraction_26 (by decide) (fun c_9 => ?_) (fun c_9 => ?_)
      · refine lv_aload_n hx hb dX7_writeFraction_80 rfl (lv_at hl 0 rfl) ?_
        have q_10 : (-2147483648) ≤ S.1 119 12 ∧ S.1 119 12 ≤ 2147483647 := hI.fi 119 12 7 (by decide) rfl
        refine g_X7_78 Cx hW (k := 119) (by decide) rfl (v := S.1 119 12) rfl dX7_writeFraction_81 ?_
        refine r_if_ne (tgt := 89) hx hb ⟨(by omega), (by omega)⟩ dX7_writeFraction_84 (by decide) (fun c_11 => ?_) (fun c_11 => ?_)
        · refine lv_aload_n hx hb dX7_writeFraction_89 rfl (lv_at hl 0 rfl) ?_
          refine g_X7_28 Cx hW (k := 119) (by decide) rfl (v := .ref (G.2.2.1 + 157)) (rf_119_2 hI) dX7_writeFraction_90 ?_
          refine lv_iload_n hx hb dX7_writeFraction_93 rfl (lv_at hl 1 rfl) ?_
          refine lv_aload_n hx hb dX7_writeFraction_94 rfl (lv_at hl 0 rfl) ?_
          refine g_X7_35 Cx hW (k := 119) (by decide) rfl (v := .ref (G.2.2.1 + 177)) (rf_119_3 hI) dX7_writeFraction_95 ?_
          refine sBv (sV (As := [.int (iv j), .ref (G.2.2.1 + 177)]) (rest := []) (k := 157) Cx (s_X5_pointNumber l G S (j := j) (v := 177) hI rfl (by omega)) (c_X7_125 Cx rfl rfl (rmk_ok (by omega) (by decide))) hW (by decide) rfl rfl rfl hl.1 rfl (Nat.le_of_ble_eq_true rfl) dX7_writeFraction_98 ⟨Nat.le_of_ble_eq_true rfl, Nat.le_of_ble_eq_true rfl⟩) hL (fun u_12 H locs k_13 hW hL => ?_)
          obtain ⟨iu_12, fu_12, xu_12⟩ := k_13
          have F_14 := (Fr.rf : Fr S S pN).trans (fu_12.to (pB_sub rfl rfl))
          refine lv_aload_n hx hb dX7_writeFraction_101 rfl (lv_at hl 0 rfl) ?_
          refine g_X7_28 Cx hW (k := 119) (by decide) rfl (v := .ref (G.2.2.1 + 157)) (rf_119_2 iu_12) dX7_writeFraction_102 ?_
          refine lv_aload_n hx hb dX7_writeFraction_105 rfl (lv_at hl 0 rfl) ?_
          refine g_X7_39 Cx hW (k := 119) (by decide) rfl (v := .ref (G.2.2.1 + 179)) (rf_119_4 iu_12) dX7_writeFraction_106 ?_
          refine sBv (sV (As := [.ref (G.2.2.1 + 179)]) (rest := []) (k := 157) Cx (s_X5_pointDenominator l G u_12 (v := 179) iu_12 rfl) (c_X7_129 Cx rfl rfl (rmk_ok (by omega) (by decide))) hW (by decide) rfl rfl rfl hl.1 rfl (Nat.le_of_ble_eq_true rfl) dX7_writeFraction_109 ⟨Nat.le_of_ble_eq_true rfl, Nat.le_of_ble_eq_true rfl⟩) hL (fun u_15 H locs k_16 hW hL => ?_)
          obtain ⟨iu_15, fu_15, xu_15⟩ := k_16
          have F_17 := F_14.trans (fu_15.to (pB_sub rfl rfl))
          refine lv_aload_n hx hb dX7_writeFraction_112 rfl (lv_at hl 0 rfl) ?_
          refine g_X7_28 Cx hW (k := 119) (by decide) rfl (v := .ref (G.2.2.1 + 157)) (rf_119_2 iu_15) dX7_writeFraction_113 ?_
          refine lv_aload_n hx hb dX7_writeFraction_116 rfl (lv_at hl 0 rfl) ?_
          refine g_X7_35 Cx hW (k := 119) (by decide) rfl (v := .ref (G.2.2.1 + 177)) (rf_119_3 iu_15) dX7_writeFraction_117 ?_
          refine lv_aload_n hx hb dX7_writeFraction_120 rfl (lv_at hl 0 rfl) ?_
          refine g_X7_39 Cx hW (k := 119) (by decide) rfl (v := .ref (G.2.2.1 + 179)) (rf_119_4 iu_15) dX7_writeFraction_121 ?_
          have join_143 : ∀ (tn : Int) (H : Heap) (locs : List Loc) (ls : Array Slot), (0 ≤ tn ∧ tn ≤ 1) → sW G 294 u_15 H → sL G locs → lv_has ls 3 [(0, .ref (G.2.2.1 + 119)), (1, .int (iv j)), (2, .ref (G.2.2.1 + 3))] → W p l e (rmk 8 0 0) s m args below meth c H locs 0 0 (MQ below (sQi G 294 (fun r u => cX G u 0 0 0 ∧ Fr S u pN ∧ (0 ≤ r ∧ r ≤ 1))) args s 0 0 (sF G)) (F0 m 143 ls [.int (iv tn), .ref (G.2.2.1 + 179), .ref (G.2.2.1 + 177), .ref (G.2.2.1 + 157)]) := by
            intro tn H locs ls htn hW hL hl
            refine lv_aload_n hx hb dX7_writeFraction_143 rfl (lv_at hl 2 rfl) ?_
            have q_18 : 0 ≤ u_12.1 177 1 ∧ u_12.1 177 1 ≤ 32 := iu_12.fi 177 1 0 (by decide) rfl
            have lk_19 : u_15.1 177 1 = u_12.1 177 1 := (fu_15 177 rfl).1 1
            have q_20 : 0 ≤ u_15.1 179 1 ∧ u_15.1 179 1 ≤ 32 := iu_15.fi 179 1 0 (by decide) rfl
            refine sBv (sV (As := [.ref (G.2.2.1 + 177), .ref (G.2.2.1 + 179), .int (iv tn), .ref (G.2.2.1 + 3)]) (rest := []) (k := 157) Cx (s_X5_writeFraction l G u_15 (tn := tn) iu_15 (by omega) (by omega)) (c_X7_121 Cx rfl rfl (rmk_ok (by omega) (by decide))) hW (by decide) rfl rfl rfl hl.1 rfl (Nat.le_of_ble_eq_true rfl) dX7_writeFraction_144 ⟨Nat.le_of_ble_eq_true rfl, Nat.le_of_ble_eq_true rfl⟩) hL (fun u_21 H locs k_22 hW hL => ?_)
            obtain ⟨iu_21, fu_21⟩ := k_22
            have F_23 := F_17.trans fu_21
            refine lv_iconst (v := iv 1) hx hb dX7_writeFraction_147 (by decide) ?_
            exact sZret Cx hr hlk hW hL (by omega) ⟨iu_21, F_23, (by omega)⟩ dX7_writeFraction_148
          refine lv_iload_n hx hb dX7_writeFraction_124 rfl (lv_at hl 1 rfl) ?_
          refine r_if_ne (tgt := 142) hx hb ⟨(by omega), (by omega)⟩ dX7_writeFraction_125 (by decide) (fun c_24 => ?_) (fun c_24 => ?_)
          · refine lv_iconst (v := iv 0) hx hb dX7_writeFraction_142 (by decide) ?_
            exact join_143 0 _ _ _ (by omega) hW hL (lv_sub hl [0, 1, 2] rfl)
          · refine lv_aload_n hx hb dX7_writeFraction_128 rfl (lv_at hl 0 rfl) ?_
            refine g_X7_51 Cx hW (k := 119) (by decide) rfl (v := .ref (G.2.2.1 + o_1)) ((((fu_15 119 rfl).2.2.2 7).trans ((fu_12 119 rfl).2.2.2 7)).trans eo_1) dX7_writeFraction_129 ?_
            have q_25 : 0 ≤ S.1 o_1 4 ∧ S.1 o_1 4 ≤ 1 := hI.fi o_1 4 3 (mdl_k mo_1) mo_1.1
            refine g_X7_132 Cx hW (k := o_1) (mdl_l mo_1) mo_1.1 (v := S.1 o_1 4) (((fu_15 o_1 (pB_no (tau_ne mo_1.1 (rfl : tau 179 = .inl 0) (fun h => by cases h)) (tau_ne mo_1.1 (rfl : tau 180 = .inr (.int, 32)) (fun h => by cases h)))).1 4).trans ((fu_12 o_1 (pB_no (tau_ne mo_1.1 (rfl : tau 177 = .inl 0) (fun h => by cases h)) (tau_ne mo_1.1 (rfl : tau 178 = .inr (.int, 32)) (fun h => by cases h)))).1 4)) dX7_writeFraction_132 ?_
            refine r_if_ne (tgt := 142) hx hb ⟨(by omega), (by omega)⟩ dX7_writeFraction_135 (by decide) (fun c_26 => ?_) (fun c_26 => ?_)
            · refine lv_iconst (v := iv 0) hx hb dX7_writeFraction_142 (by decide) ?_
              exact join_143 0 _ _ _ (by omega) hW hL (lv_sub hl [0, 1, 2] rfl)
            · refine lv_iconst (v := iv 1) hx hb dX7_writeFraction_138 (by decide) ?_
              refine lv_goto (tgt := 143) hx hb dX7_writeFraction_139 (by decide) ?_
              exact join_143 1 _ _ _ (by omega) hW hL (lv_sub hl [0, 1, 2] rfl)
        · refine lv_iconst (v := iv 0) hx hb dX7_writeFraction_87 (by decide) ?_
          exact sZret Cx hr hlk hW hL (by omega) ⟨hI, (Fr.rf : Fr S S pN), (by omega)⟩ dX7_writeFraction_88
      · refine lv_aload_n hx hb dX7_writeFraction_29 rfl (lv_at hl 0 rfl) ?_
        refine g_X7_21 Cx hW (k := 119) (by decide) rfl (v := .ref (G.2.2.1 + 135)) (rf_119_1 hI) dX7_writeFraction_30 ?_
        refine lv_iconst (v := iv 0) hx hb dX7_writeFraction_33 (by decide) ?_
        refine lv_aload_n hx hb dX7_writeFraction_34 rfl (lv_at hl 0 rfl) ?_
        refine g_X7_51 Cx hW (k := 119) (by decide) rfl (v := .ref (G.2.2.1 + o_1)) eo_1 dX7_writeFraction_35 ?_
        refine g_X7_110 Cx hW (k := o_1) (mdl_l mo_1) mo_1.1 (v := S.1 o_1 2) rfl dX7_writeFraction_38 ?_
        refine lv_iload_n hx hb dX7_writeFraction_41 rfl (lv_at hl 1 rfl) ?_
        refine r_isub hx hb dX7_writeFraction_42 ?_
        refine lv_aload_n hx hb dX7_writeFraction_43 rfl (lv_at hl 0 rfl) ?_
        refine g_X7_35 Cx hW (k := 119) (by decide) rfl (v := .ref (G.2.2.1 + 177)) (rf_119_3 hI) dX7_writeFraction_44 ?_
        refine sBv (sV (As := [.int (iv 0), .int (iv ((S.1 o_1 2) - j)), .ref (G.2.2.1 + 177)]) (rest := []) (k := 135) Cx (s_X2_multiplier l G S (i := 0) (k := (S.1 o_1 2) - j) (v := 177) hI rfl (by omega) (by omega)) (c_X7_113 Cx rfl rfl (rmk_ok (by omega) (by decide))) hW (by decide) rfl rfl rfl hl.1 rfl (Nat.le_of_ble_eq_true rfl) dX7_writeFraction_47 ⟨Nat.le_of_ble_eq_true rfl, Nat.le_of_ble_eq_true rfl⟩) hL (fun u_27 H locs k_28 hW hL => ?_)
        obtain ⟨iu_27, fu_27, xu_27⟩ := k_28
        have F_29 := (Fr.rf : Fr S S pN).trans (fu_27.to (pB_sub rfl rfl))
        refine lv_aload_n hx hb dX7_writeFraction_50 rfl (lv_at hl 0 rfl) ?_
        refine g_X7_21 Cx hW (k := 119) (by decide) rfl (v := .ref (G.2.2.1 + 135)) (rf_119_1 iu_27) dX7_writeFraction_51 ?_
        refine lv_aload_n hx hb dX7_writeFraction_54 rfl (lv_at hl 0 rfl) ?_
        refine g_X7_39 Cx hW (k := 119) (by decide) rfl (v := .ref (G.2.2.1 + 179)) (rf_119_4 iu_27) dX7_writeFraction_55 ?_
        refine sBv (sV (As := [.ref (G.2.2.1 + 179)]) (rest := []) (k := 135) Cx (s_X2_denominator l G u_27 (v := 179) iu_27 rfl) (c_X7_117 Cx rfl rfl (rmk_ok (by omega) (by decide))) hW (by decide) rfl rfl rfl hl.1 rfl (Nat.le_of_ble_eq_true rfl) dX7_writeFraction_58 ⟨Nat.le_of_ble_eq_true rfl, Nat.le_of_ble_eq_true rfl⟩) hL (fun u_30 H locs k_31 hW hL => ?_)
        obtain ⟨iu_30, fu_30, xu_30⟩ := k_31
        have F_32 := F_29.trans (fu_30.to (pB_sub rfl rfl))
        refine lv_aload_n hx hb dX7_writeFraction_61 rfl (lv_at hl 0 rfl) ?_
        refine g_X7_28 Cx hW (k := 119) (by decide) rfl (v := .ref (G.2.2.1 + 157)) (rf_119_2 iu_30) dX7_writeFraction_62 ?_
        refine lv_aload_n hx hb dX7_writeFraction_65 rfl (lv_at hl 0 rfl) ?_
        refine g_X7_35 Cx hW (k := 119) (by decide) rfl (v := .ref (G.2.2.1 + 177)) (rf_119_3 iu_30) dX7_writeFraction_66 ?_
        refine lv_aload_n hx hb dX7_writeFraction_69 rfl (lv_at hl 0 rfl) ?_
        refine g_X7_39 Cx hW (k := 119) (by decide) rfl (v := .ref (G.2.2.1 + 179)) (rf_119_4 iu_30) dX7_writeFraction_70 ?_
        refine lv_iconst (v := iv 0) hx hb dX7_writeFraction_73 (by decide) ?_
        refine lv_aload_n hx hb dX7_writeFraction_74 rfl (lv_at hl 2 rfl) ?_
        have q_33 : 0 ≤ u_27.1 177 1 ∧ u_27.1 177 1 ≤ 32 := iu_27.fi 177 1 0 (by decide) rfl
        have lk_34 : u_30.1 177 1 = u_27.1 177 1 := (fu_30 177 rfl).1 1
        have q_35 : 0 ≤ u_30.1 179 1 ∧ u_30.1 179 1 ≤ 32 := iu_30.fi 179 1 0 (by decide) rfl
        refine sBv (sV (As := [.ref (G.2.2.1 + 177), .ref (G.2.2.1 + 179), .int (iv 0), .ref (G.2.2.1 + 3)]) (rest := []) (k := 157) Cx (s_X5_writeFraction l G u_30 (tn := 0) iu_30 (by omega) (by omega)) (c_X7_121 Cx rfl rfl (rmk_ok (by omega) (by decide))) hW (by decide) rfl rfl rfl hl.1 rfl (Nat.le_of_ble_eq_true rfl) dX7_writeFraction_75 ⟨Nat.le_of_ble_eq_true rfl, Nat.le_of_ble_eq_true rfl⟩) hL (fun u_36 H locs k_37 hW hL => ?_)
        obtain ⟨iu_36, fu_36⟩ := k_37
        have F_38 := F_32.trans fu_36
        refine lv_iconst (v := iv 1) hx hb dX7_writeFraction_78 (by decide) ?_
        exact sZret Cx hr hlk hW hL (by omega) ⟨iu_36, F_38, (by omega)⟩ dX7_writeFraction_79
    · refine lv_iconst (v := iv 0) hx hb dX7_writeFraction_23 (by decide) ?_
      exact sZret Cx hr hlk hW hL (by omega) ⟨hI, (Fr.rf : Fr S S pN), (by omega)⟩ dX7_writeFraction_24

set_option maxRecDepth 100000 in
set_option maxHeartbeats 4000000 in
theorem s_X7_endPhaseOne (l : Launch) (G : sG) (S : sS)  (hI : cX G S 0 0 0) (hst : S.1 119 9 = 1) : Met l yX7_endPhaseOne (.code yX7_endPhaseOne cX7_endPhaseOne 1 none :: tb) (rmk 4 0 0) (sPc G 294 S [.ref (G.2.2.1 + 119)]) (sQv G 294 (fun u => cX G u 0 0 0 ∧ Fr S u pH)) 0 0 (sF G) := by
  refine sEnter (by decide) (Nat.le_of_ble_eq_true rfl) ?_
  intro p e s m args below meth c Cx hr hlk hnm hW ls hl
  have Cx : sC G p m c cX7_endPhaseOne 1 s args RX7 := Cx
  obtain ⟨hx, hb, hml, hown, hts⟩ := id Cx.1
  have hL : sL G [] := sL_nil
  have hl : lv_has ls 1 [(0, .ref (G.2.2.1 + 119))] := hl
  have hW0 := hW
  refine lv_aload_n hx hb dX7_endPhaseOne_0 rfl (lv_at hl 0 rfl) ?_
  refine g_X7_21 Cx hW (k := 119) (by decide) rfl (v := .ref (G.2.2.1 + 135)) (rf_119_1 hI) dX7_endPhaseOne_1 ?_
  refine lv_iconst (v := iv (-1)) hx hb dX7_endPhaseOne_4 (by decide) ?_
  refine lv_iconst (v := iv 0) hx hb dX7_endPhaseOne_5 (by decide) ?_
  refine sBi (sV (As := [.int (iv ((-1))), .int (iv 0)]) (rest := []) (k := 135) Cx (s_X2_sign l G S (i := (-1)) (j := 0) hI (by omega) (by omega)) (c_X7_193 Cx rfl rfl (rmk_ok (by omega) (by decide))) hW (by decide) rfl rfl rfl hl.1 rfl (Nat.le_of_ble_eq_true rfl) dX7_endPhaseOne_6 ⟨Nat.le_of_ble_eq_true rfl, Nat.le_of_ble_eq_true rfl⟩) hL (fun r_3 u_1 H locs k_2 hW hL => ?_)
  obtain ⟨eu_1, xu_1⟩ := k_2
  rw [eu_1] at hW
  refine r_if_ge (tgt := 25) hx hb ⟨(by omega), (by omega)⟩ dX7_endPhaseOne_9 (by decide) (fun c_4 => ?_) (fun c_4 => ?_)
  · refine lv_aload_n hx hb dX7_endPhaseOne_25 rfl (lv_at hl 0 rfl) ?_
    refine g_X7_21 Cx hW (k := 119) (by decide) rfl (v := .ref (G.2.2.1 + 135)) (rf_119_1 hI) dX7_endPhaseOne_26 ?_
    refine sBi (sV (As := []) (rest := []) (k := 135) Cx (s_X2_helperIsBasic l G S  hI) (c_X7_197 Cx rfl rfl (rmk_ok (by omega) (by decide))) hW (by decide) rfl rfl rfl hl.1 rfl (Nat.le_of_ble_eq_true rfl) dX7_endPhaseOne_29 ⟨Nat.le_of_ble_eq_true rfl, Nat.le_of_ble_eq_true rfl⟩) hL (fun r_7 u_5 H locs k_6 hW hL => ?_)
    obtain ⟨eu_5, xu_5⟩ := k_6
    rw [eu_5] at hW
    refine r_if_eq (tgt := 54) hx hb ⟨(by omega), (by omega)⟩ dX7_endPhaseOne_32 (by decide) (fun c_8 => ?_) (fun c_8 => ?_)
    · refine lv_aload_n hx hb dX7_endPhaseOne_54 rfl (lv_at hl 0 rfl) ?_
      refine g_X7_21 Cx hW (k := 119) (by decide) rfl (v := .ref (G.2.2.1 + 135)) (rf_119_1 hI) dX7_endPhaseOne_55 ?_
      refine sBv (sV (As := []) (rest := []) (k := 135) Cx (s_X2_dropHelper l G S  hI) (c_X7_203 Cx rfl rfl (rmk_ok (by omega) (by decide))) hW (by decide) rfl rfl rfl hl.1 rfl (Nat.le_of_ble_eq_true rfl) dX7_endPhaseOne_58 ⟨Nat.le_of_ble_eq_true rfl, Nat.le_of_ble_eq_true rfl⟩) hL (fun u_9 H locs k_10 hW hL => ?_)
      obtain ⟨iu_9, fu_9⟩ := k_10
      have F_11 := (Fr.rf : Fr S S pH).trans (fu_9.to pX_H)
      refine lv_aload_n hx hb dX7_endPhaseOne_61 rfl (lv_at hl 0 rfl) ?_
      refine lv_iconst (v := iv 2) hx hb dX7_endPhaseOne_62 (by decide) ?_
      refine p_X7_88 Cx hW hL (k := 119) (by decide) rfl dX7_endPhaseOne_63 (fun H locs hW hL => ?_)
      have F_12 : Fr S (uF u_9 119 14 2) pH := F_11.F rfl
      have i_13 : cX G (uF u_9 119 14 2) 0 0 0 := iu_9.F rfl rfl (show 0 ≤ 2 ∧ 2 ≤ 3 from ⟨by omega, by omega⟩)
      exact sVret Cx hr hlk hW hL ⟨i_13, F_12⟩ dX7_endPhaseOne_66
    · refine lv_aload_n hx hb dX7_endPhaseOne_35 rfl (lv_at hl 0 rfl) ?_
      refine g_X7_21 Cx hW (k := 119) (by decide) rfl (v := .ref (G.2.2.1 + 135)) (rf_119_1 hI) dX7_endPhaseOne_36 ?_
      have q_14 : 0 ≤ S.1 119 9 ∧ S.1 119 9 ≤ 6 := hI.fi 119 9 7 (by decide) rfl
      refine sBi (sV (As := []) (rest := []) (k := 135) Cx (s_X2_chooseHelperOut l G S  hI (by omega)) (c_X7_200 Cx rfl rfl (rmk_ok (by omega) (by decide))) hW (by decide) rfl rfl rfl hl.1 rfl (Nat.le_of_ble_eq_true rfl) dX7_endPhaseOne_39 ⟨Nat.le_of_ble_eq_true rfl, Nat.le_of_ble_eq_true rfl⟩) hL (fun r_17 u_15 H locs k_16 hW hL => ?_)
      obtain ⟨iu_15, fu_15, xu_15⟩ := k_16
      have F_18 := (Fr.rf : Fr S S pH).trans (fu_15.to (fun k h => pX_H k (pF_X k h)))
      refine lv_iconst (v := iv 1) hx hb dX7_endPhaseOne_42 (by decide) ?_
      refine r_icmp_ne (tgt := 54) hx hb ⟨(by omega), (by omega)⟩ ⟨(by omega), (by omega)⟩ dX7_endPhaseOne_43 (by decide) (fun c_19 => ?_) (fun c_19 => ?_)
      · refine lv_aload_n hx hb dX7_endPhaseOne_54 rfl (lv_at hl 0 rfl) ?_
        refine g_X7_21 Cx hW (k := 119) (by decide) rfl (v := .ref (G.2.2.1 + 135)) (rf_119_1 iu_15) dX7_endPhaseOne_55 ?_
        refine sBv (sV (As := []) (rest := []) (k := 135) Cx (s_X2_dropHelper l G u_15  iu_15) (c_X7_203 Cx rfl rfl (rmk_ok (by omega) (by decide))) hW (by decide) rfl rfl rfl hl.1 rfl (Nat.le_of_ble_eq_true rfl) dX7_endPhaseOne_58 ⟨Nat.le_of_ble_eq_true rfl, Nat.le_of_ble_eq_true rfl⟩) hL (fun u_20 H locs k_21 hW hL => ?_)
        obtain ⟨iu_20, fu_20⟩ := k_21
        have F_22 := F_18.trans (fu_20.to pX_H)
        refine lv_aload_n hx hb dX7_endPhaseOne_61 rfl (lv_at hl 0 rfl) ?_
        refine lv_iconst (v := iv 2) hx hb dX7_endPhaseOne_62 (by decide) ?_
        refine p_X7_88 Cx hW hL (k := 119) (by decide) rfl dX7_endPhaseOne_63 (fun H locs hW hL => ?_)
        have F_23 : Fr S (uF u_20 119 14 2) pH := F_22.F rfl
        have i_24 : cX G (uF u_20 119 14 2) 0 0 0 := iu_20.F rfl rfl (show 0 ≤ 2 ∧ 2 ≤ 3 from ⟨by omega, by omega⟩)
        exact sVret Cx hr hlk hW hL ⟨i_24, F_23⟩ dX7_endPhaseOne_66
      · refine lv_aload_n hx hb dX7_endPhaseOne_46 rfl (lv_at hl 0 rfl) ?_
        refine lv_iconst (v := iv 1) hx hb dX7_endPhaseOne_47 (by decide) ?_
        refine p_X7_91 Cx hW hL (k := 119) (by decide) rfl dX7_endPhaseOne_48 (fun H locs hW hL => ?_)
        have F_25 : Fr S (uF u_15 119 15 1) pH := F_18.F rfl
        have i_26 : cX G (uF u_15 119 15 1) 0 0 0 := iu_15.F rfl rfl (show 0 ≤ 1 ∧ 1 ≤ 6 from ⟨by omega, by omega⟩)
        refine lv_goto (tgt := 66) hx hb dX7_endPhaseOne_51 (by decide) ?_
        exact sVret Cx hr hlk hW hL ⟨i_26, F_25⟩ dX7_endPhaseOne_66
  · refine lv_aload_n hx hb dX7_endPhaseOne_12 rfl (lv_at hl 0 rfl) ?_
    refine lv_iconst (v := iv (-1)) hx hb dX7_endPhaseOne_13 (by decide) ?_
    refine p_X7_190 Cx hW hL (k := 119) (by decide) rfl dX7_endPhaseOne_14 (fun H locs hW hL => ?_)
    have F_27 : Fr S (uF S 119 16 ((-1))) pH := (Fr.rf : Fr S S pH).F rfl
    have i_28 : cX G (uF S 119 16 ((-1))) 0 0 0 := hI.F rfl rfl (show (-1) ≤ (-1) ∧ (-1) ≤ 40 from ⟨by omega, by omega⟩)
    refine lv_aload_n hx hb dX7_endPhaseOne_17 rfl (lv_at hl 0 rfl) ?_
    refine lv_iconst (v := iv 3) hx hb dX7_endPhaseOne_18 (by decide) ?_
    refine p_X7_91 Cx hW hL (k := 119) (by decide) rfl dX7_endPhaseOne_19 (fun H locs hW hL => ?_)
    have F_29 : Fr S (uF (uF S 119 16 ((-1))) 119 15 3) pH := F_27.F rfl
    have i_30 : cX G (uF (uF S 119 16 ((-1))) 119 15 3) 0 0 0 := i_28.F rfl rfl (show 0 ≤ 3 ∧ 3 ≤ 6 from ⟨by omega, by omega⟩)
    refine lv_goto (tgt := 66) hx hb dX7_endPhaseOne_22 (by decide) ?_
    exact sVret Cx hr hlk hW hL ⟨i_30, F_29⟩ dX7_endPhaseOne_66

set_option maxRecDepth 100000 in
set_option maxHeartbeats 4000000 in
theorem s_X7_choose (l : Launch) (G : sG) (S : sS)  (hI : cX G S 0 0 0) (hst : S.1 119 9 = 1) : Met l yX7_choose (.code yX7_choose cX7_choose 2 none :: tb) (rmk 7 0 0) (sPc G 294 S [.ref (G.2.2.1 + 119)]) (sQv G 294 (fun u => cX G u 0 0 0 ∧ Fr S u pH)) 0 0 (sF G) := by
  refine sEnter (by decide) (Nat.le_of_ble_eq_true rfl) ?_
  intro p e s m args below meth c Cx hr hlk hnm hW ls hl
  have Cx : sC G p m c cX7_choose 2 s args RX7 := Cx
  obtain ⟨hx, hb, hml, hown, hts⟩ := id Cx.1
  have hL : sL G [] := sL_nil
  have hl : lv_has ls 2 [(0, .ref (G.2.2.1 + 119))] := hl
  have hW0 := hW
  refine lv_aload_n hx hb dX7_choose_0 rfl (lv_at hl 0 rfl) ?_
  have q_1 : 0 ≤ S.1 119 14 ∧ S.1 119 14 ≤ 3 := hI.fi 119 14 7 (by decide) rfl
  refine g_X7_88 Cx hW (k := 119) (by decide) rfl (v := S.1 119 14) rfl dX7_choose_1 ?_
  by_cases c_2 : S.1 119 14 = 1
  · refine lv_lookup (off := 28) (tgt := 32) hx hb dX7_choose_4 (by decide) (by rw [c_2]; decide) (by decide) ?_
    refine lv_aload_n hx hb dX7_choose_32 rfl (lv_at hl 0 rfl) ?_
    have q_3 : (-2147483648) ≤ S.1 119 10 ∧ S.1 119 10 ≤ 2147483647 := hI.fi 119 10 7 (by decide) rfl
    refine g_X7_72 Cx hW (k := 119) (by decide) rfl (v := S.1 119 10) rfl dX7_choose_33 ?_
    refine r_if_ne (tgt := 49) hx hb ⟨(by omega), (by omega)⟩ dX7_choose_36 (by decide) (fun c_4 => ?_) (fun c_4 => ?_)
    · refine lv_aload_n hx hb dX7_choose_49 rfl (lv_at hl 0 rfl) ?_
      refine g_X7_21 Cx hW (k := 119) (by decide) rfl (v := .ref (G.2.2.1 + 135)) (rf_119_1 hI) dX7_choose_50 ?_
      refine lv_iconst (v := iv (-1)) hx hb dX7_choose_53 (by decide) ?_
      have q_5 : 0 ≤ S.1 119 9 ∧ S.1 119 9 ≤ 6 := hI.fi 119 9 7 (by decide) rfl
      refine sBi (sV (As := [.int (iv ((-1)))]) (rest := []) (k := 135) Cx (s_X2_chooseUp l G S (gl := (-1)) hI (by omega) (by omega)) (c_X7_177 Cx rfl rfl (rmk_ok (by omega) (by decide))) hW (by decide) rfl rfl rfl hl.1 rfl (Nat.le_of_ble_eq_true rfl) dX7_choose_54 ⟨Nat.le_of_ble_eq_true rfl, Nat.le_of_ble_eq_true rfl⟩) hL (fun r_8 u_6 H locs k_7 hW hL => ?_)
      obtain ⟨iu_6, fu_6, xu_6⟩ := k_7
      have F_9 := (Fr.rf : Fr S S pH).trans (fu_6.to (fun k h => pX_H k (pF_X k h)))
      refine lv_istore_n (lv' := [(1, .int (iv r_8)), (0, .ref (G.2.2.1 + 119))]) hx hb dX7_choose_57 rfl hl (by decide) rfl (fun ls hl => ?_)
      refine lv_goto (tgt := 81) hx hb dX7_choose_58 (by decide) ?_
      refine lv_iload_n hx hb dX7_choose_81 rfl (lv_at hl 0 rfl) ?_
      refine lv_iconst (v := iv 1) hx hb dX7_choose_82 (by decide) ?_
      refine r_icmp_ne (tgt := 94) hx hb ⟨(by omega), (by omega)⟩ ⟨(by omega), (by omega)⟩ dX7_choose_83 (by decide) (fun c_10 => ?_) (fun c_10 => ?_)
      · refine lv_aload_n hx hb dX7_choose_94 rfl (lv_at hl 1 rfl) ?_
        refine g_X7_88 Cx hW (k := 119) (by decide) rfl (v := S.1 119 14) ((fu_6 119 rfl).1 14) dX7_choose_95 ?_
        refine lv_iconst (v := iv 1) hx hb dX7_choose_98 (by decide) ?_
        refine r_icmp_ne (tgt := 109) hx hb ⟨(by omega), (by omega)⟩ ⟨(by omega), (by omega)⟩ dX7_choose_99 (by decide) (fun c_11 => ?_) (fun c_11 => ?_)
        · refine lv_iload_n hx hb dX7_choose_109 rfl (lv_at hl 0 rfl) ?_
          refine r_if_ne (tgt := 121) hx hb ⟨(by omega), (by omega)⟩ dX7_choose_110 (by decide) (fun c_12 => ?_) (fun c_12 => ?_)
          · refine lv_aload_n hx hb dX7_choose_121 rfl (lv_at hl 1 rfl) ?_
            refine g_X7_88 Cx hW (k := 119) (by decide) rfl (v := S.1 119 14) ((fu_6 119 rfl).1 14) dX7_choose_122 ?_
            refine lv_iconst (v := iv 2) hx hb dX7_choose_125 (by decide) ?_
            refine r_icmp_ne (tgt := 137) hx hb ⟨(by omega), (by omega)⟩ ⟨(by omega), (by omega)⟩ dX7_choose_126 (by decide) (fun c_13 => ?_) (fun c_13 => ?_)
            · refine lv_aload_n hx hb dX7_choose_137 rfl (lv_at hl 1 rfl) ?_
              refine lv_aload_n hx hb dX7_choose_138 rfl (lv_at hl 1 rfl) ?_
              refine g_X7_21 Cx hW (k := 119) (by decide) rfl (v := .ref (G.2.2.1 + 135)) (rf_119_1 iu_6) dX7_choose_139 ?_
              have q_14 : (-1) ≤ u_6.1 135 17 ∧ u_6.1 135 17 ≤ 40 := iu_6.fi 135 17 2 (by decide) rfl
              refine sBi (sV (As := []) (rest := [.ref (G.2.2.1 + 119)]) (k := 135) Cx (s_X2_stuckRow l G u_6  iu_6) (c_X7_187 Cx rfl rfl (rmk_ok (by omega) (by decide))) hW (by decide) rfl rfl rfl hl.1 rfl (Nat.le_of_ble_eq_true rfl) dX7_choose_142 ⟨Nat.le_of_ble_eq_true rfl, Nat.le_of_ble_eq_true rfl⟩) hL (fun r_17 u_15 H locs k_16 hW hL => ?_)
              obtain ⟨eu_15, xu_15⟩ := k_16
              rw [eu_15] at hW
              refine p_X7_190 Cx hW hL (k := 119) (by decide) rfl dX7_choose_145 (fun H locs hW hL => ?_)
              have F_18 : Fr S (uF u_6 119 16 r_17) pH := F_9.F rfl
              have i_19 : cX G (uF u_6 119 16 r_17) 0 0 0 := iu_6.F rfl rfl (show (-1) ≤ r_17 ∧ r_17 ≤ 40 from ⟨by omega, by omega⟩)
              refine lv_aload_n hx hb dX7_choose_148 rfl (lv_at hl 1 rfl) ?_
              refine lv_iconst (v := iv 3) hx hb dX7_choose_149 (by decide) ?_
              refine p_X7_91 Cx hW hL (k := 119) (by decide) rfl dX7_choose_150 (fun H locs hW hL => ?_)
              have F_20 : Fr S (uF (uF u_6 119 16 r_17) 119 15 3) pH := F_18.F rfl
              have i_21 : cX G (uF (uF u_6 119 16 r_17) 119 15 3) 0 0 0 := i_19.F rfl rfl (show 0 ≤ 3 ∧ 3 ≤ 6 from ⟨by omega, by omega⟩)
              exact sVret Cx hr hlk hW hL ⟨i_21, F_20⟩ dX7_choose_153
            · refine lv_aload_n hx hb dX7_choose_129 rfl (lv_at hl 1 rfl) ?_
              refine lv_iconst (v := iv 4) hx hb dX7_choose_130 (by decide) ?_
              refine p_X7_69 Cx hW hL (k := 119) (by decide) rfl dX7_choose_131 (fun H locs hW hL => ?_)
              have F_22 : Fr S (uF u_6 119 9 4) pH := F_9.F rfl
              have i_23 : cX G (uF u_6 119 9 4) 0 0 0 := iu_6.status ⟨by omega, by omega⟩ (by omega)
              refine lv_goto (tgt := 153) hx hb dX7_choose_134 (by decide) ?_
              exact sVret Cx hr hlk hW hL ⟨i_23, F_22⟩ dX7_choose_153
          · refine lv_aload_n hx hb dX7_choose_113 rfl (lv_at hl 1 rfl) ?_
            refine lv_iconst (v := iv 2) hx hb dX7_choose_114 (by decide) ?_
            refine p_X7_91 Cx hW hL (k := 119) (by decide) rfl dX7_choose_115 (fun H locs hW hL => ?_)
            have F_24 : Fr S (uF u_6 119 15 2) pH := F_9.F rfl
            have i_25 : cX G (uF u_6 119 15 2) 0 0 0 := iu_6.F rfl rfl (show 0 ≤ 2 ∧ 2 ≤ 6 from ⟨by omega, by omega⟩)
            refine lv_goto (tgt := 153) hx hb dX7_choose_118 (by decide) ?_
            exact sVret Cx hr hlk hW hL ⟨i_25, F_24⟩ dX7_choose_153
        · refine lv_aload_n hx hb dX7_choose_102 rfl (lv_at hl 1 rfl) ?_
          have lk_26 : u_6.1 119 9 = S.1 119 9 := (fu_6 119 rfl).1 9
          refine sBv (sV (As := []) (rest := []) (k := 119) Cx (s_X7_endPhaseOne l G u_6  iu_6 (by omega)) (c_X7_184 Cx rfl rfl (rmk_ok (by omega) (by decide))) hW (by decide) rfl rfl rfl hl.1 rfl (Nat.le_of_ble_eq_true rfl) dX7_choose_103 ⟨Nat.le_of_ble_eq_true rfl, Nat.le_of_ble_eq_true rfl⟩) hL (fun u_27 H locs k_28 hW hL => ?_)
          obtain ⟨iu_27, fu_27⟩ := k_28
          have F_29 := F_9.trans fu_27
          refine lv_goto (tgt := 153) hx hb dX7_choose_106 (by decide) ?_
          exact sVret Cx hr hlk hW hL ⟨iu_27, F_29⟩ dX7_choose_153
      · refine lv_aload_n hx hb dX7_choose_86 rfl (lv_at hl 1 rfl) ?_
        refine lv_iconst (v := iv 1) hx hb dX7_choose_87 (by decide) ?_
        refine p_X7_91 Cx hW hL (k := 119) (by decide) rfl dX7_choose_88 (fun H locs hW hL => ?_)
        have F_30 : Fr S (uF u_6 119 15 1) pH := F_9.F rfl
        have i_31 : cX G (uF u_6 119 15 1) 0 0 0 := iu_6.F rfl rfl (show 0 ≤ 1 ∧ 1 ≤ 6 from ⟨by omega, by omega⟩)
        refine lv_goto (tgt := 153) hx hb dX7_choose_91 (by decide) ?_
        exact sVret Cx hr hlk hW hL ⟨i_31, F_30⟩ dX7_choose_153
    · refine lv_aload_n hx hb dX7_choose_39 rfl (lv_at hl 0 rfl) ?_
      refine g_X7_21 Cx hW (k := 119) (by decide) rfl (v := .ref (G.2.2.1 + 135)) (rf_119_1 hI) dX7_choose_40 ?_
      have q_32 : 0 ≤ S.1 119 9 ∧ S.1 119 9 ≤ 6 := hI.fi 119 9 7 (by decide) rfl
      refine sBi (sV (As := []) (rest := []) (k := 135) Cx (s_X2_chooseFirst l G S  hI (by omega)) (c_X7_174 Cx rfl rfl (rmk_ok (by omega) (by decide))) hW (by decide) rfl rfl rfl hl.1 rfl (Nat.le_of_ble_eq_true rfl) dX7_choose_43 ⟨Nat.le_of_ble_eq_true rfl, Nat.le_of_ble_eq_true rfl⟩) hL (fun r_35 u_33 H locs k_34 hW hL => ?_)
      obtain ⟨iu_33, fu_33, xu_33⟩ := k_34
      have F_36 := (Fr.rf : Fr S S pH).trans (fu_33.to (fun k h => pX_H k (pF_X k h)))
      refine lv_goto (tgt := 57) hx hb dX7_choose_46 (by decide) ?_
      refine lv_istore_n (lv' := [(1, .int (iv r_35)), (0, .ref (G.2.2.1 + 119))]) hx hb dX7_choose_57 rfl hl (by decide) rfl (fun ls hl => ?_)
      refine lv_goto (tgt := 81) hx hb dX7_choose_58 (by decide) ?_
      refine lv_iload_n hx hb dX7_choose_81 rfl (lv_at hl 0 rfl) ?_
      refine lv_iconst (v := iv 1) hx hb dX7_choose_82 (by decide) ?_
      refine r_icmp_ne (tgt := 94) hx hb ⟨(by omega), (by omega)⟩ ⟨(by omega), (by omega)⟩ dX7_choose_83 (by decide) (fun c_37 => ?_) (fun c_37 => ?_)
      · refine lv_aload_n hx hb dX7_choose_94 rfl (lv_at hl 1 rfl) ?_
        refine g_X7_88 Cx hW (k := 119) (by decide) rfl (v := S.1 119 14) ((fu_33 119 rfl).1 14) dX7_choose_95 ?_
        refine lv_iconst (v := iv 1) hx hb dX7_choose_98 (by decide) ?_
        refine r_icmp_ne (tgt := 109) hx hb ⟨(by omega), (by omega)⟩ ⟨(by omega), (by omega)⟩ dX7_choose_99 (by decide) (fun c_38 => ?_) (fun c_38 => ?_)
        · refine lv_iload_n hx hb dX7_choose_109 rfl (lv_at hl 0 rfl) ?_
          refine r_if_ne (tgt := 121) hx hb ⟨(by omega), (by omega)⟩ dX7_choose_110 (by decide) (fun c_39 => ?_) (fun c_39 => ?_)
          · refine lv_aload_n hx hb dX7_choose_121 rfl (lv_at hl 1 rfl) ?_
            refine g_X7_88 Cx hW (k := 119) (by decide) rfl (v := S.1 119 14) ((fu_33 119 rfl).1 14) dX7_choose_122 ?_
            refine lv_iconst (v := iv 2) hx hb dX7_choose_125 (by decide) ?_
            refine r_icmp_ne (tgt := 137) hx hb ⟨(by omega), (by omega)⟩ ⟨(by omega), (by omega)⟩ dX7_choose_126 (by decide) (fun c_40 => ?_) (fun c_40 => ?_)
            · refine lv_aload_n hx hb dX7_choose_137 rfl (lv_at hl 1 rfl) ?_
              refine lv_aload_n hx hb dX7_choose_138 rfl (lv_at hl 1 rfl) ?_
              refine g_X7_21 Cx hW (k := 119) (by decide) rfl (v := .ref (G.2.2.1 + 135)) (rf_119_1 iu_33) dX7_choose_139 ?_
              have q_41 : (-1) ≤ u_33.1 135 17 ∧ u_33.1 135 17 ≤ 40 := iu_33.fi 135 17 2 (by decide) rfl
              refine sBi (sV (As := []) (rest := [.ref (G.2.2.1 + 119)]) (k := 135) Cx (s_X2_stuckRow l G u_33  iu_33) (c_X7_187 Cx rfl rfl (rmk_ok (by omega) (by decide))) hW (by decide) rfl rfl rfl hl.1 rfl (Nat.le_of_ble_eq_true rfl) dX7_choose_142 ⟨Nat.le_of_ble_eq_true rfl, Nat.le_of_ble_eq_true rfl⟩) hL (fun r_44 u_42 H locs k_43 hW hL => ?_)
              obtain ⟨eu_42, xu_42⟩ := k_43
              rw [eu_42] at hW
              refine p_X7_190 Cx hW hL (k := 119) (by decide) rfl dX7_choose_145 (fun H locs hW hL => ?_)
              have F_45 : Fr S (uF u_33 119 16 r_44) pH := F_36.F rfl
              have i_46 : cX G (uF u_33 119 16 r_44) 0 0 0 := iu_33.F rfl rfl (show (-1) ≤ r_44 ∧ r_44 ≤ 40 from ⟨by omega, by omega⟩)
              refine lv_aload_n hx hb dX7_choose_148 rfl (lv_at hl 1 rfl) ?_
              refine lv_iconst (v := iv 3) hx hb dX7_choose_149 (by decide) ?_
              refine p_X7_91 Cx hW hL (k := 119) (by decide) rfl dX7_choose_150 (fun H locs hW hL => ?_)
              have F_47 : Fr S (uF (uF u_33 119 16 r_44) 119 15 3) pH := F_45.F rfl
              have i_48 : cX G (uF (uF u_33 119 16 r_44) 119 15 3) 0 0 0 := i_46.F rfl rfl (show 0 ≤ 3 ∧ 3 ≤ 6 from ⟨by omega, by omega⟩)
              exact sVret Cx hr hlk hW hL ⟨i_48, F_47⟩ dX7_choose_153
            · refine lv_aload_n hx hb dX7_choose_129 rfl (lv_at hl 1 rfl) ?_
              refine lv_iconst (v := iv 4) hx hb dX7_choose_130 (by decide) ?_
              refine p_X7_69 Cx hW hL (k := 119) (by decide) rfl dX7_choose_131 (fun H locs hW hL => ?_)
              have F_49 : Fr S (uF u_33 119 9 4) pH := F_36.F rfl
              have i_50 : cX G (uF u_33 119 9 4) 0 0 0 := iu_33.status ⟨by omega, by omega⟩ (by omega)
              refine lv_goto (tgt := 153) hx hb dX7_choose_134 (by decide) ?_
              exact sVret Cx hr hlk hW hL ⟨i_50, F_49⟩ dX7_choose_153
          · refine lv_aload_n hx hb dX7_choose_113 rfl (lv_at hl 1 rfl) ?_
            refine lv_iconst (v := iv 2) hx hb dX7_choose_114 (by decide) ?_
            refine p_X7_91 Cx hW hL (k := 119) (by decide) rfl dX7_choose_115 (fun H locs hW hL => ?_)
            have F_51 : Fr S (uF u_33 119 15 2) pH := F_36.F rfl
            have i_52 : cX G (uF u_33 119 15 2) 0 0 0 := iu_33.F rfl rfl (show 0 ≤ 2 ∧ 2 ≤ 6 from ⟨by omega, by omega⟩)
            refine lv_goto (tgt := 153) hx hb dX7_choose_118 (by decide) ?_
            exact sVret Cx hr hlk hW hL ⟨i_52, F_51⟩ dX7_choose_153
        · refine lv_aload_n hx hb dX7_choose_102 rfl (lv_at hl 1 rfl) ?_
          have lk_53 : u_33.1 119 9 = S.1 119 9 := (fu_33 119 rfl).1 9
          refine sBv (sV (As := []) (rest := []) (k := 119) Cx (s_X7_endPhaseOne l G u_33  iu_33 (by omega)) (c_X7_184 Cx rfl rfl (rmk_ok (by omega) (by decide))) hW (by decide) rfl rfl rfl hl.1 rfl (Nat.le_of_ble_eq_true rfl) dX7_choose_103 ⟨Nat.le_of_ble_eq_true rfl, Nat.le_of_ble_eq_true rfl⟩) hL (fun u_54 H locs k_55 hW hL => ?_)
          obtain ⟨iu_54, fu_54⟩ := k_55
          have F_56 := F_36.trans fu_54
          refine lv_goto (tgt := 153) hx hb dX7_choose_106 (by decide) ?_
          exact sVret Cx hr hlk hW hL ⟨iu_54, F_56⟩ dX7_choose_153
      · refine lv_aload_n hx hb dX7_choose_86 rfl (lv_at hl 1 rfl) ?_
        refine lv_iconst (v := iv 1) hx hb dX7_choose_87 (by decide) ?_
        refine p_X7_91 Cx hW hL (k := 119) (by decide) rfl dX7_choose_88 (fun H locs hW hL => ?_)
        have F_57 : Fr S (uF u_33 119 15 1) pH := F_36.F rfl
        have i_58 : cX G (uF u_33 119 15 1) 0 0 0 := iu_33.F rfl rfl (show 0 ≤ 1 ∧ 1 ≤ 6 from ⟨by omega, by omega⟩)
        refine lv_goto (tgt := 153) hx hb dX7_choose_91 (by decide) ?_
        exact sVret Cx hr hlk hW hL ⟨i_58, F_57⟩ dX7_choose_153
  by_cases c_59 : S.1 119 14 = 2
  · refine lv_lookup (off := 57) (tgt := 61) hx hb dX7_choose_4 (by decide) (by rw [c_59]; decide) (by decide) ?_
    refine lv_aload_n hx hb dX7_choose_61 rfl (lv_at hl 0 rfl) ?_
    refine g_X7_21 Cx hW (k := 119) (by decide) rfl (v := .ref (G.2.2.1 + 135)) (rf_119_1 hI) dX7_choose_62 ?_
    refine lv_iconst (v := iv 0) hx hb dX7_choose_65 (by decide) ?_
    have q_60 : 0 ≤ S.1 119 9 ∧ S.1 119 9 ≤ 6 := hI.fi 119 9 7 (by decide) rfl
    refine sBi (sV (As := [.int (iv 0)]) (rest := []) (k := 135) Cx (s_X2_chooseUp l G S (gl := 0) hI (by omega) (by omega)) (c_X7_177 Cx rfl rfl (rmk_ok (by omega) (by decide))) hW (by decide) rfl rfl rfl hl.1 rfl (Nat.le_of_ble_eq_true rfl) dX7_choose_66 ⟨Nat.le_of_ble_eq_true rfl, Nat.le_of_ble_eq_true rfl⟩) hL (fun r_63 u_61 H locs k_62 hW hL => ?_)
    obtain ⟨iu_61, fu_61, xu_61⟩ := k_62
    have F_64 := (Fr.rf : Fr S S pH).trans (fu_61.to (fun k h => pX_H k (pF_X k h)))
    refine lv_istore_n (lv' := [(1, .int (iv r_63)), (0, .ref (G.2.2.1 + 119))]) hx hb dX7_choose_69 rfl hl (by decide) rfl (fun ls hl => ?_)
    refine lv_goto (tgt := 81) hx hb dX7_choose_70 (by decide) ?_
    refine lv_iload_n hx hb dX7_choose_81 rfl (lv_at hl 0 rfl) ?_
    refine lv_iconst (v := iv 1) hx hb dX7_choose_82 (by decide) ?_
    refine r_icmp_ne (tgt := 94) hx hb ⟨(by omega), (by omega)⟩ ⟨(by omega), (by omega)⟩ dX7_choose_83 (by decide) (fun c_65 => ?_) (fun c_65 => ?_)
    · refine lv_aload_n hx hb dX7_choose_94 rfl (lv_at hl 1 rfl) ?_
      refine g_X7_88 Cx hW (k := 119) (by decide) rfl (v := S.1 119 14) ((fu_61 119 rfl).1 14) dX7_choose_95 ?_
      refine lv_iconst (v := iv 1) hx hb dX7_choose_98 (by decide) ?_
      refine r_icmp_ne (tgt := 109) hx hb ⟨(by omega), (by omega)⟩ ⟨(by omega), (by omega)⟩ dX7_choose_99 (by decide) (fun c_66 => ?_) (fun c_66 => ?_)
      · refine lv_iload_n hx hb dX7_choose_109 rfl (lv_at hl 0 rfl) ?_
        refine r_if_ne (tgt := 121) hx hb ⟨(by omega), (by omega)⟩ dX7_choose_110 (by decide) (fun c_67 => ?_) (fun c_67 => ?_)
        · refine lv_aload_n hx hb dX7_choose_121 rfl (lv_at hl 1 rfl) ?_
          refine g_X7_88 Cx hW (k := 119) (by decide) rfl (v := S.1 119 14) ((fu_61 119 rfl).1 14) dX7_choose_122 ?_
          refine lv_iconst (v := iv 2) hx hb dX7_choose_125 (by decide) ?_
          refine r_icmp_ne (tgt := 137) hx hb ⟨(by omega), (by omega)⟩ ⟨(by omega), (by omega)⟩ dX7_choose_126 (by decide) (fun c_68 => ?_) (fun c_68 => ?_)
          · refine lv_aload_n hx hb dX7_choose_137 rfl (lv_at hl 1 rfl) ?_
            refine lv_aload_n hx hb dX7_choose_138 rfl (lv_at hl 1 rfl) ?_
            refine g_X7_21 Cx hW (k := 119) (by decide) rfl (v := .ref (G.2.2.1 + 135)) (rf_119_1 iu_61) dX7_choose_139 ?_
            have q_69 : (-1) ≤ u_61.1 135 17 ∧ u_61.1 135 17 ≤ 40 := iu_61.fi 135 17 2 (by decide) rfl
            refine sBi (sV (As := []) (rest := [.ref (G.2.2.1 + 119)]) (k := 135) Cx (s_X2_stuckRow l G u_61  iu_61) (c_X7_187 Cx rfl rfl (rmk_ok (by omega) (by decide))) hW (by decide) rfl rfl rfl hl.1 rfl (Nat.le_of_ble_eq_true rfl) dX7_choose_142 ⟨Nat.le_of_ble_eq_true rfl, Nat.le_of_ble_eq_true rfl⟩) hL (fun r_72 u_70 H locs k_71 hW hL => ?_)
            obtain ⟨eu_70, xu_70⟩ := k_71
            rw [eu_70] at hW
            refine p_X7_190 Cx hW hL (k := 119) (by decide) rfl dX7_choose_145 (fun H locs hW hL => ?_)
            have F_73 : Fr S (uF u_61 119 16 r_72) pH := F_64.F rfl
            have i_74 : cX G (uF u_61 119 16 r_72) 0 0 0 := iu_61.F rfl rfl (show (-1) ≤ r_72 ∧ r_72 ≤ 40 from ⟨by omega, by omega⟩)
            refine lv_aload_n hx hb dX7_choose_148 rfl (lv_at hl 1 rfl) ?_
            refine lv_iconst (v := iv 3) hx hb dX7_choose_149 (by decide) ?_
            refine p_X7_91 Cx hW hL (k := 119) (by decide) rfl dX7_choose_150 (fun H locs hW hL => ?_)
            have F_75 : Fr S (uF (uF u_61 119 16 r_72) 119 15 3) pH := F_73.F rfl
            have i_76 : cX G (uF (uF u_61 119 16 r_72) 119 15 3) 0 0 0 := i_74.F rfl rfl (show 0 ≤ 3 ∧ 3 ≤ 6 from ⟨by omega, by omega⟩)
            exact sVret Cx hr hlk hW hL ⟨i_76, F_75⟩ dX7_choose_153
          · refine lv_aload_n hx hb dX7_choose_129 rfl (lv_at hl 1 rfl) ?_
            refine lv_iconst (v := iv 4) hx hb dX7_choose_130 (by decide) ?_
            refine p_X7_69 Cx hW hL (k := 119) (by decide) rfl dX7_choose_131 (fun H locs hW hL => ?_)
            have F_77 : Fr S (uF u_61 119 9 4) pH := F_64.F rfl
            have i_78 : cX G (uF u_61 119 9 4) 0 0 0 := iu_61.status ⟨by omega, by omega⟩ (by omega)
            refine lv_goto (tgt := 153) hx hb dX7_choose_134 (by decide) ?_
            exact sVret Cx hr hlk hW hL ⟨i_78, F_77⟩ dX7_choose_153
        · refine lv_aload_n hx hb dX7_choose_113 rfl (lv_at hl 1 rfl) ?_
          refine lv_iconst (v := iv 2) hx hb dX7_choose_114 (by decide) ?_
          refine p_X7_91 Cx hW hL (k := 119) (by decide) rfl dX7_choose_115 (fun H locs hW hL => ?_)
          have F_79 : Fr S (uF u_61 119 15 2) pH := F_64.F rfl
          have i_80 : cX G (uF u_61 119 15 2) 0 0 0 := iu_61.F rfl rfl (show 0 ≤ 2 ∧ 2 ≤ 6 from ⟨by omega, by omega⟩)
          refine lv_goto (tgt := 153) hx hb dX7_choose_118 (by decide) ?_
          exact sVret Cx hr hlk hW hL ⟨i_80, F_79⟩ dX7_choose_153
      · refine lv_aload_n hx hb dX7_choose_102 rfl (lv_at hl 1 rfl) ?_
        have lk_81 : u_61.1 119 9 = S.1 119 9 := (fu_61 119 rfl).1 9
        refine sBv (sV (As := []) (rest := []) (k := 119) Cx (s_X7_endPhaseOne l G u_61  iu_61 (by omega)) (c_X7_184 Cx rfl rfl (rmk_ok (by omega) (by decide))) hW (by decide) rfl rfl rfl hl.1 rfl (Nat.le_of_ble_eq_true rfl) dX7_choose_103 ⟨Nat.le_of_ble_eq_true rfl, Nat.le_of_ble_eq_true rfl⟩) hL (fun u_82 H locs k_83 hW hL => ?_)
        obtain ⟨iu_82, fu_82⟩ := k_83
        have F_84 := F_64.trans fu_82
        refine lv_goto (tgt := 153) hx hb dX7_choose_106 (by decide) ?_
        exact sVret Cx hr hlk hW hL ⟨iu_82, F_84⟩ dX7_choose_153
    · refine lv_aload_n hx hb dX7_choose_86 rfl (lv_at hl 1 rfl) ?_
      refine lv_iconst (v := iv 1) hx hb dX7_choose_87 (by decide) ?_
      refine p_X7_91 Cx hW hL (k := 119) (by decide) rfl dX7_choose_88 (fun H locs hW hL => ?_)
      have F_85 : Fr S (uF u_61 119 15 1) pH := F_64.F rfl
      have i_86 : cX G (uF u_61 119 15 1) 0 0 0 := iu_61.F rfl rfl (show 0 ≤ 1 ∧ 1 ≤ 6 from ⟨by omega, by omega⟩)
      refine lv_goto (tgt := 153) hx hb dX7_choose_91 (by decide) ?_
      exact sVret Cx hr hlk hW hL ⟨i_86, F_85⟩ dX7_choose_153
  refine lv_lookup (off := 69) (tgt := 73) hx hb dX7_choose_4 (by decide) (by rw [iv_toInt ⟨(by omega), (by omega)⟩]; exact lk_out (by simp [List.forall_mem_cons]; omega)) (by decide) ?_
  refine lv_aload_n hx hb dX7_choose_73 rfl (lv_at hl 0 rfl) ?_
  refine g_X7_21 Cx hW (k := 119) (by decide) rfl (v := .ref (G.2.2.1 + 135)) (rf_119_1 hI) dX7_choose_74 ?_
  have q_87 : 0 ≤ S.1 119 9 ∧ S.1 119 9 ≤ 6 := hI.fi 119 9 7 (by decide) rfl
  refine sBi (sV (As := []) (rest := []) (k := 135) Cx (s_X2_chooseDown l G S  hI (by omega)) (c_X7_181 Cx rfl rfl (rmk_ok (by omega) (by decide))) hW (by decide) rfl rfl rfl hl.1 rfl (Nat.le_of_ble_eq_true rfl) dX7_choose_77 ⟨Nat.le_of_ble_eq_true rfl, Nat.le_of_ble_eq_true rfl⟩) hL (fun r_90 u_88 H locs k_89 hW hL => ?_)
  obtain ⟨iu_88, fu_88, xu_88⟩ := k_89
  have F_91 := (Fr.rf : Fr S S pH).trans (fu_88.to (fun k h => pX_H k (pF_X k h)))
  refine lv_istore_n (lv' := [(1, .int (iv r_90)), (0, .ref (G.2.2.1 + 119))]) hx hb dX7_choose_80 rfl hl (by decide) rfl (fun ls hl => ?_)
  refine lv_iload_n hx hb dX7_choose_81 rfl (lv_at hl 0 rfl) ?_
  refine lv_iconst (v := iv 1) hx hb dX7_choose_82 (by decide) ?_
  refine r_icmp_ne (tgt := 94) hx hb ⟨(by omega), (by omega)⟩ ⟨(by omega), (by omega)⟩ dX7_choose_83 (by decide) (fun c_92 => ?_) (fun c_92 => ?_)
  · refine lv_aload_n hx hb dX7_choose_94 rfl (lv_at hl 1 rfl) ?_
    refine g_X7_88 Cx hW (k := 119) (by decide) rfl (v := S.1 119 14) ((fu_88 119 rfl).1 14) dX7_choose_95 ?_
    refine lv_iconst (v := iv 1) hx hb dX7_choose_98 (by decide) ?_
    refine r_icmp_ne (tgt := 109) hx hb ⟨(by omega), (by omega)⟩ ⟨(by omega), (by omega)⟩ dX7_choose_99 (by decide) (fun c_93 => ?_) (fun c_93 => ?_)
    · refine lv_iload_n hx hb dX7_choose_109 rfl (lv_at hl 0 rfl) ?_
      refine r_if_ne (tgt := 121) hx hb ⟨(by omega), (by omega)⟩ dX7_choose_110 (by decide) (fun c_94 => ?_) (fun c_94 => ?_)
      · refine lv_aload_n hx hb dX7_choose_121 rfl (lv_at hl 1 rfl) ?_
        refine g_X7_88 Cx hW (k := 119) (by decide) rfl (v := S.1 119 14) ((fu_88 119 rfl).1 14) dX7_choose_122 ?_
        refine lv_iconst (v := iv 2) hx hb dX7_choose_125 (by decide) ?_
        refine r_icmp_ne (tgt := 137) hx hb ⟨(by omega), (by omega)⟩ ⟨(by omega), (by omega)⟩ dX7_choose_126 (by decide) (fun c_95 => ?_) (fun c_95 => ?_)
        · refine lv_aload_n hx hb dX7_choose_137 rfl (lv_at hl 1 rfl) ?_
          refine lv_aload_n hx hb dX7_choose_138 rfl (lv_at hl 1 rfl) ?_
          refine g_X7_21 Cx hW (k := 119) (by decide) rfl (v := .ref (G.2.2.1 + 135)) (rf_119_1 iu_88) dX7_choose_139 ?_
          have q_96 : (-1) ≤ u_88.1 135 17 ∧ u_88.1 135 17 ≤ 40 := iu_88.fi 135 17 2 (by decide) rfl
          refine sBi (sV (As := []) (rest := [.ref (G.2.2.1 + 119)]) (k := 135) Cx (s_X2_stuckRow l G u_88  iu_88) (c_X7_187 Cx rfl rfl (rmk_ok (by omega) (by decide))) hW (by decide) rfl rfl rfl hl.1 rfl (Nat.le_of_ble_eq_true rfl) dX7_choose_142 ⟨Nat.le_of_ble_eq_true rfl, Nat.le_of_ble_eq_true rfl⟩) hL (fun r_99 u_97 H locs k_98 hW hL => ?_)
          obtain ⟨eu_97, xu_97⟩ := k_98
          rw [eu_97] at hW
          refine p_X7_190 Cx hW hL (k := 119) (by decide) rfl dX7_choose_145 (fun H locs hW hL => ?_)
          have F_100 : Fr S (uF u_88 119 16 r_99) pH := F_91.F rfl
          have i_101 : cX G (uF u_88 119 16 r_99) 0 0 0 := iu_88.F rfl rfl (show (-1) ≤ r_99 ∧ r_99 ≤ 40 from ⟨by omega, by omega⟩)
          refine lv_aload_n hx hb dX7_choose_148 rfl (lv_at hl 1 rfl) ?_
          refine lv_iconst (v := iv 3) hx hb dX7_choose_149 (by decide) ?_
          refine p_X7_91 Cx hW hL (k := 119) (by decide) rfl dX7_choose_150 (fun H locs hW hL => ?_)
          have F_102 : Fr S (uF (uF u_88 119 16 r_99) 119 15 3) pH := F_100.F rfl
          have i_103 : cX G (uF (uF u_88 119 16 r_99) 119 15 3) 0 0 0 := i_101.F rfl rfl (show 0 ≤ 3 ∧ 3 ≤ 6 from ⟨by omega, by omega⟩)
          exact sVret Cx hr hlk hW hL ⟨i_103, F_102⟩ dX7_choose_153
        · refine lv_aload_n hx hb dX7_choose_129 rfl (lv_at hl 1 rfl) ?_
          refine lv_iconst (v := iv 4) hx hb dX7_choose_130 (by decide) ?_
          refine p_X7_69 Cx hW hL (k := 119) (by decide) rfl dX7_choose_131 (fun H locs hW hL => ?_)
          have F_104 : Fr S (uF u_88 119 9 4) pH := F_91.F rfl
          have i_105 : cX G (uF u_88 119 9 4) 0 0 0 := iu_88.status ⟨by omega, by omega⟩ (by omega)
          refine lv_goto (tgt := 153) hx hb dX7_choose_134 (by decide) ?_
          exact sVret Cx hr hlk hW hL ⟨i_105, F_104⟩ dX7_choose_153
      · refine lv_aload_n hx hb dX7_choose_113 rfl (lv_at hl 1 rfl) ?_
        refine lv_iconst (v := iv 2) hx hb dX7_choose_114 (by decide) ?_
        refine p_X7_91 Cx hW hL (k := 119) (by decide) rfl dX7_choose_115 (fun H locs hW hL => ?_)
        have F_106 : Fr S (uF u_88 119 15 2) pH := F_91.F rfl
        have i_107 : cX G (uF u_88 119 15 2) 0 0 0 := iu_88.F rfl rfl (show 0 ≤ 2 ∧ 2 ≤ 6 from ⟨by omega, by omega⟩)
        refine lv_goto (tgt := 153) hx hb dX7_choose_118 (by decide) ?_
        exact sVret Cx hr hlk hW hL ⟨i_107, F_106⟩ dX7_choose_153
    · refine lv_aload_n hx hb dX7_choose_102 rfl (lv_at hl 1 rfl) ?_
      have lk_108 : u_88.1 119 9 = S.1 119 9 := (fu_88 119 rfl).1 9
      refine sBv (sV (As := []) (rest := []) (k := 119) Cx (s_X7_endPhaseOne l G u_88  iu_88 (by omega)) (c_X7_184 Cx rfl rfl (rmk_ok (by omega) (by decide))) hW (by decide) rfl rfl rfl hl.1 rfl (Nat.le_of_ble_eq_true rfl) dX7_choose_103 ⟨Nat.le_of_ble_eq_true rfl, Nat.le_of_ble_eq_true rfl⟩) hL (fun u_109 H locs k_110 hW hL => ?_)
      obtain ⟨iu_109, fu_109⟩ := k_110
      have F_111 := F_91.trans fu_109
      refine lv_goto (tgt := 153) hx hb dX7_choose_106 (by decide) ?_
      exact sVret Cx hr hlk hW hL ⟨iu_109, F_111⟩ dX7_choose_153
  · refine lv_aload_n hx hb dX7_choose_86 rfl (lv_at hl 1 rfl) ?_
    refine lv_iconst (v := iv 1) hx hb dX7_choose_87 (by decide) ?_
    refine p_X7_91 Cx hW hL (k := 119) (by decide) rfl dX7_choose_88 (fun H locs hW hL => ?_)
    have F_112 : Fr S (uF u_88 119 15 1) pH := F_91.F rfl
    have i_113 : cX G (uF u_88 119 15 1) 0 0 0 := iu_88.F rfl rfl (show 0 ≤ 1 ∧ 1 ≤ 6 from ⟨by omega, by omega⟩)
    refine lv_goto (tgt := 153) hx hb dX7_choose_91 (by decide) ?_
    exact sVret Cx hr hlk hW hL ⟨i_113, F_112⟩ dX7_choose_153

set_option maxRecDepth 100000 in
set_option maxHeartbeats 4000000 in
theorem s_X7_isAboveBest (l : Launch) (G : sG) (S : sS)  (hI : cX G S 0 0 0) : Met l yX7_isAboveBest (.code yX7_isAboveBest cX7_isAboveBest 1 (some .boolean) :: tb) (rmk 6 0 0) (sPc G 294 S [.ref (G.2.2.1 + 119)]) (sQi G 294 (fun r u => cX G u 0 0 0 ∧ Fr S u pN ∧ (0 ≤ r ∧ r ≤ 1))) 0 0 (sF G) := by
  refine sEnter (by decide) (Nat.le_of_ble_eq_true rfl) ?_
  intro p e s m args below meth c Cx hr hlk hnm hW ls hl
  have Cx : sC G p m c cX7_isAboveBest 1 s args RX7 := Cx
  obtain ⟨hx, hb, hml, hown, hts⟩ := id Cx.1
  have hL : sL G [] := sL_nil
  have hl : lv_has ls 1 [(0, .ref (G.2.2.1 + 119))] := hl
  have hW0 := hW
  refine lv_aload_n hx hb dX7_isAboveBest_0 rfl (lv_at hl 0 rfl) ?_
  refine g_X7_21 Cx hW (k := 119) (by decide) rfl (v := .ref (G.2.2.1 + 135)) (rf_119_1 hI) dX7_isAboveBest_1 ?_
  refine lv_iconst (v := iv 0) hx hb dX7_isAboveBest_4 (by decide) ?_
  refine lv_iconst (v := iv 0) hx hb dX7_isAboveBest_5 (by decide) ?_
  refine lv_aload_n hx hb dX7_isAboveBest_6 rfl (lv_at hl 0 rfl) ?_
  refine g_X7_42 Cx hW (k := 119) (by decide) rfl (v := .ref (G.2.2.1 + 181)) (rf_119_5 hI) dX7_isAboveBest_7 ?_
  refine sBv (sV (As := [.int (iv 0), .int (iv 0), .ref (G.2.2.1 + 181)]) (rest := []) (k := 135) Cx (s_X2_number l G S (i := 0) (j := 0) (v := 181) hI rfl (by omega) (by omega)) (c_X7_220 Cx rfl rfl (rmk_ok (by omega) (by decide))) hW (by decide) rfl rfl rfl hl.1 rfl (Nat.le_of_ble_eq_true rfl) dX7_isAboveBest_10 ⟨Nat.le_of_ble_eq_true rfl, Nat.le_of_ble_eq_true rfl⟩) hL (fun u_1 H locs k_2 hW hL => ?_)
  obtain ⟨iu_1, fu_1, xu_1⟩ := k_2
  have F_3 := (Fr.rf : Fr S S pN).trans (fu_1.to (pB_sub rfl rfl))
  refine lv_aload_n hx hb dX7_isAboveBest_13 rfl (lv_at hl 0 rfl) ?_
  refine g_X7_21 Cx hW (k := 119) (by decide) rfl (v := .ref (G.2.2.1 + 135)) (rf_119_1 iu_1) dX7_isAboveBest_14 ?_
  refine lv_aload_n hx hb dX7_isAboveBest_17 rfl (lv_at hl 0 rfl) ?_
  refine g_X7_45 Cx hW (k := 119) (by decide) rfl (v := .ref (G.2.2.1 + 183)) (rf_119_6 iu_1) dX7_isAboveBest_18 ?_
  refine sBv (sV (As := [.ref (G.2.2.1 + 183)]) (rest := []) (k := 135) Cx (s_X2_denominator l G u_1 (v := 183) iu_1 rfl) (c_X7_117 Cx rfl rfl (rmk_ok (by omega) (by decide))) hW (by decide) rfl rfl rfl hl.1 rfl (Nat.le_of_ble_eq_true rfl) dX7_isAboveBest_21 ⟨Nat.le_of_ble_eq_true rfl, Nat.le_of_ble_eq_true rfl⟩) hL (fun u_4 H locs k_5 hW hL => ?_)
  obtain ⟨iu_4, fu_4, xu_4⟩ := k_5
  have F_6 := F_3.trans (fu_4.to (pB_sub rfl rfl))
  have join_54 : ∀ (S54 : sS)  (H : Heap) (locs : List Loc) (ls : Array Slot), (cX G S54 0 0 0) → (Fr S S54 pN) → (Fr u_4 S54 pN) → sW G 294 S54 H → sL G locs → lv_has ls 1 [(0, .ref (G.2.2.1 + 119))] → W p l e (rmk 6 0 0) s m args below meth c H locs 0 0 (MQ below (sQi G 294 (fun r u => cX G u 0 0 0 ∧ Fr S u pN ∧ (0 ≤ r ∧ r ≤ 1))) args s 0 0 (sF G)) (F0 m 54 ls []) := by
    intro S54  H locs ls hI54 hFm54 hL54_ hW hL hl
    refine lv_aload_n hx hb dX7_isAboveBest_54 rfl (lv_at hl 0 rfl) ?_
    refine g_X7_28 Cx hW (k := 119) (by decide) rfl (v := .ref (G.2.2.1 + 157)) (rf_119_2 hI54) dX7_isAboveBest_55 ?_
    refine lv_aload_n hx hb dX7_isAboveBest_58 rfl (lv_at hl 0 rfl) ?_
    refine g_X7_39 Cx hW (k := 119) (by decide) rfl (v := .ref (G.2.2.1 + 179)) (rf_119_4 hI54) dX7_isAboveBest_59 ?_
    refine sBv (sV (As := [.ref (G.2.2.1 + 179)]) (rest := []) (k := 157) Cx (s_X5_pointDenominator l G S54 (v := 179) hI54 rfl) (c_X7_129 Cx rfl rfl (rmk_ok (by omega) (by decide))) hW (by decide) rfl rfl rfl hl.1 rfl (Nat.le_of_ble_eq_true rfl) dX7_isAboveBest_62 ⟨Nat.le_of_ble_eq_true rfl, Nat.le_of_ble_eq_true rfl⟩) hL (fun u_7 H locs k_8 hW hL => ?_)
    obtain ⟨iu_7, fu_7, xu_7⟩ := k_8
    have F_9 := hFm54.trans (fu_7.to (pB_sub rfl rfl))
    have F_10 := hL54_.trans (fu_7.to (pB_sub rfl rfl))
    refine lv_aload_n hx hb dX7_isAboveBest_65 rfl (lv_at hl 0 rfl) ?_
    refine g_X7_35 Cx hW (k := 119) (by decide) rfl (v := .ref (G.2.2.1 + 177)) (rf_119_3 iu_7) dX7_isAboveBest_66 ?_
    refine lv_aload_n hx hb dX7_isAboveBest_69 rfl (lv_at hl 0 rfl) ?_
    refine g_X7_42 Cx hW (k := 119) (by decide) rfl (v := .ref (G.2.2.1 + 181)) (rf_119_5 iu_7) dX7_isAboveBest_70 ?_
    refine lv_aload_n hx hb dX7_isAboveBest_73 rfl (lv_at hl 0 rfl) ?_
    refine g_X7_39 Cx hW (k := 119) (by decide) rfl (v := .ref (G.2.2.1 + 179)) (rf_119_4 iu_7) dX7_isAboveBest_74 ?_
    have q_11 : 0 ≤ S54.1 181 1 ∧ S54.1 181 1 ≤ 32 := hI54.fi 181 1 0 (by decide) rfl
    have lk_12 : u_7.1 181 1 = S54.1 181 1 := (fu_7 181 rfl).1 1
    have q_13 : 0 ≤ u_7.1 179 1 ∧ u_7.1 179 1 ≤ 32 := iu_7.fi 179 1 0 (by decide) rfl
    refine sBv (sV (As := [.ref (G.2.2.1 + 181), .ref (G.2.2.1 + 179)]) (rest := []) (k := 177) Cx (s_X0_product l G u_7 (o := 177) (a := 181) (b := 179) iu_7 rfl rfl rfl (show (177 : Nat) ≠ 181 by decide) (show (177 : Nat) ≠ 179 by decide)) (c_X7_233 Cx rfl rfl (rmk_ok (by omega) (by decide))) hW (by decide) rfl rfl rfl hl.1 rfl (Nat.le_of_ble_eq_true rfl) dX7_isAboveBest_77 ⟨Nat.le_of_ble_eq_true rfl, Nat.le_of_ble_eq_true rfl⟩) hL (fun u_14 H locs k_15 hW hL => ?_)
    obtain ⟨iu_14, fu_14, xu_14⟩ := k_15
    have F_16 := F_9.trans (fu_14.to (pB_sub rfl rfl))
    have F_17 := F_10.trans (fu_14.to (pB_sub rfl rfl))
    refine lv_aload_n hx hb dX7_isAboveBest_80 rfl (lv_at hl 0 rfl) ?_
    refine g_X7_28 Cx hW (k := 119) (by decide) rfl (v := .ref (G.2.2.1 + 157)) (rf_119_2 iu_14) dX7_isAboveBest_81 ?_
    refine lv_iconst (v := iv 0) hx hb dX7_isAboveBest_84 (by decide) ?_
    refine lv_aload_n hx hb dX7_isAboveBest_85 rfl (lv_at hl 0 rfl) ?_
    refine g_X7_42 Cx hW (k := 119) (by decide) rfl (v := .ref (G.2.2.1 + 181)) (rf_119_5 iu_14) dX7_isAboveBest_86 ?_
    refine sBv (sV (As := [.int (iv 0), .ref (G.2.2.1 + 181)]) (rest := []) (k := 157) Cx (s_X5_pointNumber l G u_14 (j := 0) (v := 181) iu_14 rfl (by omega)) (c_X7_125 Cx rfl rfl (rmk_ok (by omega) (by decide))) hW (by decide) rfl rfl rfl hl.1 rfl (Nat.le_of_ble_eq_true rfl) dX7_isAboveBest_89 ⟨Nat.le_of_ble_eq_true rfl, Nat.le_of_ble_eq_true rfl⟩) hL (fun u_18 H locs k_19 hW hL => ?_)
    obtain ⟨iu_18, fu_18, xu_18⟩ := k_19
    have F_20 := F_16.trans (fu_18.to (pB_sub rfl rfl))
    have F_21 := F_17.trans (fu_18.to (pB_sub rfl rfl))
    refine lv_aload_n hx hb dX7_isAboveBest_92 rfl (lv_at hl 0 rfl) ?_
    refine g_X7_39 Cx hW (k := 119) (by decide) rfl (v := .ref (G.2.2.1 + 179)) (rf_119_4 iu_18) dX7_isAboveBest_93 ?_
    refine lv_aload_n hx hb dX7_isAboveBest_96 rfl (lv_at hl 0 rfl) ?_
    refine g_X7_42 Cx hW (k := 119) (by decide) rfl (v := .ref (G.2.2.1 + 181)) (rf_119_5 iu_18) dX7_isAboveBest_97 ?_
    refine lv_aload_n hx hb dX7_isAboveBest_100 rfl (lv_at hl 0 rfl) ?_
    refine g_X7_45 Cx hW (k := 119) (by decide) rfl (v := .ref (G.2.2.1 + 183)) (rf_119_6 iu_18) dX7_isAboveBest_101 ?_
    have q_22 : 0 ≤ u_18.1 181 1 ∧ u_18.1 181 1 ≤ 32 := iu_18.fi 181 1 0 (by decide) rfl
    have q_23 : 0 ≤ S54.1 183 1 ∧ S54.1 183 1 ≤ 32 := hI54.fi 183 1 0 (by decide) rfl
    have lk_24 : u_18.1 183 1 = S54.1 183 1 := ((fu_18 183 rfl).1 1).trans (((fu_14 183 rfl).1 1).trans ((fu_7 183 rfl).1 1))
    refine sBv (sV (As := [.ref (G.2.2.1 + 181), .ref (G.2.2.1 + 183)]) (rest := []) (k := 179) Cx (s_X0_product l G u_18 (o := 179) (a := 181) (b := 183) iu_18 rfl rfl rfl (show (179 : Nat) ≠ 181 by decide) (show (179 : Nat) ≠ 183 by decide)) (c_X7_233 Cx rfl rfl (rmk_ok (by omega) (by decide))) hW (by decide) rfl rfl rfl hl.1 rfl (Nat.le_of_ble_eq_true rfl) dX7_isAboveBest_104 ⟨Nat.le_of_ble_eq_true rfl, Nat.le_of_ble_eq_true rfl⟩) hL (fun u_25 H locs k_26 hW hL => ?_)
    obtain ⟨iu_25, fu_25, xu_25⟩ := k_26
    have F_27 := F_20.trans (fu_25.to (pB_sub rfl rfl))
    have F_28 := F_21.trans (fu_25.to (pB_sub rfl rfl))
    refine lv_aload_n hx hb dX7_isAboveBest_107 rfl (lv_at hl 0 rfl) ?_
    refine g_X7_35 Cx hW (k := 119) (by decide) rfl (v := .ref (G.2.2.1 + 177)) (rf_119_3 iu_25) dX7_isAboveBest_108 ?_
    refine lv_aload_n hx hb dX7_isAboveBest_111 rfl (lv_at hl 0 rfl) ?_
    refine g_X7_39 Cx hW (k := 119) (by decide) rfl (v := .ref (G.2.2.1 + 179)) (rf_119_4 iu_25) dX7_isAboveBest_112 ?_
    refine sBi (sV (As := [.ref (G.2.2.1 + 179)]) (rest := []) (k := 177) Cx (s_X0_compareWith l G u_25 (o := 177) (a := 179) iu_25 rfl rfl) (c_X7_237 Cx rfl rfl (rmk_ok (by omega) (by decide))) hW (by decide) rfl rfl rfl hl.1 rfl (Nat.le_of_ble_eq_true rfl) dX7_isAboveBest_115 ⟨Nat.le_of_ble_eq_true rfl, Nat.le_of_ble_eq_true rfl⟩) hL (fun r_31 u_29 H locs k_30 hW hL => ?_)
    obtain ⟨eu_29, xu_29⟩ := k_30
    rw [eu_29] at hW
    refine r_if_le (tgt := 125) hx hb ⟨(by omega), (by omega)⟩ dX7_isAboveBest_118 (by decide) (fun c_32 => ?_) (fun c_32 => ?_)
    · refine lv_iconst (v := iv 0) hx hb dX7_isAboveBest_125 (by decide) ?_
      exact sZret Cx hr hlk hW hL (by omega) ⟨iu_25, F_27, (by omega)⟩ dX7_isAboveBest_126
    · refine lv_iconst (v := iv 1) hx hb dX7_isAboveBest_121 (by decide) ?_
      refine lv_goto (tgt := 126) hx hb dX7_isAboveBest_122 (by decide) ?_
      exact sZret Cx hr hlk hW hL (by omega) ⟨iu_25, F_27, (by omega)⟩ dX7_isAboveBest_126
  refine lv_aload_n hx hb dX7_isAboveBest_24 rfl (lv_at hl 0 rfl) ?_
  obtain ⟨o_33, mo_33, eo_33⟩ := hI.rm.2.2.1
  refine g_X7_51 Cx hW (k := 119) (by decide) rfl (v := .ref (G.2.2.1 + o_33)) ((((fu_4 119 rfl).2.2.2 7).trans ((fu_1 119 rfl).2.2.2 7)).trans eo_33) dX7_isAboveBest_25 ?_
  refine sBi (sV (As := []) (rest := []) (k := o_33) Cx (s_X3_isGoalWhole l G u_4 (o := o_33) iu_4 mo_33) (c_X7_223 Cx rfl rfl (rmk_ok (by omega) (by decide))) hW (mdl_l mo_33) mo_33.1 rfl rfl hl.1 rfl (Nat.le_of_ble_eq_true rfl) dX7_isAboveBest_28 ⟨Nat.le_of_ble_eq_true rfl, Nat.le_of_ble_eq_true rfl⟩) hL (fun r_36 u_34 H locs k_35 hW hL => ?_)
  obtain ⟨eu_34, xu_34⟩ := k_35
  rw [eu_34] at hW
  refine r_if_eq (tgt := 54) hx hb ⟨(by omega), (by omega)⟩ dX7_isAboveBest_31 (by decide) (fun c_37 => ?_) (fun c_37 => ?_)
  · exact join_54 u_4  _ _ _ iu_4 F_6 (Fr.rf : Fr u_4 u_4 pN) hW hL (lv_sub hl [0] rfl)
  · refine lv_aload_n hx hb dX7_isAboveBest_34 rfl (lv_at hl 0 rfl) ?_
    refine g_X7_21 Cx hW (k := 119) (by decide) rfl (v := .ref (G.2.2.1 + 135)) (rf_119_1 iu_4) dX7_isAboveBest_35 ?_
    refine lv_iconst (v := iv 0) hx hb dX7_isAboveBest_38 (by decide) ?_
    refine lv_aload_n hx hb dX7_isAboveBest_39 rfl (lv_at hl 0 rfl) ?_
    refine g_X7_42 Cx hW (k := 119) (by decide) rfl (v := .ref (G.2.2.1 + 181)) (rf_119_5 iu_4) dX7_isAboveBest_40 ?_
    refine sBv (sV (As := [.int (iv 0), .ref (G.2.2.1 + 181)]) (rest := []) (k := 135) Cx (s_X2_floor l G u_4 (i := 0) iu_4 (by omega)) (c_X7_226 Cx rfl rfl (rmk_ok (by omega) (by decide))) hW (by decide) rfl rfl rfl hl.1 rfl (Nat.le_of_ble_eq_true rfl) dX7_isAboveBest_43 ⟨Nat.le_of_ble_eq_true rfl, Nat.le_of_ble_eq_true rfl⟩) hL (fun u_38 H locs k_39 hW hL => ?_)
    obtain ⟨iu_38, fu_38, xu_38⟩ := k_39
    have F_40 := F_6.trans fu_38
    have F_41 := (Fr.rf : Fr u_4 u_4 pN).trans fu_38
    refine lv_aload_n hx hb dX7_isAboveBest_46 rfl (lv_at hl 0 rfl) ?_
    refine g_X7_45 Cx hW (k := 119) (by decide) rfl (v := .ref (G.2.2.1 + 183)) (rf_119_6 iu_38) dX7_isAboveBest_47 ?_
    refine lv_lconst (v := jv 1) hx hb dX7_isAboveBest_50 (by decide) ?_
    refine sBv (sV (As := [.long (jv 1)]) (rest := []) (k := 183) Cx (s_X0_put l G u_38 (o := 183) (v := 1) iu_38 rfl (by omega)) (c_X7_229 Cx rfl rfl (rmk_ok (by omega) (by decide))) hW (by decide) rfl rfl rfl hl.1 rfl (Nat.le_of_ble_eq_true rfl) dX7_isAboveBest_51 ⟨Nat.le_of_ble_eq_true rfl, Nat.le_of_ble_eq_true rfl⟩) hL (fun u_42 H locs k_43 hW hL => ?_)
    obtain ⟨iu_42, fu_42, xu_42⟩ := k_43
    have F_44 := F_40.trans (fu_42.to (pB_sub rfl rfl))
    have F_45 := F_41.trans (fu_42.to (pB_sub rfl rfl))
    exact join_54 u_42  _ _ _ iu_42 F_44 F_45 hW hL (lv_sub hl [0] rfl)

set_option maxRecDepth 100000 in
set_option maxHeartbeats 4000000 in
theorem s_X7_judge (l : Launch) (G : sG) (S : sS)  (hI : cX G S 0 0 0) : Met l yX7_judge (.code yX7_judge cX7_judge 2 none :: tb) (rmk 7 0 0) (sPc G 294 S [.ref (G.2.2.1 + 119)]) (sQv G 294 (fun u => cX G u 0 0 0 ∧ Fr S u pH)) 0 0 (sF G) := by
  refine sEnter (by decide) (Nat.le_of_ble_eq_true rfl) ?_
  intro p e s m args below meth c Cx hr hlk hnm hW ls hl
  have Cx : sC G p m c cX7_judge 2 s args RX7 := Cx
  obtain ⟨hx, hb, hml, hown, hts⟩ := id Cx.1
  have hL : sL G [] := sL_nil
  have hl : lv_has ls 2 [(0, .ref (G.2.2.1 + 119))] := hl
  have hW0 := hW
  refine lv_aload_n hx hb dX7_judge_0 rfl (lv_at hl 0 rfl) ?_
  refine lv_iconst (v := iv 0) hx hb dX7_judge_1 (by decide) ?_
  refine p_X7_190 Cx hW hL (k := 119) (by decide) rfl dX7_judge_2 (fun H locs hW hL => ?_)
  have F_1 : Fr S (uF S 119 16 0) pH := (Fr.rf : Fr S S pH).F rfl
  have i_2 : cX G (uF S 119 16 0) 0 0 0 := hI.F rfl rfl (show (-1) ≤ 0 ∧ 0 ≤ 40 from ⟨by omega, by omega⟩)
  refine lv_aload_n hx hb dX7_judge_5 rfl (lv_at hl 0 rfl) ?_
  refine lv_iconst (v := iv 3) hx hb dX7_judge_6 (by decide) ?_
  refine p_X7_91 Cx hW hL (k := 119) (by decide) rfl dX7_judge_7 (fun H locs hW hL => ?_)
  have F_3 : Fr S (uF (uF S 119 16 0) 119 15 3) pH := F_1.F rfl
  have i_4 : cX G (uF (uF S 119 16 0) 119 15 3) 0 0 0 := i_2.F rfl rfl (show 0 ≤ 3 ∧ 3 ≤ 6 from ⟨by omega, by omega⟩)
  refine lv_aload_n hx hb dX7_judge_10 rfl (lv_at hl 0 rfl) ?_
  have q_5 : (-2147483648) ≤ S.1 119 12 ∧ S.1 119 12 ≤ 2147483647 := hI.fi 119 12 7 (by decide) rfl
  refine g_X7_78 Cx hW (k := 119) (by decide) rfl (v := S.1 119 12) ((uF_ne (fun h => absurd h.2 (by decide))).trans (uF_ne (fun h => absurd h.2 (by decide)))) dX7_judge_11 ?_
  refine r_if_le (tgt := 25) hx hb ⟨(by omega), (by omega)⟩ dX7_judge_14 (by decide) (fun c_6 => ?_) (fun c_6 => ?_)
  · refine lv_aload_n hx hb dX7_judge_25 rfl (lv_at hl 0 rfl) ?_
    refine g_X7_21 Cx hW (k := 119) (by decide) rfl (v := .ref (G.2.2.1 + 135)) (rf_119_1 i_4) dX7_judge_26 ?_
    refine lv_aload_n hx hb dX7_judge_29 rfl (lv_at hl 0 rfl) ?_
    obtain ⟨o_7, mo_7, eo_7⟩ := hI.rm.2.2.1
    refine g_X7_51 Cx hW (k := 119) (by decide) rfl (v := .ref (G.2.2.1 + o_7)) (((uF_r).trans (uF_r)).trans eo_7) dX7_judge_30 ?_
    refine sBi (sV (As := [.ref (G.2.2.1 + o_7)]) (rest := []) (k := 135) Cx (s_X2_brokenRow l G (uF (uF S 119 16 0) 119 15 3) (md := o_7) i_4 mo_7) (c_X7_209 Cx rfl rfl (rmk_ok (by omega) (by decide))) hW (by decide) rfl rfl rfl hl.1 rfl (Nat.le_of_ble_eq_true rfl) dX7_judge_33 ⟨Nat.le_of_ble_eq_true rfl, Nat.le_of_ble_eq_true rfl⟩) hL (fun r_10 u_8 H locs k_9 hW hL => ?_)
    obtain ⟨iu_8, fu_8, xu_8⟩ := k_9
    have F_11 := F_3.trans (fu_8.to (fun k h => pW_H k (pN_W k h)))
    refine lv_istore_n (lv' := [(1, .int (iv r_10)), (0, .ref (G.2.2.1 + 119))]) hx hb dX7_judge_36 rfl hl (by decide) rfl (fun ls hl => ?_)
    refine lv_iload_n hx hb dX7_judge_37 rfl (lv_at hl 0 rfl) ?_
    refine r_if_ne (tgt := 70) hx hb ⟨(by omega), (by omega)⟩ dX7_judge_38 (by decide) (fun c_12 => ?_) (fun c_12 => ?_)
    · refine lv_aload_n hx hb dX7_judge_70 rfl (lv_at hl 1 rfl) ?_
      refine lv_iload_n hx hb dX7_judge_71 rfl (lv_at hl 0 rfl) ?_
      refine p_X7_190 Cx hW hL (k := 119) (by decide) rfl dX7_judge_72 (fun H locs hW hL => ?_)
      have F_13 : Fr S (uF u_8 119 16 r_10) pH := F_11.F rfl
      have i_14 : cX G (uF u_8 119 16 r_10) 0 0 0 := iu_8.F rfl rfl (show (-1) ≤ r_10 ∧ r_10 ≤ 40 from ⟨by omega, by omega⟩)
      refine lv_aload_n hx hb dX7_judge_75 rfl (lv_at hl 1 rfl) ?_
      refine lv_aload_n hx hb dX7_judge_76 rfl (lv_at hl 1 rfl) ?_
      refine g_X7_51 Cx hW (k := 119) (by decide) rfl (v := .ref (G.2.2.1 + o_7)) (((uF_r).trans (((fu_8 119 rfl).2.2.2 7).trans ((uF_r).trans (uF_r)))).trans eo_7) dX7_judge_77 ?_
      refine sBi (sV (As := []) (rest := [.ref (G.2.2.1 + 119)]) (k := o_7) Cx (s_X3_isAllWhole l G (uF u_8 119 16 r_10) (o := o_7) i_14 mo_7) (c_X7_217 Cx rfl rfl (rmk_ok (by omega) (by decide))) hW (mdl_l mo_7) mo_7.1 rfl rfl hl.1 rfl (Nat.le_of_ble_eq_true rfl) dX7_judge_80 ⟨Nat.le_of_ble_eq_true rfl, Nat.le_of_ble_eq_true rfl⟩) hL (fun r_17 u_15 H locs k_16 hW hL => ?_)
      obtain ⟨eu_15, xu_15⟩ := k_16
      rw [eu_15] at hW
      refine r_if_eq (tgt := 101) hx hb ⟨(by omega), (by omega)⟩ dX7_judge_83 (by decide) (fun c_18 => ?_) (fun c_18 => ?_)
      · refine lv_iconst (v := iv 5) hx hb dX7_judge_101 (by decide) ?_
        refine p_X7_91 Cx hW hL (k := 119) (by decide) rfl dX7_judge_102 (fun H locs hW hL => ?_)
        have F_19 : Fr S (uF (uF u_8 119 16 r_10) 119 15 5) pH := F_13.F rfl
        have i_20 : cX G (uF (uF u_8 119 16 r_10) 119 15 5) 0 0 0 := i_14.F rfl rfl (show 0 ≤ 5 ∧ 5 ≤ 6 from ⟨by omega, by omega⟩)
        exact sVret Cx hr hlk hW hL ⟨i_20, F_19⟩ dX7_judge_105
      · refine lv_aload_n hx hb dX7_judge_86 rfl (lv_at hl 1 rfl) ?_
        have q_21 : (-2147483648) ≤ S.1 119 13 ∧ S.1 119 13 ≤ 2147483647 := hI.fi 119 13 7 (by decide) rfl
        refine g_X7_81 Cx hW (k := 119) (by decide) rfl (v := S.1 119 13) ((uF_ne (fun h => absurd h.2 (by decide))).trans (((fu_8 119 rfl).1 13).trans ((uF_ne (fun h => absurd h.2 (by decide))).trans (uF_ne (fun h => absurd h.2 (by decide)))))) dX7_judge_87 ?_
        refine lv_aload_n hx hb dX7_judge_90 rfl (lv_at hl 1 rfl) ?_
        have q_22 : 0 ≤ S.1 119 8 ∧ S.1 119 8 ≤ 20 := hI.fi 119 8 7 (by decide) rfl
        refine g_X7_55 Cx hW (k := 119) (by decide) rfl (v := S.1 119 8) ((uF_ne (fun h => absurd h.2 (by decide))).trans (((fu_8 119 rfl).1 8).trans ((uF_ne (fun h => absurd h.2 (by decide))).trans (uF_ne (fun h => absurd h.2 (by decide)))))) dX7_judge_91 ?_
        refine r_icmp_ge (tgt := 101) hx hb ⟨(by omega), (by omega)⟩ ⟨(by omega), (by omega)⟩ dX7_judge_94 (by decide) (fun c_23 => ?_) (fun c_23 => ?_)
        · refine lv_iconst (v := iv 5) hx hb dX7_judge_101 (by decide) ?_
          refine p_X7_91 Cx hW hL (k := 119) (by decide) rfl dX7_judge_102 (fun H locs hW hL => ?_)
          have F_24 : Fr S (uF (uF u_8 119 16 r_10) 119 15 5) pH := F_13.F rfl
          have i_25 : cX G (uF (uF u_8 119 16 r_10) 119 15 5) 0 0 0 := i_14.F rfl rfl (show 0 ≤ 5 ∧ 5 ≤ 6 from ⟨by omega, by omega⟩)
          exact sVret Cx hr hlk hW hL ⟨i_25, F_24⟩ dX7_judge_105
        · refine lv_iconst (v := iv 4) hx hb dX7_judge_97 (by decide) ?_
          refine lv_goto (tgt := 102) hx hb dX7_judge_98 (by decide) ?_
          refine p_X7_91 Cx hW hL (k := 119) (by decide) rfl dX7_judge_102 (fun H locs hW hL => ?_)
          have F_26 : Fr S (uF (uF u_8 119 16 r_10) 119 15 4) pH := F_13.F rfl
          have i_27 : cX G (uF (uF u_8 119 16 r_10) 119 15 4) 0 0 0 := i_14.F rfl rfl (show 0 ≤ 4 ∧ 4 ≤ 6 from ⟨by omega, by omega⟩)
          exact sVret Cx hr hlk hW hL ⟨i_27, F_26⟩ dX7_judge_105
    · refine lv_aload_n hx hb dX7_judge_41 rfl (lv_at hl 1 rfl) ?_
      refine lv_dup hx hb dX7_judge_42 rfl ?_
      refine g_X7_78 Cx hW (k := 119) (by decide) rfl (v := S.1 119 12) (((fu_8 119 rfl).1 12).trans ((uF_ne (fun h => absurd h.2 (by decide))).trans (uF_ne (fun h => absurd h.2 (by decide))))) dX7_judge_43 ?_
      refine lv_iconst (v := iv 1) hx hb dX7_judge_46 (by decide) ?_
      refine r_iadd hx hb dX7_judge_47 ?_
      obtain ⟨z_28, ez_28, hz_28, kz_28⟩ := iv_of (iv ((S.1 119 12) + 1))
      rw [ez_28]
      refine p_X7_78 Cx hW hL (k := 119) (by decide) rfl dX7_judge_48 (fun H locs hW hL => ?_)
      have F_29 : Fr S (uF u_8 119 12 z_28) pH := F_11.F rfl
      have i_30 : cX G (uF u_8 119 12 z_28) 0 0 0 := iu_8.F rfl rfl (show (-2147483648) ≤ z_28 ∧ z_28 ≤ 2147483647 from ⟨by omega, by omega⟩)
      refine lv_aload_n hx hb dX7_judge_51 rfl (lv_at hl 1 rfl) ?_
      refine g_X7_28 Cx hW (k := 119) (by decide) rfl (v := .ref (G.2.2.1 + 157)) (rf_119_2 i_30) dX7_judge_52 ?_
      refine lv_aload_n hx hb dX7_judge_55 rfl (lv_at hl 1 rfl) ?_
      refine g_X7_21 Cx hW (k := 119) (by decide) rfl (v := .ref (G.2.2.1 + 135)) (rf_119_1 i_30) dX7_judge_56 ?_
      refine lv_aload_n hx hb dX7_judge_59 rfl (lv_at hl 1 rfl) ?_
      refine g_X7_51 Cx hW (k := 119) (by decide) rfl (v := .ref (G.2.2.1 + o_7)) (((uF_r).trans (((fu_8 119 rfl).2.2.2 7).trans ((uF_r).trans (uF_r)))).trans eo_7) dX7_judge_60 ?_
      have q_31 : 0 ≤ S.1 o_7 2 ∧ S.1 o_7 2 ≤ 12 := hI.fi o_7 2 3 (mdl_k mo_7) mo_7.1
      refine g_X7_110 Cx hW (k := o_7) (mdl_l mo_7) mo_7.1 (v := S.1 o_7 2) ((uF_ne (fun h => absurd h.2 (by decide))).trans (((fu_8 o_7 (mdl_pN mo_7).1).1 2).trans ((uF_ne (fun h => absurd h.2 (by decide))).trans (uF_ne (fun h => absurd h.2 (by decide)))))) dX7_judge_63 ?_
      refine sBv (sV (As := [.ref (G.2.2.1 + 135), .int (iv (S.1 o_7 2))]) (rest := []) (k := 157) Cx (s_X5_takePoint l G (uF u_8 119 12 z_28) (vs := S.1 o_7 2) i_30 (by omega)) (c_X7_213 Cx rfl rfl (rmk_ok (by omega) (by decide))) hW (by decide) rfl rfl rfl hl.1 rfl (Nat.le_of_ble_eq_true rfl) dX7_judge_66 ⟨Nat.le_of_ble_eq_true rfl, Nat.le_of_ble_eq_true rfl⟩) hL (fun u_32 H locs k_33 hW hL => ?_)
      obtain ⟨iu_32, fu_32⟩ := k_33
      have F_34 := F_29.trans (fu_32.to (fun k h => pW_H k (pN_W k h)))
      exact sVret Cx hr hlk hW hL ⟨iu_32, F_34⟩ dX7_judge_69
  · refine lv_aload_n hx hb dX7_judge_17 rfl (lv_at hl 0 rfl) ?_
    refine sBi (sV (As := []) (rest := []) (k := 119) Cx (s_X7_isAboveBest l G (uF (uF S 119 16 0) 119 15 3)  i_4) (c_X7_206 Cx rfl rfl (rmk_ok (by omega) (by decide))) hW (by decide) rfl rfl rfl hl.1 rfl (Nat.le_of_ble_eq_true rfl) dX7_judge_18 ⟨Nat.le_of_ble_eq_true rfl, Nat.le_of_ble_eq_true rfl⟩) hL (fun r_37 u_35 H locs k_36 hW hL => ?_)
    obtain ⟨iu_35, fu_35, xu_35⟩ := k_36
    have F_38 := F_3.trans (fu_35.to (fun k h => pW_H k (pN_W k h)))
    refine r_if_ne (tgt := 25) hx hb ⟨(by omega), (by omega)⟩ dX7_judge_21 (by decide) (fun c_39 => ?_) (fun c_39 => ?_)
    · refine lv_aload_n hx hb dX7_judge_25 rfl (lv_at hl 0 rfl) ?_
      refine g_X7_21 Cx hW (k := 119) (by decide) rfl (v := .ref (G.2.2.1 + 135)) (rf_119_1 iu_35) dX7_judge_26 ?_
      refine lv_aload_n hx hb dX7_judge_29 rfl (lv_at hl 0 rfl) ?_
      obtain ⟨o_40, mo_40, eo_40⟩ := hI.rm.2.2.1
      refine g_X7_51 Cx hW (k := 119) (by decide) rfl (v := .ref (G.2.2.1 + o_40)) ((((fu_35 119 rfl).2.2.2 7).trans ((uF_r).trans (uF_r))).trans eo_40) dX7_judge_30 ?_
      refine sBi (sV (As := [.ref (G.2.2.1 + o_40)]) (rest := []) (k := 135) Cx (s_X2_brokenRow l G u_35 (md := o_40) iu_35 mo_40) (c_X7_209 Cx rfl rfl (rmk_ok (by omega) (by decide))) hW (by decide) rfl rfl rfl hl.1 rfl (Nat.le_of_ble_eq_true rfl) dX7_judge_33 ⟨Nat.le_of_ble_eq_true rfl, Nat.le_of_ble_eq_true rfl⟩) hL (fun r_43 u_41 H locs k_42 hW hL => ?_)
      obtain ⟨iu_41, fu_41, xu_41⟩ := k_42
      have F_44 := F_38.trans (fu_41.to (fun k h => pW_H k (pN_W k h)))
      refine lv_istore_n (lv' := [(1, .int (iv r_43)), (0, .ref (G.2.2.1 + 119))]) hx hb dX7_judge_36 rfl hl (by decide) rfl (fun ls hl => ?_)
      refine lv_iload_n hx hb dX7_judge_37 rfl (lv_at hl 0 rfl) ?_
      refine r_if_ne (tgt := 70) hx hb ⟨(by omega), (by omega)⟩ dX7_judge_38 (by decide) (fun c_45 => ?_) (fun c_45 => ?_)
      · refine lv_aload_n hx hb dX7_judge_70 rfl (lv_at hl 1 rfl) ?_
        refine lv_iload_n hx hb dX7_judge_71 rfl (lv_at hl 0 rfl) ?_
        refine p_X7_190 Cx hW hL (k := 119) (by decide) rfl dX7_judge_72 (fun H locs hW hL => ?_)
        have F_46 : Fr S (uF u_41 119 16 r_43) pH := F_44.F rfl
        have i_47 : cX G (uF u_41 119 16 r_43) 0 0 0 := iu_41.F rfl rfl (show (-1) ≤ r_43 ∧ r_43 ≤ 40 from ⟨by omega, by omega⟩)
        refine lv_aload_n hx hb dX7_judge_75 rfl (lv_at hl 1 rfl) ?_
        refine lv_aload_n hx hb dX7_judge_76 rfl (lv_at hl 1 rfl) ?_
        refine g_X7_51 Cx hW (k := 119) (by decide) rfl (v := .ref (G.2.2.1 + o_40)) (((uF_r).trans (((fu_41 119 rfl).2.2.2 7).trans (((fu_35 119 rfl).2.2.2 7).trans ((uF_r).trans (uF_r))))).trans eo_40) dX7_judge_77 ?_
        refine sBi (sV (As := []) (rest := [.ref (G.2.2.1 + 119)]) (k := o_40) Cx (s_X3_isAllWhole l G (uF u_41 119 16 r_43) (o := o_40) i_47 mo_40) (c_X7_217 Cx rfl rfl (rmk_ok (by omega) (by decide))) hW (mdl_l mo_40) mo_40.1 rfl rfl hl.1 rfl (Nat.le_of_ble_eq_true rfl) dX7_judge_80 ⟨Nat.le_of_ble_eq_true rfl, Nat.le_of_ble_eq_true rfl⟩) hL (fun r_50 u_48 H locs k_49 hW hL => ?_)
        obtain ⟨eu_48, xu_48⟩ := k_49
        rw [eu_48] at hW
        refine r_if_eq (tgt := 101) hx hb ⟨(by omega), (by omega)⟩ dX7_judge_83 (by decide) (fun c_51 => ?_) (fun c_51 => ?_)
        · refine lv_iconst (v := iv 5) hx hb dX7_judge_101 (by decide) ?_
          refine p_X7_91 Cx hW hL (k := 119) (by decide) rfl dX7_judge_102 (fun H locs hW hL => ?_)
          have F_52 : Fr S (uF (uF u_41 119 16 r_43) 119 15 5) pH := F_46.F rfl
          have i_53 : cX G (uF (uF u_41 119 16 r_43) 119 15 5) 0 0 0 := i_47.F rfl rfl (show 0 ≤ 5 ∧ 5 ≤ 6 from ⟨by omega, by omega⟩)
          exact sVret Cx hr hlk hW hL ⟨i_53, F_52⟩ dX7_judge_105
        · refine lv_aload_n hx hb dX7_judge_86 rfl (lv_at hl 1 rfl) ?_
          have q_54 : (-2147483648) ≤ S.1 119 13 ∧ S.1 119 13 ≤ 2147483647 := hI.fi 119 13 7 (by decide) rfl
          refine g_X7_81 Cx hW (k := 119) (by decide) rfl (v := S.1 119 13) ((uF_ne (fun h => absurd h.2 (by decide))).trans (((fu_41 119 rfl).1 13).trans (((fu_35 119 rfl).1 13).trans ((uF_ne (fun h => absurd h.2 (by decide))).trans (uF_ne (fun h => absurd h.2 (by decide))))))) dX7_judge_87 ?_
          refine lv_aload_n hx hb dX7_judge_90 rfl (lv_at hl 1 rfl) ?_
          have q_55 : 0 ≤ S.1 119 8 ∧ S.1 119 8 ≤ 20 := hI.fi 119 8 7 (by decide) rfl
          refine g_X7_55 Cx hW (k := 119) (by decide) rfl (v := S.1 119 8) ((uF_ne (fun h => absurd h.2 (by decide))).trans (((fu_41 119 rfl).1 8).trans (((fu_35 119 rfl).1 8).trans ((uF_ne (fun h => absurd h.2 (by decide))).trans (uF_ne (fun h => absurd h.2 (by decide))))))) dX7_judge_91 ?_
          refine r_icmp_ge (tgt := 101) hx hb ⟨(by omega), (by omega)⟩ ⟨(by omega), (by omega)⟩ dX7_judge_94 (by decide) (fun c_56 => ?_) (fun c_56 => ?_)
          · refine lv_iconst (v := iv 5) hx hb dX7_judge_101 (by decide) ?_
            refine p_X7_91 Cx hW hL (k := 119) (by decide) rfl dX7_judge_102 (fun H locs hW hL => ?_)
            have F_57 : Fr S (uF (uF u_41 119 16 r_43) 119 15 5) pH := F_46.F rfl
            have i_58 : cX G (uF (uF u_41 119 16 r_43) 119 15 5) 0 0 0 := i_47.F rfl rfl (show 0 ≤ 5 ∧ 5 ≤ 6 from ⟨by omega, by omega⟩)
            exact sVret Cx hr hlk hW hL ⟨i_58, F_57⟩ dX7_judge_105
          · refine lv_iconst (v := iv 4) hx hb dX7_judge_97 (by decide) ?_
            refine lv_goto (tgt := 102) hx hb dX7_judge_98 (by decide) ?_
            refine p_X7_91 Cx hW hL (k := 119) (by decide) rfl dX7_judge_102 (fun H locs hW hL => ?_)
            have F_59 : Fr S (uF (uF u_41 119 16 r_43) 119 15 4) pH := F_46.F rfl
            have i_60 : cX G (uF (uF u_41 119 16 r_43) 119 15 4) 0 0 0 := i_47.F rfl rfl (show 0 ≤ 4 ∧ 4 ≤ 6 from ⟨by omega, by omega⟩)
            exact sVret Cx hr hlk hW hL ⟨i_60, F_59⟩ dX7_judge_105
      · refine lv_aload_n hx hb dX7_judge_41 rfl (lv_at hl 1 rfl) ?_
        refine lv_dup hx hb dX7_judge_42 rfl ?_
        refine g_X7_78 Cx hW (k := 119) (by decide) rfl (v := S.1 119 12) (((fu_41 119 rfl).1 12).trans (((fu_35 119 rfl).1 12).trans ((uF_ne (fun h => absurd h.2 (by decide))).trans (uF_ne (fun h => absurd h.2 (by decide)))))) dX7_judge_43 ?_
        refine lv_iconst (v := iv 1) hx hb dX7_judge_46 (by decide) ?_
        refine r_iadd hx hb dX7_judge_47 ?_
        obtain ⟨z_61, ez_61, hz_61, kz_61⟩ := iv_of (iv ((S.1 119 12) + 1))
        rw [ez_61]
        refine p_X7_78 Cx hW hL (k := 119) (by decide) rfl dX7_judge_48 (fun H locs hW hL => ?_)
        have F_62 : Fr S (uF u_41 119 12 z_61) pH := F_44.F rfl
        have i_63 : cX G (uF u_41 119 12 z_61) 0 0 0 := iu_41.F rfl rfl (show (-2147483648) ≤ z_61 ∧ z_61 ≤ 2147483647 from ⟨by omega, by omega⟩)
        refine lv_aload_n hx hb dX7_judge_51 rfl (lv_at hl 1 rfl) ?_
        refine g_X7_28 Cx hW (k := 119) (by decide) rfl (v := .ref (G.2.2.1 + 157)) (rf_119_2 i_63) dX7_judge_52 ?_
        refine lv_aload_n hx hb dX7_judge_55 rfl (lv_at hl 1 rfl) ?_
        refine g_X7_21 Cx hW (k := 119) (by decide) rfl (v := .ref (G.2.2.1 + 135)) (rf_119_1 i_63) dX7_judge_56 ?_
        refine lv_aload_n hx hb dX7_judge_59 rfl (lv_at hl 1 rfl) ?_
        refine g_X7_51 Cx hW (k := 119) (by decide) rfl (v := .ref (G.2.2.1 + o_40)) (((uF_r).trans (((fu_41 119 rfl).2.2.2 7).trans (((fu_35 119 rfl).2.2.2 7).trans ((uF_r).trans (uF_r))))).trans eo_40) dX7_judge_60 ?_
        have q_64 : 0 ≤ S.1 o_40 2 ∧ S.1 o_40 2 ≤ 12 := hI.fi o_40 2 3 (mdl_k mo_40) mo_40.1
        refine g_X7_110 Cx hW (k := o_40) (mdl_l mo_40) mo_40.1 (v := S.1 o_40 2) ((uF_ne (fun h => absurd h.2 (by decide))).trans (((fu_41 o_40 (mdl_pN mo_40).1).1 2).trans (((fu_35 o_40 (mdl_pN mo_40).1).1 2).trans ((uF_ne (fun h => absurd h.2 (by decide))).trans (uF_ne (fun h => absurd h.2 (by decide))))))) dX7_judge_63 ?_
        refine sBv (sV (As := [.ref (G.2.2.1 + 135), .int (iv (S.1 o_40 2))]) (rest := []) (k := 157) Cx (s_X5_takePoint l G (uF u_41 119 12 z_61) (vs := S.1 o_40 2) i_63 (by omega)) (c_X7_213 Cx rfl rfl (rmk_ok (by omega) (by decide))) hW (by decide) rfl rfl rfl hl.1 rfl (Nat.le_of_ble_eq_true rfl) dX7_judge_66 ⟨Nat.le_of_ble_eq_true rfl, Nat.le_of_ble_eq_true rfl⟩) hL (fun u_65 H locs k_66 hW hL => ?_)
        obtain ⟨iu_65, fu_65⟩ := k_66
        have F_67 := F_62.trans (fu_65.to (fun k h => pW_H k (pN_W k h)))
        exact sVret Cx hr hlk hW hL ⟨iu_65, F_67⟩ dX7_judge_69
    · exact sVret Cx hr hlk hW hL ⟨iu_35, F_38⟩ dX7_judge_24

set_option maxRecDepth 100000 in
set_option maxHeartbeats 4000000 in
theorem s_X7_leaf (l : Launch) (G : sG) (S : sS)  (hI : cX G S 0 0 0) : Met l yX7_leaf (.code yX7_leaf cX7_leaf 1 none :: tb) (rmk 8 0 0) (sPc G 294 S [.ref (G.2.2.1 + 119)]) (sQv G 294 (fun u => cX G u 0 0 0 ∧ Fr S u pH)) 0 0 (sF G) := by
  refine sEnter (by decide) (Nat.le_of_ble_eq_true rfl) ?_
  intro p e s m args below meth c Cx hr hlk hnm hW ls hl
  have Cx : sC G p m c cX7_leaf 1 s args RX7 := Cx
  obtain ⟨hx, hb, hml, hown, hts⟩ := id Cx.1
  have hL : sL G [] := sL_nil
  have hl : lv_has ls 1 [(0, .ref (G.2.2.1 + 119))] := hl
  have hW0 := hW
  refine lv_aload_n hx hb dX7_leaf_0 rfl (lv_at hl 0 rfl) ?_
  refine g_X7_28 Cx hW (k := 119) (by decide) rfl (v := .ref (G.2.2.1 + 157)) (rf_119_2 hI) dX7_leaf_1 ?_
  refine lv_aload_n hx hb dX7_leaf_4 rfl (lv_at hl 0 rfl) ?_
  refine g_X7_21 Cx hW (k := 119) (by decide) rfl (v := .ref (G.2.2.1 + 135)) (rf_119_1 hI) dX7_leaf_5 ?_
  refine lv_aload_n hx hb dX7_leaf_8 rfl (lv_at hl 0 rfl) ?_
  obtain ⟨o_1, mo_1, eo_1⟩ := hI.rm.2.2.1
  refine g_X7_51 Cx hW (k := 119) (by decide) rfl (v := .ref (G.2.2.1 + o_1)) eo_1 dX7_leaf_9 ?_
  have q_2 : 0 ≤ S.1 o_1 2 ∧ S.1 o_1 2 ≤ 12 := hI.fi o_1 2 3 (mdl_k mo_1) mo_1.1
  refine g_X7_110 Cx hW (k := o_1) (mdl_l mo_1) mo_1.1 (v := S.1 o_1 2) rfl dX7_leaf_12 ?_
  refine lv_aload_n hx hb dX7_leaf_15 rfl (lv_at hl 0 rfl) ?_
  have q_3 : (-1) ≤ S.1 119 16 ∧ S.1 119 16 ≤ 40 := hI.fi 119 16 7 (by decide) rfl
  refine g_X7_190 Cx hW (k := 119) (by decide) rfl (v := S.1 119 16) rfl dX7_leaf_16 ?_
  refine sBv (sV (As := [.ref (G.2.2.1 + 135), .int (iv (S.1 o_1 2)), .int (iv (S.1 119 16))]) (rest := []) (k := 157) Cx (s_X5_writeLeaf l G S (vs := S.1 o_1 2) (so := S.1 119 16) hI (by omega) (by omega)) (c_X7_241 Cx rfl rfl (rmk_ok (by omega) (by decide))) hW (by decide) rfl rfl rfl hl.1 rfl (Nat.le_of_ble_eq_true rfl) dX7_leaf_19 ⟨Nat.le_of_ble_eq_true rfl, Nat.le_of_ble_eq_true rfl⟩) hL (fun u_4 H locs k_5 hW hL => ?_)
  obtain ⟨iu_4, fu_4⟩ := k_5
  have F_6 := (Fr.rf : Fr S S pH).trans (fu_4.to (fun k h => pW_H k (pN_W k h)))
  refine lv_aload_n hx hb dX7_leaf_22 rfl (lv_at hl 0 rfl) ?_
  refine g_X7_28 Cx hW (k := 119) (by decide) rfl (v := .ref (G.2.2.1 + 157)) (rf_119_2 iu_4) dX7_leaf_23 ?_
  refine sBi (sV (As := []) (rest := []) (k := 157) Cx (s_X5_isTreeOver l G u_4  iu_4) (c_X7_245 Cx rfl rfl (rmk_ok (by omega) (by decide))) hW (by decide) rfl rfl rfl hl.1 rfl (Nat.le_of_ble_eq_true rfl) dX7_leaf_26 ⟨Nat.le_of_ble_eq_true rfl, Nat.le_of_ble_eq_true rfl⟩) hL (fun r_9 u_7 H locs k_8 hW hL => ?_)
  obtain ⟨eu_7, xu_7⟩ := k_8
  rw [eu_7] at hW
  refine r_if_eq (tgt := 41) hx hb ⟨(by omega), (by omega)⟩ dX7_leaf_29 (by decide) (fun c_10 => ?_) (fun c_10 => ?_)
  · refine lv_aload_n hx hb dX7_leaf_41 rfl (lv_at hl 0 rfl) ?_
    refine g_X7_21 Cx hW (k := 119) (by decide) rfl (v := .ref (G.2.2.1 + 135)) (rf_119_1 iu_4) dX7_leaf_42 ?_
    refine sBi (sV (As := []) (rest := []) (k := 135) Cx (s_X2_hasKept l G u_4  iu_4) (c_X7_248 Cx rfl rfl (rmk_ok (by omega) (by decide))) hW (by decide) rfl rfl rfl hl.1 rfl (Nat.le_of_ble_eq_true rfl) dX7_leaf_45 ⟨Nat.le_of_ble_eq_true rfl, Nat.le_of_ble_eq_true rfl⟩) hL (fun r_13 u_11 H locs k_12 hW hL => ?_)
    obtain ⟨eu_11, xu_11⟩ := k_12
    rw [eu_11] at hW
    refine r_if_eq (tgt := 60) hx hb ⟨(by omega), (by omega)⟩ dX7_leaf_48 (by decide) (fun c_14 => ?_) (fun c_14 => ?_)
    · refine lv_aload_n hx hb dX7_leaf_60 rfl (lv_at hl 0 rfl) ?_
      refine lv_aload_n hx hb dX7_leaf_61 rfl (lv_at hl 0 rfl) ?_
      have q_15 : (-2147483648) ≤ S.1 119 12 ∧ S.1 119 12 ≤ 2147483647 := hI.fi 119 12 7 (by decide) rfl
      refine g_X7_78 Cx hW (k := 119) (by decide) rfl (v := S.1 119 12) ((fu_4 119 rfl).1 12) dX7_leaf_62 ?_
      refine r_if_le (tgt := 72) hx hb ⟨(by omega), (by omega)⟩ dX7_leaf_65 (by decide) (fun c_16 => ?_) (fun c_16 => ?_)
      · refine lv_iconst (v := iv 3) hx hb dX7_leaf_72 (by decide) ?_
        refine p_X7_69 Cx hW hL (k := 119) (by decide) rfl dX7_leaf_73 (fun H locs hW hL => ?_)
        have F_17 : Fr S (uF u_4 119 9 3) pH := F_6.F rfl
        have i_18 : cX G (uF u_4 119 9 3) 0 0 0 := iu_4.status ⟨by omega, by omega⟩ (by omega)
        exact sVret Cx hr hlk hW hL ⟨i_18, F_17⟩ dX7_leaf_76
      · refine lv_iconst (v := iv 2) hx hb dX7_leaf_68 (by decide) ?_
        refine lv_goto (tgt := 73) hx hb dX7_leaf_69 (by decide) ?_
        refine p_X7_69 Cx hW hL (k := 119) (by decide) rfl dX7_leaf_73 (fun H locs hW hL => ?_)
        have F_19 : Fr S (uF u_4 119 9 2) pH := F_6.F rfl
        have i_20 : cX G (uF u_4 119 9 2) 0 0 0 := iu_4.status ⟨by omega, by omega⟩ (by omega)
        exact sVret Cx hr hlk hW hL ⟨i_20, F_19⟩ dX7_leaf_76
    · refine lv_aload_n hx hb dX7_leaf_51 rfl (lv_at hl 0 rfl) ?_
      refine lv_bipush (v := iv 6) hx hb dX7_leaf_52 (by decide) ?_
      refine p_X7_91 Cx hW hL (k := 119) (by decide) rfl dX7_leaf_54 (fun H locs hW hL => ?_)
      have F_21 : Fr S (uF u_4 119 15 6) pH := F_6.F rfl
      have i_22 : cX G (uF u_4 119 15 6) 0 0 0 := iu_4.F rfl rfl (show 0 ≤ 6 ∧ 6 ≤ 6 from ⟨by omega, by omega⟩)
      refine lv_goto (tgt := 76) hx hb dX7_leaf_57 (by decide) ?_
      exact sVret Cx hr hlk hW hL ⟨i_22, F_21⟩ dX7_leaf_76
  · refine lv_aload_n hx hb dX7_leaf_32 rfl (lv_at hl 0 rfl) ?_
    refine lv_bipush (v := iv 6) hx hb dX7_leaf_33 (by decide) ?_
    refine p_X7_69 Cx hW hL (k := 119) (by decide) rfl dX7_leaf_35 (fun H locs hW hL => ?_)
    have F_23 : Fr S (uF u_4 119 9 6) pH := F_6.F rfl
    have i_24 : cX G (uF u_4 119 9 6) 0 0 0 := iu_4.status ⟨by omega, by omega⟩ (by omega)
    refine lv_goto (tgt := 76) hx hb dX7_leaf_38 (by decide) ?_
    exact sVret Cx hr hlk hW hL ⟨i_24, F_23⟩ dX7_leaf_76

set_option maxRecDepth 100000 in
set_option maxHeartbeats 4000000 in
theorem s_X7_countChild (l : Launch) (G : sG) (S : sS) {hro : Int} (hI : cX G S 0 0 0) (hhr : 0 ≤ hro ∧ hro ≤ 1) : Met l yX7_countChild (.code yX7_countChild cX7_countChild 2 (some .boolean) :: tb) (rmk 3 0 0) (sPc G 294 S [.ref (G.2.2.1 + 119), .int (iv hro)]) (sQi G 294 (fun r u => cX G u 0 0 0 ∧ Fr S u (p1 119) ∧ (0 ≤ r ∧ r ≤ 1))) 0 0 (sF G) := by
  refine sEnter (by decide) (Nat.le_of_ble_eq_true rfl) ?_
  intro p e s m args below meth c Cx hr hlk hnm hW ls hl
  have Cx : sC G p m c cX7_countChild 2 s args RX7 := Cx
  obtain ⟨hx, hb, hml, hown, hts⟩ := id Cx.1
  have hL : sL G [] := sL_nil
  have hl : lv_has ls 2 [(0, .ref (G.2.2.1 + 119)), (1, .int (iv hro))] := hl
  have hW0 := hW
  refine lv_aload_n hx hb dX7_countChild_0 rfl (lv_at hl 0 rfl) ?_
  refine g_X7_28 Cx hW (k := 119) (by decide) rfl (v := .ref (G.2.2.1 + 157)) (rf_119_2 hI) dX7_countChild_1 ?_
  refine sBi (sV (As := []) (rest := []) (k := 157) Cx (s_X5_isTreeOver l G S  hI) (c_X7_245 Cx rfl rfl (rmk_ok (by omega) (by decide))) hW (by decide) rfl rfl rfl hl.1 rfl (Nat.le_of_ble_eq_true rfl) dX7_countChild_4 ⟨Nat.le_of_ble_eq_true rfl, Nat.le_of_ble_eq_true rfl⟩) hL (fun r_3 u_1 H locs k_2 hW hL => ?_)
  obtain ⟨eu_1, xu_1⟩ := k_2
  rw [eu_1] at hW
  refine r_if_ne (tgt := 24) hx hb ⟨(by omega), (by omega)⟩ dX7_countChild_7 (by decide) (fun c_4 => ?_) (fun c_4 => ?_)
  · refine lv_aload_n hx hb dX7_countChild_24 rfl (lv_at hl 0 rfl) ?_
    refine lv_bipush (v := iv 6) hx hb dX7_countChild_25 (by decide) ?_
    refine p_X7_69 Cx hW hL (k := 119) (by decide) rfl dX7_countChild_27 (fun H locs hW hL => ?_)
    have F_5 : Fr S (uF S 119 9 6) (p1 119) := (Fr.rf : Fr S S (p1 119)).F rfl
    have i_6 : cX G (uF S 119 9 6) 0 0 0 := hI.status ⟨by omega, by omega⟩ (by omega)
    refine lv_iconst (v := iv 0) hx hb dX7_countChild_30 (by decide) ?_
    exact sZret Cx hr hlk hW hL (by omega) ⟨i_6, F_5, (by omega)⟩ dX7_countChild_31
  · refine lv_iload_n hx hb dX7_countChild_10 rfl (lv_at hl 1 rfl) ?_
    refine r_if_eq (tgt := 24) hx hb ⟨(by omega), (by omega)⟩ dX7_countChild_11 (by decide) (fun c_7 => ?_) (fun c_7 => ?_)
    · refine lv_aload_n hx hb dX7_countChild_24 rfl (lv_at hl 0 rfl) ?_
      refine lv_bipush (v := iv 6) hx hb dX7_countChild_25 (by decide) ?_
      refine p_X7_69 Cx hW hL (k := 119) (by decide) rfl dX7_countChild_27 (fun H locs hW hL => ?_)
      have F_8 : Fr S (uF S 119 9 6) (p1 119) := (Fr.rf : Fr S S (p1 119)).F rfl
      have i_9 : cX G (uF S 119 9 6) 0 0 0 := hI.status ⟨by omega, by omega⟩ (by omega)
      refine lv_iconst (v := iv 0) hx hb dX7_countChild_30 (by decide) ?_
      exact sZret Cx hr hlk hW hL (by omega) ⟨i_9, F_8, (by omega)⟩ dX7_countChild_31
    · refine lv_aload_n hx hb dX7_countChild_14 rfl (lv_at hl 0 rfl) ?_
      have q_10 : 0 ≤ S.1 119 11 ∧ S.1 119 11 ≤ 1000 := hI.fi 119 11 7 (by decide) rfl
      refine g_X7_75 Cx hW (k := 119) (by decide) rfl (v := S.1 119 11) rfl dX7_countChild_15 ?_
      refine lv_sipush (v := iv 1000) hx hb dX7_countChild_18 (by decide) ?_
      refine r_icmp_lt (tgt := 32) hx hb ⟨(by omega), (by omega)⟩ ⟨(by omega), (by omega)⟩ dX7_countChild_21 (by decide) (fun c_11 => ?_) (fun c_11 => ?_)
      · refine lv_aload_n hx hb dX7_countChild_32 rfl (lv_at hl 0 rfl) ?_
        refine lv_dup hx hb dX7_countChild_33 rfl ?_
        refine g_X7_75 Cx hW (k := 119) (by decide) rfl (v := S.1 119 11) rfl dX7_countChild_34 ?_
        refine lv_iconst (v := iv 1) hx hb dX7_countChild_37 (by decide) ?_
        refine r_iadd hx hb dX7_countChild_38 ?_
        refine p_X7_75 Cx hW hL (k := 119) (by decide) rfl dX7_countChild_39 (fun H locs hW hL => ?_)
        have F_12 : Fr S (uF S 119 11 ((S.1 119 11) + 1)) (p1 119) := (Fr.rf : Fr S S (p1 119)).F rfl
        have i_13 : cX G (uF S 119 11 ((S.1 119 11) + 1)) 0 0 0 := hI.F rfl rfl (show 0 ≤ (S.1 119 11) + 1 ∧ (S.1 119 11) + 1 ≤ 1000 from ⟨by omega, by omega⟩)
        refine lv_aload_n hx hb dX7_countChild_42 rfl (lv_at hl 0 rfl) ?_
        refine lv_iconst (v := iv 3) hx hb dX7_countChild_43 (by decide) ?_
        refine p_X7_88 Cx hW hL (k := 119) (by decide) rfl dX7_countChild_44 (fun H locs hW hL => ?_)
        have F_14 : Fr S (uF (uF S 119 11 ((S.1 119 11) + 1)) 119 14 3) (p1 119) := F_12.F rfl
        have i_15 : cX G (uF (uF S 119 11 ((S.1 119 11) + 1)) 119 14 3) 0 0 0 := i_13.F rfl rfl (show 0 ≤ 3 ∧ 3 ≤ 3 from ⟨by omega, by omega⟩)
        refine lv_aload_n hx hb dX7_countChild_47 rfl (lv_at hl 0 rfl) ?_
        refine lv_iconst (v := iv 0) hx hb dX7_countChild_48 (by decide) ?_
        refine p_X7_91 Cx hW hL (k := 119) (by decide) rfl dX7_countChild_49 (fun H locs hW hL => ?_)
        have F_16 : Fr S (uF (uF (uF S 119 11 ((S.1 119 11) + 1)) 119 14 3) 119 15 0) (p1 119) := F_14.F rfl
        have i_17 : cX G (uF (uF (uF S 119 11 ((S.1 119 11) + 1)) 119 14 3) 119 15 0) 0 0 0 := i_15.F rfl rfl (show 0 ≤ 0 ∧ 0 ≤ 6 from ⟨by omega, by omega⟩)
        refine lv_iconst (v := iv 1) hx hb dX7_countChild_52 (by decide) ?_
        exact sZret Cx hr hlk hW hL (by omega) ⟨i_17, F_16, (by omega)⟩ dX7_countChild_53
      · refine lv_aload_n hx hb dX7_countChild_24 rfl (lv_at hl 0 rfl) ?_
        refine lv_bipush (v := iv 6) hx hb dX7_countChild_25 (by decide) ?_
        refine p_X7_69 Cx hW hL (k := 119) (by decide) rfl dX7_countChild_27 (fun H locs hW hL => ?_)
        have F_18 : Fr S (uF S 119 9 6) (p1 119) := (Fr.rf : Fr S S (p1 119)).F rfl
        have i_19 : cX G (uF S 119 9 6) 0 0 0 := hI.status ⟨by omega, by omega⟩ (by omega)
        refine lv_iconst (v := iv 0) hx hb dX7_countChild_30 (by decide) ?_
        exact sZret Cx hr hlk hW hL (by omega) ⟨i_19, F_18, (by omega)⟩ dX7_countChild_31

set_option maxRecDepth 100000 in
set_option maxHeartbeats 4000000 in
theorem s_X7_cut (l : Launch) (G : sG) (S : sS)  (hI : cX G S 0 0 0) : Met l yX7_cut (.code yX7_cut cX7_cut 1 none :: tb) (rmk 8 0 0) (sPc G 294 S [.ref (G.2.2.1 + 119)]) (sQv G 294 (fun u => cX G u 0 0 0 ∧ Fr S u pH)) 0 0 (sF G) := by
  refine sEnter (by decide) (Nat.le_of_ble_eq_true rfl) ?_
  intro p e s m args below meth c Cx hr hlk hnm hW ls hl
  have Cx : sC G p m c cX7_cut 1 s args RX7 := Cx
  obtain ⟨hx, hb, hml, hown, hts⟩ := id Cx.1
  have hL : sL G [] := sL_nil
  have hl : lv_has ls 1 [(0, .ref (G.2.2.1 + 119))] := hl
  have hW0 := hW
  refine lv_aload_n hx hb dX7_cut_0 rfl (lv_at hl 0 rfl) ?_
  refine g_X7_28 Cx hW (k := 119) (by decide) rfl (v := .ref (G.2.2.1 + 157)) (rf_119_2 hI) dX7_cut_1 ?_
  refine lv_aload_n hx hb dX7_cut_4 rfl (lv_at hl 0 rfl) ?_
  refine g_X7_21 Cx hW (k := 119) (by decide) rfl (v := .ref (G.2.2.1 + 135)) (rf_119_1 hI) dX7_cut_5 ?_
  refine lv_aload_n hx hb dX7_cut_8 rfl (lv_at hl 0 rfl) ?_
  obtain ⟨o_1, mo_1, eo_1⟩ := hI.rm.2.2.1
  refine g_X7_51 Cx hW (k := 119) (by decide) rfl (v := .ref (G.2.2.1 + o_1)) eo_1 dX7_cut_9 ?_
  have q_2 : 0 ≤ S.1 o_1 2 ∧ S.1 o_1 2 ≤ 12 := hI.fi o_1 2 3 (mdl_k mo_1) mo_1.1
  refine g_X7_110 Cx hW (k := o_1) (mdl_l mo_1) mo_1.1 (v := S.1 o_1 2) rfl dX7_cut_12 ?_
  refine lv_aload_n hx hb dX7_cut_15 rfl (lv_at hl 0 rfl) ?_
  have q_3 : (-1) ≤ S.1 119 16 ∧ S.1 119 16 ≤ 40 := hI.fi 119 16 7 (by decide) rfl
  refine g_X7_190 Cx hW (k := 119) (by decide) rfl (v := S.1 119 16) rfl dX7_cut_16 ?_
  refine lv_aload_n hx hb dX7_cut_19 rfl (lv_at hl 0 rfl) ?_
  refine g_X7_12 Cx hW (k := 119) (by decide) rfl (v := .ref (G.2.2.1 + 120)) (rf_119_0 hI) dX7_cut_20 ?_
  refine sBv (sV (As := [.ref (G.2.2.1 + 135), .int (iv (S.1 o_1 2)), .int (iv (S.1 119 16)), .ref (G.2.2.1 + 120)]) (rest := []) (k := 157) Cx (s_X5_writeCut l G S (vs := S.1 o_1 2) (so := S.1 119 16) hI (by omega) (by omega)) (c_X7_251 Cx rfl rfl (rmk_ok (by omega) (by decide))) hW (by decide) rfl rfl rfl hl.1 rfl (Nat.le_of_ble_eq_true rfl) dX7_cut_23 ⟨Nat.le_of_ble_eq_true rfl, Nat.le_of_ble_eq_true rfl⟩) hL (fun u_4 H locs k_5 hW hL => ?_)
  obtain ⟨iu_4, fu_4⟩ := k_5
  have F_6 := (Fr.rf : Fr S S pH).trans (fu_4.to (fun k h => pW_H k (pN_W k h)))
  refine lv_aload_n hx hb dX7_cut_26 rfl (lv_at hl 0 rfl) ?_
  have join_42 : ∀ (rm : Int) (H : Heap) (locs : List Loc) (ls : Array Slot), (0 ≤ rm ∧ rm ≤ 1) → sW G 294 u_4 H → sL G locs → lv_has ls 1 [(0, .ref (G.2.2.1 + 119))] → W p l e (rmk 8 0 0) s m args below meth c H locs 0 0 (MQ below (sQv G 294 (fun u => cX G u 0 0 0 ∧ Fr S u pH)) args s 0 0 (sF G)) (F0 m 42 ls [.int (iv rm), .ref (G.2.2.1 + 119)]) := by
    intro rm H locs ls hrm hW hL hl
    refine sBi (sV (As := [.int (iv rm)]) (rest := []) (k := 119) Cx (s_X7_countChild l G u_4 (hro := rm) iu_4 (by omega)) (c_X7_258 Cx rfl rfl (rmk_ok (by omega) (by decide))) hW (by decide) rfl rfl rfl hl.1 rfl (Nat.le_of_ble_eq_true rfl) dX7_cut_42 ⟨Nat.le_of_ble_eq_true rfl, Nat.le_of_ble_eq_true rfl⟩) hL (fun r_9 u_7 H locs k_8 hW hL => ?_)
    obtain ⟨iu_7, fu_7, xu_7⟩ := k_8
    have F_10 := F_6.trans (fu_7.to (p1_sub rfl))
    refine r_if_ne (tgt := 49) hx hb ⟨(by omega), (by omega)⟩ dX7_cut_45 (by decide) (fun c_11 => ?_) (fun c_11 => ?_)
    · refine lv_aload_n hx hb dX7_cut_49 rfl (lv_at hl 0 rfl) ?_
      refine lv_dup hx hb dX7_cut_50 rfl ?_
      have q_12 : (-2147483648) ≤ u_7.1 119 13 ∧ u_7.1 119 13 ≤ 2147483647 := iu_7.fi 119 13 7 (by decide) rfl
      refine g_X7_81 Cx hW (k := 119) (by decide) rfl (v := u_7.1 119 13) rfl dX7_cut_51 ?_
      refine lv_iconst (v := iv 1) hx hb dX7_cut_54 (by decide) ?_
      refine r_iadd hx hb dX7_cut_55 ?_
      obtain ⟨z_13, ez_13, hz_13, kz_13⟩ := iv_of (iv ((u_7.1 119 13) + 1))
      rw [ez_13]
      refine p_X7_81 Cx hW hL (k := 119) (by decide) rfl dX7_cut_56 (fun H locs hW hL => ?_)
      have F_14 : Fr S (uF u_7 119 13 z_13) pH := F_10.F rfl
      have i_15 : cX G (uF u_7 119 13 z_13) 0 0 0 := iu_7.F rfl rfl (show (-2147483648) ≤ z_13 ∧ z_13 ≤ 2147483647 from ⟨by omega, by omega⟩)
      refine lv_aload_n hx hb dX7_cut_59 rfl (lv_at hl 0 rfl) ?_
      refine g_X7_21 Cx hW (k := 119) (by decide) rfl (v := .ref (G.2.2.1 + 135)) (rf_119_1 i_15) dX7_cut_60 ?_
      refine lv_aload_n hx hb dX7_cut_63 rfl (lv_at hl 0 rfl) ?_
      refine g_X7_45 Cx hW (k := 119) (by decide) rfl (v := .ref (G.2.2.1 + 183)) (rf_119_6 i_15) dX7_cut_64 ?_
      refine sBv (sV (As := [.ref (G.2.2.1 + 183)]) (rest := []) (k := 135) Cx (s_X2_denominator l G (uF u_7 119 13 z_13) (v := 183) i_15 rfl) (c_X7_117 Cx rfl rfl (rmk_ok (by omega) (by decide))) hW (by decide) rfl rfl rfl hl.1 rfl (Nat.le_of_ble_eq_true rfl) dX7_cut_67 ⟨Nat.le_of_ble_eq_true rfl, Nat.le_of_ble_eq_true rfl⟩) hL (fun u_16 H locs k_17 hW hL => ?_)
      obtain ⟨iu_16, fu_16, xu_16⟩ := k_17
      have F_18 := F_14.trans (fu_16.to (pB_sub rfl rfl))
      refine lv_aload_n hx hb dX7_cut_70 rfl (lv_at hl 0 rfl) ?_
      refine g_X7_12 Cx hW (k := 119) (by decide) rfl (v := .ref (G.2.2.1 + 120)) (rf_119_0 iu_16) dX7_cut_71 ?_
      refine lv_aload_n hx hb dX7_cut_74 rfl (lv_at hl 0 rfl) ?_
      refine g_X7_45 Cx hW (k := 119) (by decide) rfl (v := .ref (G.2.2.1 + 183)) (rf_119_6 iu_16) dX7_cut_75 ?_
      have q_19 : 0 ≤ u_16.1 183 1 ∧ u_16.1 183 1 ≤ 32 := iu_16.fi 183 1 0 (by decide) rfl
      refine sBi (sV (As := [.ref (G.2.2.1 + 183)]) (rest := []) (k := 120) Cx (s_X6_addCut_120 l G u_16  iu_16 (by omega)) (c_X7_262 Cx rfl rfl (rmk_ok (by omega) (by decide))) hW (by decide) rfl rfl rfl hl.1 rfl (Nat.le_of_ble_eq_true rfl) dX7_cut_78 ⟨Nat.le_of_ble_eq_true rfl, Nat.le_of_ble_eq_true rfl⟩) hL (fun r_22 u_20 H locs k_21 hW hL => ?_)
      obtain ⟨iu_20, fu_20, xu_20⟩ := k_21
      have F_23 := F_18.trans (fu_20.to pW_H)
      refine lv_pop hx hb dX7_cut_81 rfl ?_
      refine lv_aload_n hx hb dX7_cut_82 rfl (lv_at hl 0 rfl) ?_
      refine g_X7_21 Cx hW (k := 119) (by decide) rfl (v := .ref (G.2.2.1 + 135)) (rf_119_1 iu_20) dX7_cut_83 ?_
      refine lv_aload_n hx hb dX7_cut_86 rfl (lv_at hl 0 rfl) ?_
      have q_24 : (-1) ≤ u_7.1 119 16 ∧ u_7.1 119 16 ≤ 40 := iu_7.fi 119 16 7 (by decide) rfl
      refine g_X7_190 Cx hW (k := 119) (by decide) rfl (v := u_7.1 119 16) (((fu_20 119 rfl).1 16).trans (((fu_16 119 rfl).1 16).trans (uF_ne (fun h => absurd h.2 (by decide))))) dX7_cut_87 ?_
      refine sBv (sV (As := [.int (iv (u_7.1 119 16))]) (rest := []) (k := 135) Cx (s_X2_addCut l G u_20 (rr := u_7.1 119 16) iu_20 (by omega)) (c_X7_266 Cx rfl rfl (rmk_ok (by omega) (by decide))) hW (by decide) rfl rfl rfl hl.1 rfl (Nat.le_of_ble_eq_true rfl) dX7_cut_90 ⟨Nat.le_of_ble_eq_true rfl, Nat.le_of_ble_eq_true rfl⟩) hL (fun u_25 H locs k_26 hW hL => ?_)
      obtain ⟨iu_25, fu_25⟩ := k_26
      have F_27 := F_23.trans (fu_25.to pX_H)
      exact sVret Cx hr hlk hW hL ⟨iu_25, F_27⟩ dX7_cut_93
    · exact sVret Cx hr hlk hW hL ⟨iu_7, F_10⟩ dX7_cut_48
  refine lv_aload_n hx hb dX7_cut_27 rfl (lv_at hl 0 rfl) ?_
  refine g_X7_12 Cx hW (k := 119) (by decide) rfl (v := .ref (G.2.2.1 + 120)) (rf_119_0 iu_4) dX7_cut_28 ?_
  have q_28 : 0 ≤ S.1 120 9 ∧ S.1 120 9 ≤ 40 := hI.fi 120 9 6 (by decide) rfl
  have lk_29 : u_4.1 120 9 = S.1 120 9 := (fu_4 120 rfl).1 9
  refine sBi (sV (As := []) (rest := [.ref (G.2.2.1 + 119)]) (k := 120) Cx (s_X6_isFull_120 l G u_4  iu_4) (c_X7_255 Cx rfl rfl (rmk_ok (by omega) (by decide))) hW (by decide) rfl rfl rfl hl.1 rfl (Nat.le_of_ble_eq_true rfl) dX7_cut_31 ⟨Nat.le_of_ble_eq_true rfl, Nat.le_of_ble_eq_true rfl⟩) hL (fun r_32 u_30 H locs k_31 hW hL => ?_)
  obtain ⟨eu_30, xu_30⟩ := k_31
  rw [eu_30] at hW
  refine r_if_ne (tgt := 41) hx hb ⟨(by omega), (by omega)⟩ dX7_cut_34 (by decide) (fun c_33 => ?_) (fun c_33 => ?_)
  · refine lv_iconst (v := iv 0) hx hb dX7_cut_41 (by decide) ?_
    exact join_42 0 _ _ _ (by omega) hW hL (lv_sub hl [0] rfl)
  · refine lv_iconst (v := iv 1) hx hb dX7_cut_37 (by decide) ?_
    refine lv_goto (tgt := 42) hx hb dX7_cut_38 (by decide) ?_
    exact join_42 1 _ _ _ (by omega) hW hL (lv_sub hl [0] rfl)

set_option maxRecDepth 100000 in
set_option maxHeartbeats 4000000 in
theorem s_X7_branch (l : Launch) (G : sG) (S : sS)  (hI : cX G S 0 0 0) : Met l yX7_branch (.code yX7_branch cX7_branch 2 none :: tb) (rmk 7 0 0) (sPc G 294 S [.ref (G.2.2.1 + 119)]) (sQv G 294 (fun u => cX G u 0 0 0 ∧ Fr S u pH)) 0 0 (sF G) := by
  refine sEnter (by decide) (Nat.le_of_ble_eq_true rfl) ?_
  intro p e s m args below meth c Cx hr hlk hnm hW ls hl
  have Cx : sC G p m c cX7_branch 2 s args RX7 := Cx
  obtain ⟨hx, hb, hml, hown, hts⟩ := id Cx.1
  have hL : sL G [] := sL_nil
  have hl : lv_has ls 2 [(0, .ref (G.2.2.1 + 119))] := hl
  have hW0 := hW
  refine lv_aload_n hx hb dX7_branch_0 rfl (lv_at hl 0 rfl) ?_
  refine g_X7_21 Cx hW (k := 119) (by decide) rfl (v := .ref (G.2.2.1 + 135)) (rf_119_1 hI) dX7_branch_1 ?_
  refine lv_aload_n hx hb dX7_branch_4 rfl (lv_at hl 0 rfl) ?_
  have q_1 : (-1) ≤ S.1 119 16 ∧ S.1 119 16 ≤ 40 := hI.fi 119 16 7 (by decide) rfl
  refine g_X7_190 Cx hW (k := 119) (by decide) rfl (v := S.1 119 16) rfl dX7_branch_5 ?_
  refine sBi (sV (As := [.int (iv (S.1 119 16))]) (rest := []) (k := 135) Cx (s_X2_numberAt l G S (i := S.1 119 16) hI (by omega)) (c_X7_269 Cx rfl rfl (rmk_ok (by omega) (by decide))) hW (by decide) rfl rfl rfl hl.1 rfl (Nat.le_of_ble_eq_true rfl) dX7_branch_8 ⟨Nat.le_of_ble_eq_true rfl, Nat.le_of_ble_eq_true rfl⟩) hL (fun r_4 u_2 H locs k_3 hW hL => ?_)
  obtain ⟨eu_2, xu_2⟩ := k_3
  rw [eu_2] at hW
  refine lv_istore_n (lv' := [(1, .int (iv r_4)), (0, .ref (G.2.2.1 + 119))]) hx hb dX7_branch_11 rfl hl (by decide) rfl (fun ls hl => ?_)
  refine lv_aload_n hx hb dX7_branch_12 rfl (lv_at hl 1 rfl) ?_
  refine g_X7_21 Cx hW (k := 119) (by decide) rfl (v := .ref (G.2.2.1 + 135)) (rf_119_1 hI) dX7_branch_13 ?_
  refine lv_aload_n hx hb dX7_branch_16 rfl (lv_at hl 1 rfl) ?_
  refine g_X7_190 Cx hW (k := 119) (by decide) rfl (v := S.1 119 16) rfl dX7_branch_17 ?_
  refine lv_aload_n hx hb dX7_branch_20 rfl (lv_at hl 1 rfl) ?_
  refine g_X7_42 Cx hW (k := 119) (by decide) rfl (v := .ref (G.2.2.1 + 181)) (rf_119_5 hI) dX7_branch_21 ?_
  refine sBv (sV (As := [.int (iv (S.1 119 16)), .ref (G.2.2.1 + 181)]) (rest := []) (k := 135) Cx (s_X2_floor l G S (i := S.1 119 16) hI (by omega)) (c_X7_226 Cx rfl rfl (rmk_ok (by omega) (by decide))) hW (by decide) rfl rfl rfl hl.1 rfl (Nat.le_of_ble_eq_true rfl) dX7_branch_24 ⟨Nat.le_of_ble_eq_true rfl, Nat.le_of_ble_eq_true rfl⟩) hL (fun u_5 H locs k_6 hW hL => ?_)
  obtain ⟨iu_5, fu_5, xu_5⟩ := k_6
  have F_7 := (Fr.rf : Fr S S pH).trans (fu_5.to (fun k h => pW_H k (pN_W k h)))
  refine lv_aload_n hx hb dX7_branch_27 rfl (lv_at hl 1 rfl) ?_
  refine g_X7_28 Cx hW (k := 119) (by decide) rfl (v := .ref (G.2.2.1 + 157)) (rf_119_2 iu_5) dX7_branch_28 ?_
  refine lv_iload_n hx hb dX7_branch_31 rfl (lv_at hl 0 rfl) ?_
  refine lv_aload_n hx hb dX7_branch_32 rfl (lv_at hl 1 rfl) ?_
  refine g_X7_42 Cx hW (k := 119) (by decide) rfl (v := .ref (G.2.2.1 + 181)) (rf_119_5 iu_5) dX7_branch_33 ?_
  refine sBv (sV (As := [.int (iv r_4), .ref (G.2.2.1 + 181)]) (rest := []) (k := 157) Cx (s_X5_writeBranch l G u_5 (k := r_4) (v := 181) iu_5 rfl (by omega)) (c_X7_272 Cx rfl rfl (rmk_ok (by omega) (by decide))) hW (by decide) rfl rfl rfl hl.1 rfl (Nat.le_of_ble_eq_true rfl) dX7_branch_36 ⟨Nat.le_of_ble_eq_true rfl, Nat.le_of_ble_eq_true rfl⟩) hL (fun u_8 H locs k_9 hW hL => ?_)
  obtain ⟨iu_8, fu_8⟩ := k_9
  have F_10 := F_7.trans (fu_8.to (pB_sub rfl rfl))
  refine lv_aload_n hx hb dX7_branch_39 rfl (lv_at hl 1 rfl) ?_
  have join_55 : ∀ (rm : Int) (H : Heap) (locs : List Loc) (ls : Array Slot), (0 ≤ rm ∧ rm ≤ 1) → sW G 294 u_8 H → sL G locs → lv_has ls 2 [(1, .int (iv r_4)), (0, .ref (G.2.2.1 + 119))] → W p l e (rmk 7 0 0) s m args below meth c H locs 0 0 (MQ below (sQv G 294 (fun u => cX G u 0 0 0 ∧ Fr S u pH)) args s 0 0 (sF G)) (F0 m 55 ls [.int (iv rm), .ref (G.2.2.1 + 119)]) := by
    intro rm H locs ls hrm hW hL hl
    refine sBi (sV (As := [.int (iv rm)]) (rest := []) (k := 119) Cx (s_X7_countChild l G u_8 (hro := rm) iu_8 (by omega)) (c_X7_258 Cx rfl rfl (rmk_ok (by omega) (by decide))) hW (by decide) rfl rfl rfl hl.1 rfl (Nat.le_of_ble_eq_true rfl) dX7_branch_55 ⟨Nat.le_of_ble_eq_true rfl, Nat.le_of_ble_eq_true rfl⟩) hL (fun r_13 u_11 H locs k_12 hW hL => ?_)
    obtain ⟨iu_11, fu_11, xu_11⟩ := k_12
    have F_14 := F_10.trans (fu_11.to (p1_sub rfl))
    refine r_if_ne (tgt := 62) hx hb ⟨(by omega), (by omega)⟩ dX7_branch_58 (by decide) (fun c_15 => ?_) (fun c_15 => ?_)
    · refine lv_aload_n hx hb dX7_branch_62 rfl (lv_at hl 1 rfl) ?_
      refine g_X7_21 Cx hW (k := 119) (by decide) rfl (v := .ref (G.2.2.1 + 135)) (rf_119_1 iu_11) dX7_branch_63 ?_
      refine lv_aload_n hx hb dX7_branch_66 rfl (lv_at hl 1 rfl) ?_
      have q_16 : (-1) ≤ u_11.1 119 16 ∧ u_11.1 119 16 ≤ 40 := iu_11.fi 119 16 7 (by decide) rfl
      refine g_X7_190 Cx hW (k := 119) (by decide) rfl (v := u_11.1 119 16) rfl dX7_branch_67 ?_
      refine sBv (sV (As := [.int (iv (u_11.1 119 16))]) (rest := []) (k := 135) Cx (s_X2_keep l G u_11 (q := u_11.1 119 16) iu_11 (by omega)) (c_X7_275 Cx rfl rfl (rmk_ok (by omega) (by decide))) hW (by decide) rfl rfl rfl hl.1 rfl (Nat.le_of_ble_eq_true rfl) dX7_branch_70 ⟨Nat.le_of_ble_eq_true rfl, Nat.le_of_ble_eq_true rfl⟩) hL (fun u_17 H locs k_18 hW hL => ?_)
      obtain ⟨iu_17, fu_17⟩ := k_18
      have F_19 := F_14.trans (fu_17.to (fun k h => pX_H k (pJ_X k h)))
      refine lv_aload_n hx hb dX7_branch_73 rfl (lv_at hl 1 rfl) ?_
      refine g_X7_12 Cx hW (k := 119) (by decide) rfl (v := .ref (G.2.2.1 + 120)) (rf_119_0 iu_17) dX7_branch_74 ?_
      refine lv_iload_n hx hb dX7_branch_77 rfl (lv_at hl 0 rfl) ?_
      refine lv_aload_n hx hb dX7_branch_78 rfl (lv_at hl 1 rfl) ?_
      refine g_X7_42 Cx hW (k := 119) (by decide) rfl (v := .ref (G.2.2.1 + 181)) (rf_119_5 iu_17) dX7_branch_79 ?_
      refine lv_iconst (v := iv 0) hx hb dX7_branch_82 (by decide) ?_
      have q_20 : 0 ≤ u_5.1 181 1 ∧ u_5.1 181 1 ≤ 32 := iu_5.fi 181 1 0 (by decide) rfl
      have lk_21 : u_17.1 181 1 = u_5.1 181 1 := ((fu_17 181 rfl).1 1).trans (((fu_11 181 rfl).1 1).trans ((fu_8 181 rfl).1 1))
      refine sBv (sV (As := [.int (iv r_4), .ref (G.2.2.1 + 181), .int (iv 0)]) (rest := []) (k := 120) Cx (s_X6_addLimit_120 l G u_17 (z := r_4) (ab := 0) iu_17 (by omega) (by omega) (by omega) (fun q => by have e : u_17.2.1 182 6 = u_5.2.1 182 6 := ((fu_17 182 rfl).2.1 6).trans (((fu_11 182 rfl).2.1 6).trans ((fu_8 182 rfl).2.1 6)); have e2 := xu_5.2 (by omega); rw [e]; omega)) (c_X7_278 Cx rfl rfl (rmk_ok (by omega) (by decide))) hW (by decide) rfl rfl rfl hl.1 rfl (Nat.le_of_ble_eq_true rfl) dX7_branch_83 ⟨Nat.le_of_ble_eq_true rfl, Nat.le_of_ble_eq_true rfl⟩) hL (fun u_22 H locs k_23 hW hL => ?_)
      obtain ⟨iu_22, fu_22⟩ := k_23
      have F_24 := F_19.trans (fu_22.to pW_H)
      refine lv_aload_n hx hb dX7_branch_86 rfl (lv_at hl 1 rfl) ?_
      refine g_X7_21 Cx hW (k := 119) (by decide) rfl (v := .ref (G.2.2.1 + 135)) (rf_119_1 iu_22) dX7_branch_87 ?_
      refine lv_aload_n hx hb dX7_branch_90 rfl (lv_at hl 1 rfl) ?_
      refine g_X7_190 Cx hW (k := 119) (by decide) rfl (v := u_11.1 119 16) (((fu_22 119 rfl).1 16).trans ((fu_17 119 rfl).1 16)) dX7_branch_91 ?_
      refine lv_iconst (v := iv 0) hx hb dX7_branch_94 (by decide) ?_
      refine sBv (sV (As := [.int (iv (u_11.1 119 16)), .int (iv 0)]) (rest := []) (k := 135) Cx (s_X2_addLimit l G u_22 (rr := u_11.1 119 16) (ab := 0) iu_22 (by omega) (by omega)) (c_X7_282 Cx rfl rfl (rmk_ok (by omega) (by decide))) hW (by decide) rfl rfl rfl hl.1 rfl (Nat.le_of_ble_eq_true rfl) dX7_branch_95 ⟨Nat.le_of_ble_eq_true rfl, Nat.le_of_ble_eq_true rfl⟩) hL (fun u_25 H locs k_26 hW hL => ?_)
      obtain ⟨iu_25, fu_25⟩ := k_26
      have F_27 := F_24.trans (fu_25.to pX_H)
      exact sVret Cx hr hlk hW hL ⟨iu_25, F_27⟩ dX7_branch_98
    · exact sVret Cx hr hlk hW hL ⟨iu_11, F_14⟩ dX7_branch_61
  refine lv_aload_n hx hb dX7_branch_40 rfl (lv_at hl 1 rfl) ?_
  refine g_X7_12 Cx hW (k := 119) (by decide) rfl (v := .ref (G.2.2.1 + 120)) (rf_119_0 iu_8) dX7_branch_41 ?_
  have q_28 : 0 ≤ S.1 120 9 ∧ S.1 120 9 ≤ 40 := hI.fi 120 9 6 (by decide) rfl
  have lk_29 : u_8.1 120 9 = S.1 120 9 := ((fu_8 120 rfl).1 9).trans ((fu_5 120 rfl).1 9)
  refine sBi (sV (As := []) (rest := [.ref (G.2.2.1 + 119)]) (k := 120) Cx (s_X6_isFull_120 l G u_8  iu_8) (c_X7_255 Cx rfl rfl (rmk_ok (by omega) (by decide))) hW (by decide) rfl rfl rfl hl.1 rfl (Nat.le_of_ble_eq_true rfl) dX7_branch_44 ⟨Nat.le_of_ble_eq_true rfl, Nat.le_of_ble_eq_true rfl⟩) hL (fun r_32 u_30 H locs k_31 hW hL => ?_)
  obtain ⟨eu_30, xu_30⟩ := k_31
  rw [eu_30] at hW
  refine r_if_ne (tgt := 54) hx hb ⟨(by omega), (by omega)⟩ dX7_branch_47 (by decide) (fun c_33 => ?_) (fun c_33 => ?_)
  · refine lv_iconst (v := iv 0) hx hb dX7_branch_54 (by decide) ?_
    exact join_55 0 _ _ _ (by omega) hW hL (lv_sub hl [0, 1] rfl)
  · refine lv_iconst (v := iv 1) hx hb dX7_branch_50 (by decide) ?_
    refine lv_goto (tgt := 55) hx hb dX7_branch_51 (by decide) ?_
    exact join_55 1 _ _ _ (by omega) hW hL (lv_sub hl [0, 1] rfl)

set_option maxRecDepth 100000 in
set_option maxHeartbeats 4000000 in
theorem s_X7_beginSecondChild (l : Launch) (G : sG) (S : sS)  (hI : cX G S 0 0 0) : Met l yX7_beginSecondChild (.code yX7_beginSecondChild cX7_beginSecondChild 1 none :: tb) (rmk 7 0 0) (sPc G 294 S [.ref (G.2.2.1 + 119)]) (sQv G 294 (fun u => cX G u 0 0 0 ∧ Fr S u pH)) 0 0 (sF G) := by
  refine sEnter (by decide) (Nat.le_of_ble_eq_true rfl) ?_
  intro p e s m args below meth c Cx hr hlk hnm hW ls hl
  have Cx : sC G p m c cX7_beginSecondChild 1 s args RX7 := Cx
  obtain ⟨hx, hb, hml, hown, hts⟩ := id Cx.1
  have hL : sL G [] := sL_nil
  have hl : lv_has ls 1 [(0, .ref (G.2.2.1 + 119))] := hl
  have hW0 := hW
  refine lv_aload_n hx hb dX7_beginSecondChild_0 rfl (lv_at hl 0 rfl) ?_
  refine lv_iconst (v := iv 1) hx hb dX7_beginSecondChild_1 (by decide) ?_
  refine sBi (sV (As := [.int (iv 1)]) (rest := []) (k := 119) Cx (s_X7_countChild l G S (hro := 1) hI (by omega)) (c_X7_258 Cx rfl rfl (rmk_ok (by omega) (by decide))) hW (by decide) rfl rfl rfl hl.1 rfl (Nat.le_of_ble_eq_true rfl) dX7_beginSecondChild_2 ⟨Nat.le_of_ble_eq_true rfl, Nat.le_of_ble_eq_true rfl⟩) hL (fun r_3 u_1 H locs k_2 hW hL => ?_)
  obtain ⟨iu_1, fu_1, xu_1⟩ := k_2
  have F_4 := (Fr.rf : Fr S S pH).trans (fu_1.to (p1_sub rfl))
  refine r_if_ne (tgt := 9) hx hb ⟨(by omega), (by omega)⟩ dX7_beginSecondChild_5 (by decide) (fun c_5 => ?_) (fun c_5 => ?_)
  · refine lv_aload_n hx hb dX7_beginSecondChild_9 rfl (lv_at hl 0 rfl) ?_
    refine lv_aload_n hx hb dX7_beginSecondChild_10 rfl (lv_at hl 0 rfl) ?_
    refine g_X7_21 Cx hW (k := 119) (by decide) rfl (v := .ref (G.2.2.1 + 135)) (rf_119_1 iu_1) dX7_beginSecondChild_11 ?_
    refine sBi (sV (As := []) (rest := [.ref (G.2.2.1 + 119)]) (k := 135) Cx (s_X2_restore l G u_1  iu_1) (c_X7_285 Cx rfl rfl (rmk_ok (by omega) (by decide))) hW (by decide) rfl rfl rfl hl.1 rfl (Nat.le_of_ble_eq_true rfl) dX7_beginSecondChild_14 ⟨Nat.le_of_ble_eq_true rfl, Nat.le_of_ble_eq_true rfl⟩) hL (fun r_8 u_6 H locs k_7 hW hL => ?_)
    obtain ⟨iu_6, fu_6, xu_6⟩ := k_7
    have F_9 := F_4.trans (fu_6.to pX_H)
    refine p_X7_190 Cx hW hL (k := 119) (by decide) rfl dX7_beginSecondChild_17 (fun H locs hW hL => ?_)
    have F_10 : Fr S (uF u_6 119 16 r_8) pH := F_9.F rfl
    have i_11 : cX G (uF u_6 119 16 r_8) 0 0 0 := iu_6.F rfl rfl (show (-1) ≤ r_8 ∧ r_8 ≤ 40 from ⟨by omega, by omega⟩)
    refine lv_aload_n hx hb dX7_beginSecondChild_20 rfl (lv_at hl 0 rfl) ?_
    refine g_X7_12 Cx hW (k := 119) (by decide) rfl (v := .ref (G.2.2.1 + 120)) (rf_119_0 i_11) dX7_beginSecondChild_21 ?_
    refine lv_aload_n hx hb dX7_beginSecondChild_24 rfl (lv_at hl 0 rfl) ?_
    refine g_X7_21 Cx hW (k := 119) (by decide) rfl (v := .ref (G.2.2.1 + 135)) (rf_119_1 i_11) dX7_beginSecondChild_25 ?_
    have q_12 : 0 ≤ u_6.1 135 14 ∧ u_6.1 135 14 ≤ 40 := iu_6.fi 135 14 2 (by decide) rfl
    have lk_13 : (uF u_6 119 16 r_8).1 135 14 = u_6.1 135 14 := uF_ne (fun h => absurd h.2 (by decide))
    refine sBi (sV (As := []) (rest := [.ref (G.2.2.1 + 120)]) (k := 135) Cx (s_X2_rowCount l G (uF u_6 119 16 r_8)  i_11) (c_X7_288 Cx rfl rfl (rmk_ok (by omega) (by decide))) hW (by decide) rfl rfl rfl hl.1 rfl (Nat.le_of_ble_eq_true rfl) dX7_beginSecondChild_28 ⟨Nat.le_of_ble_eq_true rfl, Nat.le_of_ble_eq_true rfl⟩) hL (fun r_16 u_14 H locs k_15 hW hL => ?_)
    obtain ⟨eu_14, xu_14⟩ := k_15
    rw [eu_14] at hW
    refine sBv (sV (As := [.int (iv r_16)]) (rest := []) (k := 120) Cx (s_X6_keep_120 l G (uF u_6 119 16 r_8) (k := r_16) i_11 (by omega)) (c_X7_291 Cx rfl rfl (rmk_ok (by omega) (by decide))) hW (by decide) rfl rfl rfl hl.1 rfl (Nat.le_of_ble_eq_true rfl) dX7_beginSecondChild_31 ⟨Nat.le_of_ble_eq_true rfl, Nat.le_of_ble_eq_true rfl⟩) hL (fun u_17 H locs k_18 hW hL => ?_)
    obtain ⟨iu_17, fu_17⟩ := k_18
    have F_19 := F_10.trans (fu_17.to pW_H)
    refine lv_aload_n hx hb dX7_beginSecondChild_34 rfl (lv_at hl 0 rfl) ?_
    refine g_X7_21 Cx hW (k := 119) (by decide) rfl (v := .ref (G.2.2.1 + 135)) (rf_119_1 iu_17) dX7_beginSecondChild_35 ?_
    refine lv_aload_n hx hb dX7_beginSecondChild_38 rfl (lv_at hl 0 rfl) ?_
    refine g_X7_190 Cx hW (k := 119) (by decide) rfl (v := r_8) (((fu_17 119 rfl).1 16).trans (uF_on)) dX7_beginSecondChild_39 ?_
    refine lv_aload_n hx hb dX7_beginSecondChild_42 rfl (lv_at hl 0 rfl) ?_
    refine g_X7_42 Cx hW (k := 119) (by decide) rfl (v := .ref (G.2.2.1 + 181)) (rf_119_5 iu_17) dX7_beginSecondChild_43 ?_
    refine sBv (sV (As := [.int (iv r_8), .ref (G.2.2.1 + 181)]) (rest := []) (k := 135) Cx (s_X2_floor l G u_17 (i := r_8) iu_17 (by omega)) (c_X7_226 Cx rfl rfl (rmk_ok (by omega) (by decide))) hW (by decide) rfl rfl rfl hl.1 rfl (Nat.le_of_ble_eq_true rfl) dX7_beginSecondChild_46 ⟨Nat.le_of_ble_eq_true rfl, Nat.le_of_ble_eq_true rfl⟩) hL (fun u_20 H locs k_21 hW hL => ?_)
    obtain ⟨iu_20, fu_20, xu_20⟩ := k_21
    have F_22 := F_19.trans (fu_20.to (fun k h => pW_H k (pN_W k h)))
    refine lv_aload_n hx hb dX7_beginSecondChild_49 rfl (lv_at hl 0 rfl) ?_
    refine g_X7_12 Cx hW (k := 119) (by decide) rfl (v := .ref (G.2.2.1 + 120)) (rf_119_0 iu_20) dX7_beginSecondChild_50 ?_
    refine lv_aload_n hx hb dX7_beginSecondChild_53 rfl (lv_at hl 0 rfl) ?_
    refine g_X7_21 Cx hW (k := 119) (by decide) rfl (v := .ref (G.2.2.1 + 135)) (rf_119_1 iu_20) dX7_beginSecondChild_54 ?_
    refine lv_aload_n hx hb dX7_beginSecondChild_57 rfl (lv_at hl 0 rfl) ?_
    refine g_X7_190 Cx hW (k := 119) (by decide) rfl (v := r_8) (((fu_20 119 rfl).1 16).trans (((fu_17 119 rfl).1 16).trans (uF_on))) dX7_beginSecondChild_58 ?_
    refine sBi (sV (As := [.int (iv r_8)]) (rest := [.ref (G.2.2.1 + 120)]) (k := 135) Cx (s_X2_numberAt l G u_20 (i := r_8) iu_20 (by omega)) (c_X7_269 Cx rfl rfl (rmk_ok (by omega) (by decide))) hW (by decide) rfl rfl rfl hl.1 rfl (Nat.le_of_ble_eq_true rfl) dX7_beginSecondChild_61 ⟨Nat.le_of_ble_eq_true rfl, Nat.le_of_ble_eq_true rfl⟩) hL (fun r_25 u_23 H locs k_24 hW hL => ?_)
    obtain ⟨eu_23, xu_23⟩ := k_24
    rw [eu_23] at hW
    refine lv_aload_n hx hb dX7_beginSecondChild_64 rfl (lv_at hl 0 rfl) ?_
    refine g_X7_42 Cx hW (k := 119) (by decide) rfl (v := .ref (G.2.2.1 + 181)) (rf_119_5 iu_20) dX7_beginSecondChild_65 ?_
    refine lv_iconst (v := iv 1) hx hb dX7_beginSecondChild_68 (by decide) ?_
    have q_26 : 0 ≤ u_20.1 181 1 ∧ u_20.1 181 1 ≤ 32 := iu_20.fi 181 1 0 (by decide) rfl
    refine sBv (sV (As := [.int (iv r_25), .ref (G.2.2.1 + 181), .int (iv 1)]) (rest := []) (k := 120) Cx (s_X6_addLimit_120 l G u_20 (z := r_25) (ab := 1) iu_20 (by omega) (by omega) (by omega) (fun q => by have e : u_20.2.1 182 6 = u_20.2.1 182 6 := rfl; have e2 := xu_20.2 (by omega); rw [e]; omega)) (c_X7_278 Cx rfl rfl (rmk_ok (by omega) (by decide))) hW (by decide) rfl rfl rfl hl.1 rfl (Nat.le_of_ble_eq_true rfl) dX7_beginSecondChild_69 ⟨Nat.le_of_ble_eq_true rfl, Nat.le_of_ble_eq_true rfl⟩) hL (fun u_27 H locs k_28 hW hL => ?_)
    obtain ⟨iu_27, fu_27⟩ := k_28
    have F_29 := F_22.trans (fu_27.to pW_H)
    refine lv_aload_n hx hb dX7_beginSecondChild_72 rfl (lv_at hl 0 rfl) ?_
    refine g_X7_21 Cx hW (k := 119) (by decide) rfl (v := .ref (G.2.2.1 + 135)) (rf_119_1 iu_27) dX7_beginSecondChild_73 ?_
    refine lv_aload_n hx hb dX7_beginSecondChild_76 rfl (lv_at hl 0 rfl) ?_
    refine g_X7_190 Cx hW (k := 119) (by decide) rfl (v := r_8) (((fu_27 119 rfl).1 16).trans (((fu_20 119 rfl).1 16).trans (((fu_17 119 rfl).1 16).trans (uF_on)))) dX7_beginSecondChild_77 ?_
    refine lv_iconst (v := iv 1) hx hb dX7_beginSecondChild_80 (by decide) ?_
    refine sBv (sV (As := [.int (iv r_8), .int (iv 1)]) (rest := []) (k := 135) Cx (s_X2_addLimit l G u_27 (rr := r_8) (ab := 1) iu_27 (by omega) (by omega)) (c_X7_282 Cx rfl rfl (rmk_ok (by omega) (by decide))) hW (by decide) rfl rfl rfl hl.1 rfl (Nat.le_of_ble_eq_true rfl) dX7_beginSecondChild_81 ⟨Nat.le_of_ble_eq_true rfl, Nat.le_of_ble_eq_true rfl⟩) hL (fun u_30 H locs k_31 hW hL => ?_)
    obtain ⟨iu_30, fu_30⟩ := k_31
    have F_32 := F_29.trans (fu_30.to pX_H)
    exact sVret Cx hr hlk hW hL ⟨iu_30, F_32⟩ dX7_beginSecondChild_84
  · exact sVret Cx hr hlk hW hL ⟨iu_1, F_4⟩ dX7_beginSecondChild_8

set_option maxRecDepth 100000 in
set_option maxHeartbeats 4000000 in
theorem s_X7_run (l : Launch) (G : sG) (S : sS) {mo : Int} (hI : cX G S 0 0 0) (hmo : -2147483648 ≤ mo ∧ mo ≤ 2147483647) : Met l yX7_run (.code yX7_run cX7_run 4 (some .int) :: tb) (rmk 9 0 0) (sPc G 294 S [.ref (G.2.2.1 + 119), .int (iv mo)]) (sQi G 294 (fun r u => cX G u 0 0 0 ∧ Fr S u pH ∧ (0 ≤ r ∧ r ≤ 1000000))) 0 0 (sF G) := by
  refine sEnter (by decide) (Nat.le_of_ble_eq_true rfl) ?_
  intro p e s m args below meth c Cx hr hlk hnm hW ls hl
  have Cx : sC G p m c cX7_run 4 s args RX7 := Cx
  obtain ⟨hx, hb, hml, hown, hts⟩ := id Cx.1
  have hL : sL G [] := sL_nil
  have hl : lv_has ls 4 [(0, .ref (G.2.2.1 + 119)), (1, .int (iv mo))] := hl
  have hW0 := hW
  refine lv_iconst (v := iv 0) hx hb dX7_run_0 (by decide) ?_
  refine lv_istore_n (lv' := [(2, .int (iv 0)), (0, .ref (G.2.2.1 + 119)), (1, .int (iv mo))]) hx hb dX7_run_1 rfl hl (by decide) rfl (fun ls hl => ?_)
  refine lv_iconst (v := iv 0) hx hb dX7_run_2 (by decide) ?_
  refine lv_istore_n (lv' := [(3, .int (iv 0)), (2, .int (iv 0)), (0, .ref (G.2.2.1 + 119)), (1, .int (iv mo))]) hx hb dX7_run_3 rfl hl (by decide) rfl (fun ls hl => ?_)
  have loop_4 : ∀ (fuel : Nat) (S4 : sS) (i : Int) (dn : Int) (H : Heap) (locs : List Loc) (ls : Array Slot), (1000000 - i).toNat < fuel → (cX G S4 0 0 0) → (Fr S S4 pH) → (Fr S S4 pH) → (0 ≤ i ∧ i ≤ 1000000) → (0 ≤ dn ∧ dn ≤ i) → sW G 294 S4 H → sL G locs → lv_has ls 4 [(3, .int (iv i)), (2, .int (iv dn)), (0, .ref (G.2.2.1 + 119)), (1, .int (iv mo))] → W p l e (rmk 9 0 0) s m args below meth c H locs 0 0 (MQ below (sQi G 294 (fun r u => cX G u 0 0 0 ∧ Fr S u pH ∧ (0 ≤ r ∧ r ≤ 1000000))) args s 0 0 (sF G)) (F0 m 4 ls []) := by
    intro fuel
    induction fuel with
    | zero => intro S4 i dn H locs ls hmeas hI4 hFm4 hL4_ hi hdn hW hL hl; exact absurd hmeas (Nat.not_lt_zero _)
    | succ fuel ih_4 =>
      intro S4 i dn H locs ls hmeas hI4 hFm4 hL4_ hi hdn hW hL hl
      refine lv_iload_n hx hb dX7_run_4 rfl (lv_at hl 0 rfl) ?_
      refine lv_ldc hx hb hown (hts _ w_1229) dX7_run_5 ?_
      refine r_icmp_ge (tgt := 151) hx hb ⟨(by omega), (by omega)⟩ ⟨(by omega), (by omega)⟩ dX7_run_7 (by decide) (fun c_1 => ?_) (fun c_1 => ?_)
      · refine lv_iload_n hx hb dX7_run_151 rfl (lv_at hl 1 rfl) ?_
        exact sIret Cx hr hlk hW hL ⟨hI4, hFm4, (by omega)⟩ dX7_run_152
      · refine lv_aload_n hx hb dX7_run_10 rfl (lv_at hl 2 rfl) ?_
        have q_2 : 0 ≤ S4.1 119 9 ∧ S4.1 119 9 ≤ 6 := hI4.fi 119 9 7 (by decide) rfl
        refine g_X7_69 Cx hW (k := 119) (by decide) rfl (v := S4.1 119 9) rfl dX7_run_11 ?_
        refine lv_iconst (v := iv 1) hx hb dX7_run_14 (by decide) ?_
        refine r_icmp_ne (tgt := 151) hx hb ⟨(by omega), (by omega)⟩ ⟨(by omega), (by omega)⟩ dX7_run_15 (by decide) (fun c_3 => ?_) (fun c_3 => ?_)
        · refine lv_iload_n hx hb dX7_run_151 rfl (lv_at hl 1 rfl) ?_
          exact sIret Cx hr hlk hW hL ⟨hI4, hFm4, (by omega)⟩ dX7_run_152
        · refine lv_aload_n hx hb dX7_run_18 rfl (lv_at hl 2 rfl) ?_
          have q_4 : 0 ≤ S4.1 119 15 ∧ S4.1 119 15 ≤ 6 := hI4.fi 119 15 7 (by decide) rfl
          refine g_X7_91 Cx hW (k := 119) (by decide) rfl (v := S4.1 119 15) rfl dX7_run_19 ?_
          by_cases c_5 : S4.1 119 15 = 1
          · refine lv_tableIn (off := 38) (tgt := 60) hx hb dX7_run_22 (by rw [c_5]; decide) (by rw [c_5]; decide) (by rw [c_5]; decide) (by decide) ?_
            refine lv_iload_n hx hb dX7_run_60 rfl (lv_at hl 1 rfl) ?_
            refine lv_iload_n hx hb dX7_run_61 rfl (lv_at hl 3 rfl) ?_
            refine r_icmp_lt (tgt := 67) hx hb ⟨(by omega), (by omega)⟩ ⟨(by omega), (by omega)⟩ dX7_run_62 (by decide) (fun c_6 => ?_) (fun c_6 => ?_)
            · refine lv_aload_n hx hb dX7_run_67 rfl (lv_at hl 2 rfl) ?_
              refine g_X7_21 Cx hW (k := 119) (by decide) rfl (v := .ref (G.2.2.1 + 135)) (rf_119_1 hI4) dX7_run_68 ?_
              refine sBi (sV (As := []) (rest := []) (k := 135) Cx (s_X2_pivot l G S4  hI4) (c_X7_137 Cx rfl rfl (rmk_ok (by omega) (by decide))) hW (by decide) rfl rfl rfl hl.1 rfl (Nat.le_of_ble_eq_true rfl) dX7_run_71 ⟨Nat.le_of_ble_eq_true rfl, Nat.le_of_ble_eq_true rfl⟩) hL (fun r_9 u_7 H locs k_8 hW hL => ?_)
              obtain ⟨iu_7, fu_7, xu_7⟩ := k_8
              have F_10 := hFm4.trans (fu_7.to pX_H)
              have F_11 := hL4_.trans (fu_7.to pX_H)
              refine r_if_eq (tgt := 98) hx hb ⟨(by omega), (by omega)⟩ dX7_run_74 (by decide) (fun c_12 => ?_) (fun c_12 => ?_)
              · refine lv_aload_n hx hb dX7_run_98 rfl (lv_at hl 2 rfl) ?_
                refine lv_iconst (v := iv 5) hx hb dX7_run_99 (by decide) ?_
                refine p_X7_69 Cx hW hL (k := 119) (by decide) rfl dX7_run_100 (fun H locs hW hL => ?_)
                have F_13 : Fr S (uF u_7 119 9 5) pH := F_10.F rfl
                have F_14 : Fr S (uF u_7 119 9 5) pH := F_11.F rfl
                have i_15 : cX G (uF u_7 119 9 5) 0 0 0 := iu_7.status ⟨by omega, by omega⟩ (by omega)
                refine lv_goto (tgt := 145) hx hb dX7_run_103 (by decide) ?_
                refine lv_iinc (v := iv (i + 1)) (lv' := [(3, .int (iv (i + 1))), (2, .int (iv dn)), (0, .ref (G.2.2.1 + 119)), (1, .int (iv mo))]) hx hb dX7_run_145 hl (k := 0) rfl ((Int32.ofInt_add _ _).symm) (by decide) rfl (fun ls hl => ?_)
                refine lv_goto (tgt := 4) hx hb dX7_run_148 (by decide) ?_
                exact ih_4 (uF u_7 119 9 5) (i + 1) dn _ _ _ (by omega) i_15 F_13 F_14 (by omega) (by omega) hW hL (lv_sub hl [0, 1, 2, 3] rfl)
              · refine lv_iinc (v := iv (dn + 1)) (lv' := [(2, .int (iv (dn + 1))), (3, .int (iv i)), (0, .ref (G.2.2.1 + 119)), (1, .int (iv mo))]) hx hb dX7_run_77 hl (k := 1) rfl ((Int32.ofInt_add _ _).symm) (by decide) rfl (fun ls hl => ?_)
                refine lv_aload_n hx hb dX7_run_80 rfl (lv_at hl 2 rfl) ?_
                refine lv_dup hx hb dX7_run_81 rfl ?_
                have q_16 : (-2147483648) ≤ S4.1 119 10 ∧ S4.1 119 10 ≤ 2147483647 := hI4.fi 119 10 7 (by decide) rfl
                refine g_X7_72 Cx hW (k := 119) (by decide) rfl (v := S4.1 119 10) ((fu_7 119 rfl).1 10) dX7_run_82 ?_
                refine lv_iconst (v := iv 1) hx hb dX7_run_85 (by decide) ?_
                refine r_iadd hx hb dX7_run_86 ?_
                obtain ⟨z_17, ez_17, hz_17, kz_17⟩ := iv_of (iv ((S4.1 119 10) + 1))
                rw [ez_17]
                refine p_X7_72 Cx hW hL (k := 119) (by decide) rfl dX7_run_87 (fun H locs hW hL => ?_)
                have F_18 : Fr S (uF u_7 119 10 z_17) pH := F_10.F rfl
                have F_19 : Fr S (uF u_7 119 10 z_17) pH := F_11.F rfl
                have i_20 : cX G (uF u_7 119 10 z_17) 0 0 0 := iu_7.F rfl rfl (show (-2147483648) ≤ z_17 ∧ z_17 ≤ 2147483647 from ⟨by omega, by omega⟩)
                refine lv_aload_n hx hb dX7_run_90 rfl (lv_at hl 2 rfl) ?_
                refine lv_iconst (v := iv 0) hx hb dX7_run_91 (by decide) ?_
                refine p_X7_91 Cx hW hL (k := 119) (by decide) rfl dX7_run_92 (fun H locs hW hL => ?_)
                have F_21 : Fr S (uF (uF u_7 119 10 z_17) 119 15 0) pH := F_18.F rfl
                have F_22 : Fr S (uF (uF u_7 119 10 z_17) 119 15 0) pH := F_19.F rfl
                have i_23 : cX G (uF (uF u_7 119 10 z_17) 119 15 0) 0 0 0 := i_20.F rfl rfl (show 0 ≤ 0 ∧ 0 ≤ 6 from ⟨by omega, by omega⟩)
                refine lv_goto (tgt := 145) hx hb dX7_run_95 (by decide) ?_
                refine lv_iinc (v := iv (i + 1)) (lv' := [(3, .int (iv (i + 1))), (2, .int (iv (dn + 1))), (0, .ref (G.2.2.1 + 119)), (1, .int (iv mo))]) hx hb dX7_run_145 hl (k := 1) rfl ((Int32.ofInt_add _ _).symm) (by decide) rfl (fun ls hl => ?_)
                refine lv_goto (tgt := 4) hx hb dX7_run_148 (by decide) ?_
                exact ih_4 (uF (uF u_7 119 10 z_17) 119 15 0) (i + 1) (dn + 1) _ _ _ (by omega) i_23 F_21 F_22 (by omega) (by omega) hW hL (lv_sub hl [0, 1, 2, 3] rfl)
            · refine lv_iload_n hx hb dX7_run_65 rfl (lv_at hl 1 rfl) ?_
              exact sIret Cx hr hlk hW hL ⟨hI4, hFm4, (by omega)⟩ dX7_run_66
          by_cases c_24 : S4.1 119 15 = 2
          · refine lv_tableIn (off := 84) (tgt := 106) hx hb dX7_run_22 (by rw [c_24]; decide) (by rw [c_24]; decide) (by rw [c_24]; decide) (by decide) ?_
            refine lv_aload_n hx hb dX7_run_106 rfl (lv_at hl 2 rfl) ?_
            refine sBv (sV (As := []) (rest := []) (k := 119) Cx (s_X7_judge l G S4  hI4) (c_X7_140 Cx rfl rfl (rmk_ok (by omega) (by decide))) hW (by decide) rfl rfl rfl hl.1 rfl (Nat.le_of_ble_eq_true rfl) dX7_run_107 ⟨Nat.le_of_ble_eq_true rfl, Nat.le_of_ble_eq_true rfl⟩) hL (fun u_25 H locs k_26 hW hL => ?_)
            obtain ⟨iu_25, fu_25⟩ := k_26
            have F_27 := hFm4.trans fu_25
            have F_28 := hL4_.trans fu_25
            refine lv_goto (tgt := 145) hx hb dX7_run_110 (by decide) ?_
            refine lv_iinc (v := iv (i + 1)) (lv' := [(3, .int (iv (i + 1))), (2, .int (iv dn)), (0, .ref (G.2.2.1 + 119)), (1, .int (iv mo))]) hx hb dX7_run_145 hl (k := 0) rfl ((Int32.ofInt_add _ _).symm) (by decide) rfl (fun ls hl => ?_)
            refine lv_goto (tgt := 4) hx hb dX7_run_148 (by decide) ?_
            exact ih_4 u_25 (i + 1) dn _ _ _ (by omega) iu_25 F_27 F_28 (by omega) (by omega) hW hL (lv_sub hl [0, 1, 2, 3] rfl)
          by_cases c_29 : S4.1 119 15 = 3
          · refine lv_tableIn (off := 91) (tgt := 113) hx hb dX7_run_22 (by rw [c_29]; decide) (by rw [c_29]; decide) (by rw [c_29]; decide) (by decide) ?_
            refine lv_aload_n hx hb dX7_run_113 rfl (lv_at hl 2 rfl) ?_
            refine sBv (sV (As := []) (rest := []) (k := 119) Cx (s_X7_leaf l G S4  hI4) (c_X7_143 Cx rfl rfl (rmk_ok (by omega) (by decide))) hW (by decide) rfl rfl rfl hl.1 rfl (Nat.le_of_ble_eq_true rfl) dX7_run_114 ⟨Nat.le_of_ble_eq_true rfl, Nat.le_of_ble_eq_true rfl⟩) hL (fun u_30 H locs k_31 hW hL => ?_)
            obtain ⟨iu_30, fu_30⟩ := k_31
            have F_32 := hFm4.trans fu_30
            have F_33 := hL4_.trans fu_30
            refine lv_goto (tgt := 145) hx hb dX7_run_117 (by decide) ?_
            refine lv_iinc (v := iv (i + 1)) (lv' := [(3, .int (iv (i + 1))), (2, .int (iv dn)), (0, .ref (G.2.2.1 + 119)), (1, .int (iv mo))]) hx hb dX7_run_145 hl (k := 0) rfl ((Int32.ofInt_add _ _).symm) (by decide) rfl (fun ls hl => ?_)
            refine lv_goto (tgt := 4) hx hb dX7_run_148 (by decide) ?_
            exact ih_4 u_30 (i + 1) dn _ _ _ (by omega) iu_30 F_32 F_33 (by omega) (by omega) hW hL (lv_sub hl [0, 1, 2, 3] rfl)
          by_cases c_34 : S4.1 119 15 = 4
          · refine lv_tableIn (off := 98) (tgt := 120) hx hb dX7_run_22 (by rw [c_34]; decide) (by rw [c_34]; decide) (by rw [c_34]; decide) (by decide) ?_
            refine lv_aload_n hx hb dX7_run_120 rfl (lv_at hl 2 rfl) ?_
            refine sBv (sV (As := []) (rest := []) (k := 119) Cx (s_X7_cut l G S4  hI4) (c_X7_146 Cx rfl rfl (rmk_ok (by omega) (by decide))) hW (by decide) rfl rfl rfl hl.1 rfl (Nat.le_of_ble_eq_true rfl) dX7_run_121 ⟨Nat.le_of_ble_eq_true rfl, Nat.le_of_ble_eq_true rfl⟩) hL (fun u_35 H locs k_36 hW hL => ?_)
            obtain ⟨iu_35, fu_35⟩ := k_36
            have F_37 := hFm4.trans fu_35
            have F_38 := hL4_.trans fu_35
            refine lv_goto (tgt := 145) hx hb dX7_run_124 (by decide) ?_
            refine lv_iinc (v := iv (i + 1)) (lv' := [(3, .int (iv (i + 1))), (2, .int (iv dn)), (0, .ref (G.2.2.1 + 119)), (1, .int (iv mo))]) hx hb dX7_run_145 hl (k := 0) rfl ((Int32.ofInt_add _ _).symm) (by decide) rfl (fun ls hl => ?_)
            refine lv_goto (tgt := 4) hx hb dX7_run_148 (by decide) ?_
            exact ih_4 u_35 (i + 1) dn _ _ _ (by omega) iu_35 F_37 F_38 (by omega) (by omega) hW hL (lv_sub hl [0, 1, 2, 3] rfl)
          by_cases c_39 : S4.1 119 15 = 5
          · refine lv_tableIn (off := 105) (tgt := 127) hx hb dX7_run_22 (by rw [c_39]; decide) (by rw [c_39]; decide) (by rw [c_39]; decide) (by decide) ?_
            refine lv_aload_n hx hb dX7_run_127 rfl (lv_at hl 2 rfl) ?_
            refine sBv (sV (As := []) (rest := []) (k := 119) Cx (s_X7_branch l G S4  hI4) (c_X7_149 Cx rfl rfl (rmk_ok (by omega) (by decide))) hW (by decide) rfl rfl rfl hl.1 rfl (Nat.le_of_ble_eq_true rfl) dX7_run_128 ⟨Nat.le_of_ble_eq_true rfl, Nat.le_of_ble_eq_true rfl⟩) hL (fun u_40 H locs k_41 hW hL => ?_)
            obtain ⟨iu_40, fu_40⟩ := k_41
            have F_42 := hFm4.trans fu_40
            have F_43 := hL4_.trans fu_40
            refine lv_goto (tgt := 145) hx hb dX7_run_131 (by decide) ?_
            refine lv_iinc (v := iv (i + 1)) (lv' := [(3, .int (iv (i + 1))), (2, .int (iv dn)), (0, .ref (G.2.2.1 + 119)), (1, .int (iv mo))]) hx hb dX7_run_145 hl (k := 0) rfl ((Int32.ofInt_add _ _).symm) (by decide) rfl (fun ls hl => ?_)
            refine lv_goto (tgt := 4) hx hb dX7_run_148 (by decide) ?_
            exact ih_4 u_40 (i + 1) dn _ _ _ (by omega) iu_40 F_42 F_43 (by omega) (by omega) hW hL (lv_sub hl [0, 1, 2, 3] rfl)
          by_cases c_44 : S4.1 119 15 = 6
          · refine lv_tableIn (off := 112) (tgt := 134) hx hb dX7_run_22 (by rw [c_44]; decide) (by rw [c_44]; decide) (by rw [c_44]; decide) (by decide) ?_
            refine lv_aload_n hx hb dX7_run_134 rfl (lv_at hl 2 rfl) ?_
            refine sBv (sV (As := []) (rest := []) (k := 119) Cx (s_X7_beginSecondChild l G S4  hI4) (c_X7_152 Cx rfl rfl (rmk_ok (by omega) (by decide))) hW (by decide) rfl rfl rfl hl.1 rfl (Nat.le_of_ble_eq_true rfl) dX7_run_135 ⟨Nat.le_of_ble_eq_true rfl, Nat.le_of_ble_eq_true rfl⟩) hL (fun u_45 H locs k_46 hW hL => ?_)
            obtain ⟨iu_45, fu_45⟩ := k_46
            have F_47 := hFm4.trans fu_45
            have F_48 := hL4_.trans fu_45
            refine lv_goto (tgt := 145) hx hb dX7_run_138 (by decide) ?_
            refine lv_iinc (v := iv (i + 1)) (lv' := [(3, .int (iv (i + 1))), (2, .int (iv dn)), (0, .ref (G.2.2.1 + 119)), (1, .int (iv mo))]) hx hb dX7_run_145 hl (k := 0) rfl ((Int32.ofInt_add _ _).symm) (by decide) rfl (fun ls hl => ?_)
            refine lv_goto (tgt := 4) hx hb dX7_run_148 (by decide) ?_
            exact ih_4 u_45 (i + 1) dn _ _ _ (by omega) iu_45 F_47 F_48 (by omega) (by omega) hW hL (lv_sub hl [0, 1, 2, 3] rfl)
          refine lv_tableOut (tgt := 141) hx hb dX7_run_22 (by rw [iv_toInt ⟨(by omega), (by omega)⟩]; omega) (by decide) ?_
          refine lv_aload_n hx hb dX7_run_141 rfl (lv_at hl 2 rfl) ?_
          refine sBv (sV (As := []) (rest := []) (k := 119) Cx (s_X7_choose l G S4  hI4 (by omega)) (c_X7_155 Cx rfl rfl (rmk_ok (by omega) (by decide))) hW (by decide) rfl rfl rfl hl.1 rfl (Nat.le_of_ble_eq_true rfl) dX7_run_142 ⟨Nat.le_of_ble_eq_true rfl, Nat.le_of_ble_eq_true rfl⟩) hL (fun u_49 H locs k_50 hW hL => ?_)
          obtain ⟨iu_49, fu_49⟩ := k_50
          have F_51 := hFm4.trans fu_49
          have F_52 := hL4_.trans fu_49
          refine lv_iinc (v := iv (i + 1)) (lv' := [(3, .int (iv (i + 1))), (2, .int (iv dn)), (0, .ref (G.2.2.1 + 119)), (1, .int (iv mo))]) hx hb dX7_run_145 hl (k := 0) rfl ((Int32.ofInt_add _ _).symm) (by decide) rfl (fun ls hl => ?_)
          refine lv_goto (tgt := 4) hx hb dX7_run_148 (by decide) ?_
          exact ih_4 u_49 (i + 1) dn _ _ _ (by omega) iu_49 F_51 F_52 (by omega) (by omega) hW hL (lv_sub hl [0, 1, 2, 3] rfl)
  exact loop_4 (_ + 1) S 0 0 _ _ _ (Nat.lt_succ_self _) hI (Fr.rf : Fr S S pH) Fr.rf (by omega) (by omega) hW hL (lv_sub hl [0, 1, 2, 3] rfl)

set_option maxRecDepth 100000 in
set_option maxHeartbeats 4000000 in
theorem s_X7_prove (l : Launch) (G : sG) (S : sS)  (hI : cX G S 0 0 0) : Met l yX7_prove (.code yX7_prove cX7_prove 1 none :: tb) (rmk 8 0 0) (sPc G 294 S [.ref (G.2.2.1 + 119)]) (sQv G 294 (fun u => cX G u 0 0 0 ∧ Fr S u pH)) 0 0 (sF G) := by
  refine sEnter (by decide) (Nat.le_of_ble_eq_true rfl) ?_
  intro p e s m args below meth c Cx hr hlk hnm hW ls hl
  have Cx : sC G p m c cX7_prove 1 s args RX7 := Cx
  obtain ⟨hx, hb, hml, hown, hts⟩ := id Cx.1
  have hL : sL G [] := sL_nil
  have hl : lv_has ls 1 [(0, .ref (G.2.2.1 + 119))] := hl
  have hW0 := hW
  refine lv_aload_n hx hb dX7_prove_0 rfl (lv_at hl 0 rfl) ?_
  refine sBi (sV (As := []) (rest := []) (k := 119) Cx (s_X7_isProved l G S  hI) (c_X7_104 Cx rfl rfl (rmk_ok (by omega) (by decide))) hW (by decide) rfl rfl rfl hl.1 rfl (Nat.le_of_ble_eq_true rfl) dX7_prove_1 ⟨Nat.le_of_ble_eq_true rfl, Nat.le_of_ble_eq_true rfl⟩) hL (fun r_3 u_1 H locs k_2 hW hL => ?_)
  obtain ⟨eu_1, xu_1⟩ := k_2
  rw [eu_1] at hW
  refine r_if_eq (tgt := 17) hx hb ⟨(by omega), (by omega)⟩ dX7_prove_4 (by decide) (fun c_4 => ?_) (fun c_4 => ?_)
  · exact sVret Cx hr hlk hW hL ⟨hI, (Fr.rf : Fr S S pH)⟩ dX7_prove_17
  · refine lv_aload_n hx hb dX7_prove_7 rfl (lv_at hl 0 rfl) ?_
    refine g_X7_28 Cx hW (k := 119) (by decide) rfl (v := .ref (G.2.2.1 + 157)) (rf_119_2 hI) dX7_prove_8 ?_
    refine sBi (sV (As := []) (rest := []) (k := 157) Cx (s_X5_isMade l G S  hI) (c_X7_158 Cx rfl rfl (rmk_ok (by omega) (by decide))) hW (by decide) rfl rfl rfl hl.1 rfl (Nat.le_of_ble_eq_true rfl) dX7_prove_11 ⟨Nat.le_of_ble_eq_true rfl, Nat.le_of_ble_eq_true rfl⟩) hL (fun r_7 u_5 H locs k_6 hW hL => ?_)
    obtain ⟨eu_5, xu_5⟩ := k_6
    rw [eu_5] at hW
    refine r_if_eq (tgt := 18) hx hb ⟨(by omega), (by omega)⟩ dX7_prove_14 (by decide) (fun c_8 => ?_) (fun c_8 => ?_)
    · have join_81 : ∀ (S81 : sS)  (H : Heap) (locs : List Loc) (ls : Array Slot), (cX G S81 0 0 0) → (Fr S S81 pH) → (Fr S S81 pH) → sW G 294 S81 H → sL G locs → lv_has ls 1 [(0, .ref (G.2.2.1 + 119))] → W p l e (rmk 8 0 0) s m args below meth c H locs 0 0 (MQ below (sQv G 294 (fun u => cX G u 0 0 0 ∧ Fr S u pH)) args s 0 0 (sF G)) (F0 m 81 ls []) := by
        intro S81  H locs ls hI81 hFm81 hL81_ hW hL hl
        refine lv_aload_n hx hb dX7_prove_81 rfl (lv_at hl 0 rfl) ?_
        refine g_X7_28 Cx hW (k := 119) (by decide) rfl (v := .ref (G.2.2.1 + 157)) (rf_119_2 hI81) dX7_prove_82 ?_
        refine sBi (sV (As := []) (rest := []) (k := 157) Cx (s_X5_isOver l G S81  hI81) (c_X7_171 Cx rfl rfl (rmk_ok (by omega) (by decide))) hW (by decide) rfl rfl rfl hl.1 rfl (Nat.le_of_ble_eq_true rfl) dX7_prove_85 ⟨Nat.le_of_ble_eq_true rfl, Nat.le_of_ble_eq_true rfl⟩) hL (fun r_11 u_9 H locs k_10 hW hL => ?_)
        obtain ⟨eu_9, xu_9⟩ := k_10
        rw [eu_9] at hW
        refine r_if_eq (tgt := 97) hx hb ⟨(by omega), (by omega)⟩ dX7_prove_88 (by decide) (fun c_12 => ?_) (fun c_12 => ?_)
        · exact sVret Cx hr hlk hW hL ⟨hI81, hFm81⟩ dX7_prove_97
        · refine lv_aload_n hx hb dX7_prove_91 rfl (lv_at hl 0 rfl) ?_
          refine lv_bipush (v := iv 6) hx hb dX7_prove_92 (by decide) ?_
          refine p_X7_69 Cx hW hL (k := 119) (by decide) rfl dX7_prove_94 (fun H locs hW hL => ?_)
          have F_13 : Fr S (uF S81 119 9 6) pH := hFm81.F rfl
          have F_14 : Fr S (uF S81 119 9 6) pH := hL81_.F rfl
          have i_15 : cX G (uF S81 119 9 6) 0 0 0 := hI81.status ⟨by omega, by omega⟩ (by omega)
          exact sVret Cx hr hlk hW hL ⟨i_15, F_13⟩ dX7_prove_97
      refine lv_aload_n hx hb dX7_prove_18 rfl (lv_at hl 0 rfl) ?_
      have q_16 : 0 ≤ S.1 119 9 ∧ S.1 119 9 ≤ 6 := hI.fi 119 9 7 (by decide) rfl
      refine g_X7_69 Cx hW (k := 119) (by decide) rfl (v := S.1 119 9) rfl dX7_prove_19 ?_
      refine lv_iconst (v := iv 2) hx hb dX7_prove_22 (by decide) ?_
      refine r_icmp_ne (tgt := 40) hx hb ⟨(by omega), (by omega)⟩ ⟨(by omega), (by omega)⟩ dX7_prove_23 (by decide) (fun c_17 => ?_) (fun c_17 => ?_)
      · refine lv_aload_n hx hb dX7_prove_40 rfl (lv_at hl 0 rfl) ?_
        refine g_X7_69 Cx hW (k := 119) (by decide) rfl (v := S.1 119 9) rfl dX7_prove_41 ?_
        refine lv_iconst (v := iv 3) hx hb dX7_prove_44 (by decide) ?_
        refine r_icmp_ne (tgt := 58) hx hb ⟨(by omega), (by omega)⟩ ⟨(by omega), (by omega)⟩ dX7_prove_45 (by decide) (fun c_18 => ?_) (fun c_18 => ?_)
        · refine lv_aload_n hx hb dX7_prove_58 rfl (lv_at hl 0 rfl) ?_
          refine g_X7_69 Cx hW (k := 119) (by decide) rfl (v := S.1 119 9) rfl dX7_prove_59 ?_
          refine lv_iconst (v := iv 4) hx hb dX7_prove_62 (by decide) ?_
          refine r_icmp_ne (tgt := 81) hx hb ⟨(by omega), (by omega)⟩ ⟨(by omega), (by omega)⟩ dX7_prove_63 (by decide) (fun c_19 => ?_) (fun c_19 => ?_)
          · exact join_81 S  _ _ _ hI (Fr.rf : Fr S S pH) (Fr.rf : Fr S S pH) hW hL (lv_sub hl [0] rfl)
          · have hcol := hI.ub (by omega)
            refine lv_aload_n hx hb dX7_prove_66 rfl (lv_at hl 0 rfl) ?_
            refine g_X7_28 Cx hW (k := 119) (by decide) rfl (v := .ref (G.2.2.1 + 157)) (rf_119_2 hI) dX7_prove_67 ?_
            refine lv_aload_n hx hb dX7_prove_70 rfl (lv_at hl 0 rfl) ?_
            obtain ⟨o_20, mo_20, eo_20⟩ := hI.rm.2.2.1
            refine g_X7_51 Cx hW (k := 119) (by decide) rfl (v := .ref (G.2.2.1 + o_20)) eo_20 dX7_prove_71 ?_
            refine lv_aload_n hx hb dX7_prove_74 rfl (lv_at hl 0 rfl) ?_
            refine g_X7_21 Cx hW (k := 119) (by decide) rfl (v := .ref (G.2.2.1 + 135)) (rf_119_1 hI) dX7_prove_75 ?_
            have q_21 : (-1) ≤ S.1 135 18 ∧ S.1 135 18 ≤ 13 := hI.fi 135 18 2 (by decide) rfl
            refine sBv (sV (As := [.ref (G.2.2.1 + o_20), .ref (G.2.2.1 + 135)]) (rest := []) (k := 157) Cx (s_X5_proveUnbounded l G S (md := o_20) hI mo_20 (by omega)) (c_X7_167 Cx rfl rfl (rmk_ok (by omega) (by decide))) hW (by decide) rfl rfl rfl hl.1 rfl (Nat.le_of_ble_eq_true rfl) dX7_prove_78 ⟨Nat.le_of_ble_eq_true rfl, Nat.le_of_ble_eq_true rfl⟩) hL (fun u_22 H locs k_23 hW hL => ?_)
            obtain ⟨iu_22, fu_22⟩ := k_23
            have F_24 := (Fr.rf : Fr S S pH).trans (fu_22.to (fun k h => pW_H k (pN_W k h)))
            have F_25 := (Fr.rf : Fr S S pH).trans (fu_22.to (fun k h => pW_H k (pN_W k h)))
            exact join_81 u_22  _ _ _ iu_22 F_24 F_25 hW hL (lv_sub hl [0] rfl)
        · refine lv_aload_n hx hb dX7_prove_48 rfl (lv_at hl 0 rfl) ?_
          refine g_X7_28 Cx hW (k := 119) (by decide) rfl (v := .ref (G.2.2.1 + 157)) (rf_119_2 hI) dX7_prove_49 ?_
          refine sBv (sV (As := []) (rest := []) (k := 157) Cx (s_X5_proveInfeasible l G S  hI) (c_X7_164 Cx rfl rfl (rmk_ok (by omega) (by decide))) hW (by decide) rfl rfl rfl hl.1 rfl (Nat.le_of_ble_eq_true rfl) dX7_prove_52 ⟨Nat.le_of_ble_eq_true rfl, Nat.le_of_ble_eq_true rfl⟩) hL (fun u_26 H locs k_27 hW hL => ?_)
          obtain ⟨iu_26, fu_26⟩ := k_27
          have F_28 := (Fr.rf : Fr S S pH).trans (fu_26.to (fun k h => pW_H k (pN_W k h)))
          have F_29 := (Fr.rf : Fr S S pH).trans (fu_26.to (fun k h => pW_H k (pN_W k h)))
          refine lv_goto (tgt := 81) hx hb dX7_prove_55 (by decide) ?_
          exact join_81 u_26  _ _ _ iu_26 F_28 F_29 hW hL (lv_sub hl [0] rfl)
      · refine lv_aload_n hx hb dX7_prove_26 rfl (lv_at hl 0 rfl) ?_
        refine g_X7_28 Cx hW (k := 119) (by decide) rfl (v := .ref (G.2.2.1 + 157)) (rf_119_2 hI) dX7_prove_27 ?_
        refine lv_aload_n hx hb dX7_prove_30 rfl (lv_at hl 0 rfl) ?_
        obtain ⟨o_30, mo_30, eo_30⟩ := hI.rm.2.2.1
        refine g_X7_51 Cx hW (k := 119) (by decide) rfl (v := .ref (G.2.2.1 + o_30)) eo_30 dX7_prove_31 ?_
        refine sBv (sV (As := [.ref (G.2.2.1 + o_30)]) (rest := []) (k := 157) Cx (s_X5_proveOptimal l G S (md := o_30) hI mo_30) (c_X7_161 Cx rfl rfl (rmk_ok (by omega) (by decide))) hW (by decide) rfl rfl rfl hl.1 rfl (Nat.le_of_ble_eq_true rfl) dX7_prove_34 ⟨Nat.le_of_ble_eq_true rfl, Nat.le_of_ble_eq_true rfl⟩) hL (fun u_31 H locs k_32 hW hL => ?_)
        obtain ⟨iu_31, fu_31⟩ := k_32
        have F_33 := (Fr.rf : Fr S S pH).trans (fu_31.to (fun k h => pW_H k (pN_W k h)))
        have F_34 := (Fr.rf : Fr S S pH).trans (fu_31.to (fun k h => pW_H k (pN_W k h)))
        refine lv_goto (tgt := 81) hx hb dX7_prove_37 (by decide) ?_
        exact join_81 u_31  _ _ _ iu_31 F_33 F_34 hW hL (lv_sub hl [0] rfl)
    · exact sVret Cx hr hlk hW hL ⟨hI, (Fr.rf : Fr S S pH)⟩ dX7_prove_17
