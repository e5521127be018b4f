set_option maxRecDepth 100000 in
set_option maxHeartbeats 4000000 in
theorem s_X12_lower (l : Launch) (G : sG) (S : sS) {ka kb Nka Nkb : Nat} {po qo : Int} (hI : dX G S) (hika : ia ka Nka) (hikb : ia kb Nkb) (nka233 : Hd (ka ≠ 233)) (nka234 : Hd (ka ≠ 234)) (nka235 : Hd (ka ≠ 235)) (nka237 : Hd (ka ≠ 237)) (nka238 : Hd (ka ≠ 238)) (nka239 : Hd (ka ≠ 239)) (nka240 : Hd (ka ≠ 240)) (nka241 : Hd (ka ≠ 241)) (nka242 : Hd (ka ≠ 242)) (nka280 : Hd (ka ≠ 280)) (nkb233 : Hd (kb ≠ 233)) (nkb234 : Hd (kb ≠ 234)) (nkb235 : Hd (kb ≠ 235)) (nkb237 : Hd (kb ≠ 237)) (nkb238 : Hd (kb ≠ 238)) (nkb239 : Hd (kb ≠ 239)) (nkb240 : Hd (kb ≠ 240)) (nkb241 : Hd (kb ≠ 241)) (nkb242 : Hd (kb ≠ 242)) (nkb280 : Hd (kb ≠ 280)) (hR : (0 ≤ po ∧ po + 6 < Nka) ∧ 0 ≤ qo ∧ qo + 6 < Nkb) (hA : NO (S.2.1 ka) po 6) (hB : NO (S.2.1 kb) qo 6) (hps : 0 < nv (S.2.1 kb) qo) : Met l yX12_lower (.code yX12_lower cX12_lower 5 none :: tb) (rmk 7 0 0) (sPc G 294 S [.ref (G.2.2.1 + 231), .ref (G.2.2.1 + ka), .int (iv po), .ref (G.2.2.1 + kb), .int (iv qo)]) (sQv G 294 (fun u => dX G u ∧ Fr S u (pl [233, 234, 235, 237, 238, 239, 240, 241, 242, 280]) ∧ FF S u (fl []) ∧ (NO (u.2.1 237) 0 7 ∧ NO (u.2.1 238) 0 7))) 0 0 (sF G) := by
  refine sEnter (by decide) (Nat.le_of_ble_eq_true rfl) ?_
  intro p e s m args below meth c Cx hr hlk hnm hW ls hl
  have Cx : sC G p m c cX12_lower 5 s args RX12 := Cx
  obtain ⟨hx, hb, hml, hown, hts⟩ := id Cx.1
  have hL : sL G [] := sL_nil
  have hl : lv_has ls 5 [(0, .ref (G.2.2.1 + 231)), (1, .ref (G.2.2.1 + ka)), (2, .int (iv po)), (3, .ref (G.2.2.1 + kb)), (4, .int (iv qo))] := hl
  have hW0 := hW
  refine lv_aload_n hx hb dX12_lower_0 rfl (lv_at hl 0 rfl) ?_
  refine lv_aload_n hx hb dX12_lower_1 rfl (lv_at hl 3 rfl) ?_
  refine lv_iload hx hb dX12_lower_2 (lv_at hl 4 rfl) ?_
  refine lv_aload_n hx hb dX12_lower_4 rfl (lv_at hl 1 rfl) ?_
  refine lv_iload_n hx hb dX12_lower_5 rfl (lv_at hl 2 rfl) ?_
  refine sBv (sV (As := [.ref (G.2.2.1 + kb), .int (iv qo), .ref (G.2.2.1 + ka), .int (iv po)]) (rest := []) (k := 231) Cx (s_X12_common l G S (ka := kb) (po := qo) (kb := ka) (qo := po) (Nka := Nkb) (Nkb := Nka) (La := 6) (Lb := 6) (Lx := 6) hI hikb hika (neD nkb241) (neD nka241) (neD nka242) (by omega) hB hA (.inl hps)) (c_X12_658 Cx rfl rfl (rmk_ok (by omega) (by decide))) hW (by decide) rfl rfl rfl hl.1 rfl (Nat.le_of_ble_eq_true rfl) dX12_lower_6 ⟨Nat.le_of_ble_eq_true rfl, Nat.le_of_ble_eq_true rfl⟩) hL (fun u_1 H locs k_2 hW hL => ?_)
  obtain ⟨iu_1, fu_1, gu_1, xu_1⟩ := k_2
  have F_3 := (Fr.rf : Fr S S (pl [233, 234, 235, 237, 238, 239, 240, 241, 242, 280])).trans (fu_1.to (pl_sub (by decide)))
  have g_4 : FF S u_1 (fl []) := FF.trans FF.rf (FF.to gu_1 (fl_sub (by decide)))
  refine lv_aload_n hx hb dX12_lower_9 rfl (lv_at hl 0 rfl) ?_
  refine g_X12_38 Cx hW (k := 231) (by decide) rfl (v := .ref (G.2.2.1 + 241)) (rd_11 iu_1) dX12_lower_10 ?_
  refine lv_iconst (v := iv 0) hx hb dX12_lower_13 (by decide) ?_
  refine lv_aload_n hx hb dX12_lower_14 rfl (lv_at hl 0 rfl) ?_
  refine g_X12_160 Cx hW (k := 231) (by decide) rfl (v := .ref (G.2.2.1 + 280)) (rd_90 iu_1) dX12_lower_15 ?_
  refine lv_iconst (v := iv 0) hx hb dX12_lower_18 (by decide) ?_
  refine sBv (sSt (As := [.ref (G.2.2.1 + 241), .int (iv 0), .ref (G.2.2.1 + 280), .int (iv 0)]) (rest := []) Cx (s_X12_copy l G u_1 (ka := 241) (po := 0) (kb := 280) (qo := 0) (Nka := 68) (Nkb := 68) (La := 6) iu_1 ⟨rfl, by decide, by decide, by decide, rfl⟩ ⟨rfl, by decide, by decide, by decide, rfl⟩ (show (280 : Nat) ≠ 241 by decide) (by omega) xu_1.1) (c_X12_233 Cx rfl rfl (rmk_ok (by omega) (by decide))) hW rfl hl.1 rfl (Nat.le_of_ble_eq_true rfl) dX12_lower_19 ⟨Nat.le_of_ble_eq_true rfl, Nat.le_of_ble_eq_true rfl⟩) hL (fun u_5 H locs k_6 hW hL => ?_)
  obtain ⟨iu_5, fu_5, xu_5⟩ := k_6
  have F_7 := F_3.trans (fu_5.to (p1_sub rfl))
  have g_8 : FF S u_5 (fl []) := FF.fr g_4 fu_5 rfl
  have hpcp : 0 < u_5.2.1 280 0 := by rw [xu_5.1.2.2]; exact xu_1.1.sgn.2.1.mp xu_1.2
  refine lv_aload_n hx hb dX12_lower_22 rfl (lv_at hl 0 rfl) ?_
  refine lv_aload_n hx hb dX12_lower_23 rfl (lv_at hl 3 rfl) ?_
  refine lv_iload hx hb dX12_lower_24 (lv_at hl 4 rfl) ?_
  refine lv_aload_n hx hb dX12_lower_26 rfl (lv_at hl 0 rfl) ?_
  refine g_X12_160 Cx hW (k := 231) (by decide) rfl (v := .ref (G.2.2.1 + 280)) (rd_90 iu_5) dX12_lower_27 ?_
  refine lv_iconst (v := iv 0) hx hb dX12_lower_30 (by decide) ?_
  refine lv_aload_n hx hb dX12_lower_31 rfl (lv_at hl 0 rfl) ?_
  refine g_X12_29 Cx hW (k := 231) (by decide) rfl (v := .ref (G.2.2.1 + 238)) (rd_8 iu_5) dX12_lower_32 ?_
  refine lv_iconst (v := iv 0) hx hb dX12_lower_35 (by decide) ?_
  refine lv_aload_n hx hb dX12_lower_36 rfl (lv_at hl 0 rfl) ?_
  refine g_X12_35 Cx hW (k := 231) (by decide) rfl (v := .ref (G.2.2.1 + 240)) (rd_10 iu_5) dX12_lower_37 ?_
  refine lv_iconst (v := iv 0) hx hb dX12_lower_40 (by decide) ?_
  have hbp41 : 0 < u_5.2.1 280 0 := by rw [show u_5.2.1 280 = u_5.2.1 280 from (funext fun j => rfl)]; exact hpcp
  refine sBv (sV (As := [.ref (G.2.2.1 + kb), .int (iv qo), .ref (G.2.2.1 + 280), .int (iv 0), .ref (G.2.2.1 + 238), .int (iv 0), .ref (G.2.2.1 + 240), .int (iv 0)]) (rest := []) (k := 231) Cx (s_X12_divide l G u_5 (ka := kb) (po := qo) (kb := 280) (qo := 0) (kc := 238) (ro := 0) (kd := 240) (eo := 0) (Nka := Nkb) (Nkb := 68) (Nkc := 68) (Nkd := 68) (La := 6) (Lb := 6) (Ld := 7) iu_5 hikb ⟨rfl, by decide, by decide, by decide, rfl⟩ ⟨rfl, by decide, by decide, by decide, rfl⟩ ⟨rfl, by decide, by decide, by decide, rfl⟩ (neS nkb238) (neS nkb240) (show (238 : Nat) ≠ 280 by decide) (show (240 : Nat) ≠ 280 by decide) (show (238 : Nat) ≠ 240 by decide) (neD nkb233) (show (280 : Nat) ≠ 233 by decide) (show (280 : Nat) ≠ 234 by decide) (show (280 : Nat) ≠ 235 by decide) (show (238 : Nat) ≠ 233 by decide) (show (238 : Nat) ≠ 234 by decide) (show (238 : Nat) ≠ 235 by decide) (show (240 : Nat) ≠ 233 by decide) (show (240 : Nat) ≠ 234 by decide) (show (240 : Nat) ≠ 235 by decide) (by omega) (by omega) (by rw [show u_5.2.1 kb = S.2.1 kb from (funext fun j => ((fu_5 kb (p1_no (neD nkb280))).2.1 j).trans ((fu_1 kb (pl_c (neD nkb233) (pl_c (neD nkb234) (pl_c (neD nkb235) (pl_c (neD nkb239) (pl_c (neD nkb240) (pl_c (neD nkb241) (pl_c (neD nkb242) rfl)))))))).2.1 j))]; exact hB) xu_5.1.1) (c_X12_266 Cx rfl rfl (rmk_ok (by omega) (by decide))) hW (by decide) rfl rfl rfl hl.1 rfl (Nat.le_of_ble_eq_true rfl) dX12_lower_41 ⟨Nat.le_of_ble_eq_true rfl, Nat.le_of_ble_eq_true rfl⟩) hL (fun u_9 H locs k_10 hW hL => ?_)
  obtain ⟨iu_9, fu_9, xu_9⟩ := k_10
  have F_11 := F_7.trans (fu_9.to (pl_sub (by decide)))
  have g_12 : FF S u_9 (fl []) := FF.fr g_8 fu_9 rfl
  refine lv_aload_n hx hb dX12_lower_44 rfl (lv_at hl 0 rfl) ?_
  refine lv_aload_n hx hb dX12_lower_45 rfl (lv_at hl 1 rfl) ?_
  refine lv_iload_n hx hb dX12_lower_46 rfl (lv_at hl 2 rfl) ?_
  refine lv_aload_n hx hb dX12_lower_47 rfl (lv_at hl 0 rfl) ?_
  refine g_X12_160 Cx hW (k := 231) (by decide) rfl (v := .ref (G.2.2.1 + 280)) (rd_90 iu_9) dX12_lower_48 ?_
  refine lv_iconst (v := iv 0) hx hb dX12_lower_51 (by decide) ?_
  refine lv_aload_n hx hb dX12_lower_52 rfl (lv_at hl 0 rfl) ?_
  refine g_X12_26 Cx hW (k := 231) (by decide) rfl (v := .ref (G.2.2.1 + 237)) (rd_7 iu_9) dX12_lower_53 ?_
  refine lv_iconst (v := iv 0) hx hb dX12_lower_56 (by decide) ?_
  refine lv_aload_n hx hb dX12_lower_57 rfl (lv_at hl 0 rfl) ?_
  refine g_X12_35 Cx hW (k := 231) (by decide) rfl (v := .ref (G.2.2.1 + 240)) (rd_10 iu_9) dX12_lower_58 ?_
  refine lv_iconst (v := iv 0) hx hb dX12_lower_61 (by decide) ?_
  have hbp62 : 0 < u_9.2.1 280 0 := by rw [show u_9.2.1 280 = u_5.2.1 280 from (funext fun j => (fu_9 280 rfl).2.1 j)]; exact hpcp
  refine sBv (sV (As := [.ref (G.2.2.1 + ka), .int (iv po), .ref (G.2.2.1 + 280), .int (iv 0), .ref (G.2.2.1 + 237), .int (iv 0), .ref (G.2.2.1 + 240), .int (iv 0)]) (rest := []) (k := 231) Cx (s_X12_divide l G u_9 (ka := ka) (po := po) (kb := 280) (qo := 0) (kc := 237) (ro := 0) (kd := 240) (eo := 0) (Nka := Nka) (Nkb := 68) (Nkc := 68) (Nkd := 68) (La := 6) (Lb := 6) (Ld := 7) iu_9 hika ⟨rfl, by decide, by decide, by decide, rfl⟩ ⟨rfl, by decide, by decide, by decide, rfl⟩ ⟨rfl, by decide, by decide, by decide, rfl⟩ (neS nka237) (neS nka240) (show (237 : Nat) ≠ 280 by decide) (show (240 : Nat) ≠ 280 by decide) (show (237 : Nat) ≠ 240 by decide) (neD nka233) (show (280 : Nat) ≠ 233 by decide) (show (280 : Nat) ≠ 234 by decide) (show (280 : Nat) ≠ 235 by decide) (show (237 : Nat) ≠ 233 by decide) (show (237 : Nat) ≠ 234 by decide) (show (237 : Nat) ≠ 235 by decide) (show (240 : Nat) ≠ 233 by decide) (show (240 : Nat) ≠ 234 by decide) (show (240 : Nat) ≠ 235 by decide) (by omega) (by omega) (by rw [show u_9.2.1 ka = S.2.1 ka from (funext fun j => ((fu_9 ka (pl_c (neD nka233) (pl_c (neD nka234) (pl_c (neD nka235) (pl_c (neD nka238) (pl_c (neD nka240) rfl)))))).2.1 j).trans (((fu_5 ka (p1_no (neD nka280))).2.1 j).trans ((fu_1 ka (pl_c (neD nka233) (pl_c (neD nka234) (pl_c (neD nka235) (pl_c (neD nka239) (pl_c (neD nka240) (pl_c (neD nka241) (pl_c (neD nka242) rfl)))))))).2.1 j)))]; exact hA) (by rw [show u_9.2.1 280 = u_5.2.1 280 from (funext fun j => (fu_9 280 rfl).2.1 j)]; exact xu_5.1.1)) (c_X12_266 Cx rfl rfl (rmk_ok (by omega) (by decide))) hW (by decide) rfl rfl rfl hl.1 rfl (Nat.le_of_ble_eq_true rfl) dX12_lower_62 ⟨Nat.le_of_ble_eq_true rfl, Nat.le_of_ble_eq_true rfl⟩) hL (fun u_13 H locs k_14 hW hL => ?_)
  obtain ⟨iu_13, fu_13, xu_13⟩ := k_14
  have F_15 := F_11.trans (fu_13.to (pl_sub (by decide)))
  have g_16 : FF S u_13 (fl []) := FF.fr g_12 fu_13 rfl
  exact sVret Cx hr hlk hW hL ⟨iu_13, F_15, g_16, ⟨xu_13.1, (by rw [show u_13.2.1 238 = u_9.2.1 238 from (funext fun j => (fu_13 238 rfl).2.1 j)]; exact xu_9.1)⟩⟩ dX12_lower_65
