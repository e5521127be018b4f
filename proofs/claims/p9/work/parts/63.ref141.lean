set_option maxRecDepth 100000 in
set_option maxHeartbeats 4000000 in
theorem s_X12_lower (l : Launch) (G : sG) (S : sS) {ka kb Nka Nkb : Nat} {po qo : Int} (hI : dX G S) (hika : ia ka Nka) (hikb : ia kb Nkb) (nka233 : Hd (ka ≠ 233)) (nka234 : Hd (ka ≠ 234)) (nka235 : Hd (ka ≠ 235)) (nka237 : Hd (ka ≠ 237)) (nka238 : Hd (ka ≠ 238)) (nka239 : Hd (ka ≠ 239)) (nka240 : Hd (ka ≠ 240)) (nka241 : Hd (ka ≠ 241)) (nka242 : Hd (ka ≠ 242)) (nka280 : Hd (ka ≠ 280)) (nkb233 : Hd (kb ≠ 233)) (nkb234 : Hd (kb ≠ 234)) (nkb235 : Hd (kb ≠ 235)) (nkb237 : Hd (kb ≠ 237)) (nkb238 : Hd (kb ≠ 238)) (nkb239 : Hd (kb ≠ 239)) (nkb240 : Hd (kb ≠ 240)) (nkb241 : Hd (kb ≠ 241)) (nkb242 : Hd (kb ≠ 242)) (nkb280 : Hd (kb ≠ 280)) (hR : (0 ≤ po ∧ po + 6 < Nka) ∧ 0 ≤ qo ∧ qo + 6 < Nkb) (hA : NO (S.2.1 ka) po 6) (hB : NO (S.2.1 kb) qo 6) (hps : 0 < nv (S.2.1 kb) qo) : Met l yX12_lower (.code yX12_lower cX12_lower 5 none :: tb) (rmk 7 0 0) (sPc G 294 S [.ref (G.2.2.1 + 231), .ref (G.2.2.1 + ka), .int (iv po), .ref (G.2.2.1 + kb), .int (iv qo)]) (sQv G 294 (fun u => dX G u ∧ Fr S u (pl [233, 234, 235, 237, 238, 239, 240, 241, 242, 280]) ∧ FF S u (fl []) ∧ (NO (u.2.1 237) 0 7 ∧ NO (u.2.1 238) 0 7))) 0 0 (sF G) := by
  refine sEnter (by decide) (Nat.le_of_ble_eq_true rfl) ?_
  intro p e s m args below meth c Cx hr hlk hnm hW ls hl
  have Cx : sC G p m c cX12_lower 5 s args RX12 := Cx
  obtain ⟨hx, hb, hml, hown, hts⟩ := id Cx.1
  have hL : sL G [] := sL_nil
  have hl : lv_has ls 5 [(0, .ref (G.2.2.1 + 231)), (1, .ref (G.2.2.1 + ka)), (2, .int (iv po)), (3, .ref (G.2.2.1 + kb)), (4, .int (iv qo))] := hl
  have hW0 := hW
  refine lv_aload_n hx hb dX12_lower_0 rfl (lv_at hl 0 rfl) ?_
  refine lv_aload_n hx hb dX12_lower_1 rfl (lv_at hl 3 rfl) ?_
  refine lv_iload hx hb dX12_lower_2 (lv_at hl 4 rfl) ?_
  refine lv_aload_n hx hb dX12_lower_4 rfl (lv_at hl 1 rfl) ?_
  refine lv_iload_n hx hb dX12_lower_5 rfl (lv_at hl 2 rfl) ?_
  refine sBv (sV (As := [.ref (G.2.2.1 + kb), .int (iv qo), .ref (G.2.2.1 + ka), .int (iv po)]) (rest := []) (k := 231) Cx (s_X12_common l G S (ka := kb) (po := qo) (kb := ka) (qo := po) (Nka := Nkb) (Nkb := Nka) (La := 6) (Lb := 6) (Lx := 6) hI hikb hika (neD nkb241) (neD nka241) (neD nka242) (by omega) hB hA (.inl hps)) (c_X12_658 Cx rfl rfl (rmk_ok (by omega) (by decide))) hW (by decide) rfl rfl rfl hl.1 rfl (Nat.le_of_ble_eq_true rfl) dX12_lower_6 ⟨Nat.le_of_ble_eq_true rfl, Nat.le_of_ble_eq_true rfl⟩) hL (fun u_1 H locs k_2 hW hL => ?_)
  obtain ⟨iu_1, fu_1, gu_1, xu_1⟩ := k_2
  have F_3 := (Fr.rf : Fr S S (pl [233, 234, 235, 237, 238, 239, 240, 241, 242, 280])).trans (fu_1.to (pl_sub (by decide)))
  have g_4 : FF S u_1 (fl []) := FF.trans FF.rf (FF.to gu_1 (fl_sub (by decide)))
  refine lv_aload_n hx hb dX12_lower_9 rfl (lv_at hl 0 rfl) ?_
  refine g_X12_38 Cx hW (k := 231) (by decide) rfl (v := .ref (G.2.2.1 + 241)) (rd_11 iu_1) dX12_lower_10 ?_
  refine lv_iconst (v := iv 0) hx hb dX12_lower_13 (by decide) ?_
  refine lv_aload_n hx hb dX12_lower_14 rfl (lv_at hl 0 rfl) ?_
  refine g_X12_160 Cx hW (k := 231) (by decide) rfl (v := .ref (G.2.2.1 + 280)) (rd_90 iu_1) dX12_lower_15 ?_
  refine lv_iconst (v := iv 0) hx hb dX12_lower_18 (by decide) ?_
  refine sBv (sSt (As := [.ref (G.2.2.1 + 241), .int (iv 0), .ref (G.2.2.1 + 280), .int (iv 0)]) (rest := []) Cx (s_X12_copy l G u_1 (ka := 241) (po := 0) (kb := 280) (qo := 0) (Nka := 68) (Nkb := 68) (La := 6) iu_1 ⟨rfl, by decide, by decide, by decide, rfl⟩ ⟨rfl, by decide, by decide, by decide, rfl⟩ (show (280 : Nat) ≠ 241 by decide) (by omega) xu_1.1) (c_X12_233 Cx rfl rfl (rmk_ok (by omega) (by decide))) hW rfl hl.1 rfl (Nat.le_of_ble_eq_true rfl) dX12_lower_19 ⟨Nat.le_of_ble_eq_true rfl, Nat.le_of_ble_eq_true rfl⟩) hL (fun u_5 H locs k_6 hW hL => ?_)
  obtain ⟨iu_5, fu_5, xu_5⟩ := k_6
  have F_7 := F_3.trans (fu_5.to (p1_sub rfl))
  have g_8 : FF S u_5 (fl []) := FF.fr g_4 fu_5 rfl
  have hpcp : 0 < u_5.2.1 280 0 := by rw [xu_5.1.2.2]; exact xu_1.1.sgn.2.1.mp xu_1.2
  refine lv_aload_n hx hb dX12_lower_22 rfl (lv_at hl 0 rfl) ?_
  refine lv_aload_n hx hb dX12_lower_23 rfl (lv_at hl 3 rfl) ?_
  refine lv_iload hx hb dX12_lower_24 (lv_at hl 4 rfl) ?_
  refine lv_aload_n hx hb dX12_lower_26 rfl (lv_at hl 0 rfl) ?_
  refine g_X12_160 Cx hW (k := 231) (by decide) rfl (v := .ref (G.2.2.1 + 280)) (rd_90 iu_5) dX12_lower_27 ?_
  refine lv_iconst (v := iv 0) hx hb dX12_lower_30 (by decide) ?_
  refine lv_aload_n hx hb dX12_lower_31 rfl (lv_at hl 0 rfl) ?_
  refine g_X12_29 Cx hW (k := 231) (by decide) rfl (v := .ref (G.2.2.1 + 238)) (rd_8 iu_5) dX12_lower_32 ?_
  refine lv_iconst (v := iv 0) hx hb dX12_lower_35 (by decide) ?_
  refine lv_aload_n hx hb dX12_lower_36 rfl (lv_at hl 0 rfl) ?_
  refine g_X12_35 Cx hW (k := 231) (by decide) rfl (v := .ref (G.2.2.1 + 240)) (rd_10 iu_5) dX12_lower_37 ?_
  refine lv_iconst (v := iv 0) hx hb dX12_lower_40 (by decide) ?_
  have hbp41 : 0 < u_5.2.1 280 0 := by rw [show u_5.2.1 280 = u_5.2.1 280 from (funext fun j => rfl)]; exact hpcp
  refine sBv (sV (As := [.ref (G.2.2.1 + kb), .int (iv qo), .ref (G.2.2.1 + 280), .int (iv 0), .ref (G.2.2.1 + 238), .int (iv 0), .ref (G.2.2.1 + 240), .int (iv 0)]) (rest := []) (k := 231) Cx (s_X12_divide l G u_5 (ka := kb) (po := qo) (kb := 280) (qo := 0) (kc := 238) (ro := 0) (kd := 240) (eo := 0) (Nka := Nkb) (Nkb := 68) (Nkc := 68) (Nkd := 68) (La := 6) (Lb := 6) (Ld := 7) iu_5 hikb ⟨rfl, by decide, by decide, by decide, rfl⟩ ⟨rfl, by decide, by decide, by decide, rfl⟩ ⟨rfl, by decide, by decide, by decide, rfl⟩ (neS nkb238) (neS nkb240) (show (238 : Nat) ≠ 280 by decide) (show (240 : Nat) ≠ 280 by decide) (show (238 : Nat) ≠ 240 by decide) (neD nkb233) (show (280 : Nat) ≠ 233 by decide) (show (280 : Nat) ≠ 234 by decide) (show (280 : Nat) ≠ 235 by decide) (show (238 : Nat) ≠ 233 by decide) (show (238 : Nat) ≠ 234 by decide) (show (238 : Nat) ≠ 235 by decide) (show (240 : Nat) ≠ 233 by decide) (show (240 : Nat) ≠ 234 by decide) (show (240 : Nat) ≠ 235 by decide) (by omega) (by omega) (by rw [show u_5.2.1 kb = S.2.1 kb from (funext fun j => ((fu_5 kb (p1_no (neD nkb280))).2.1 j).trans ((fu_1 kb (pl_c (neD nkb233) (pl_c (neD nkb234) (pl_c (neD nkb235) (pl_c (neD nkb239) (pl_c (neD nkb240) (pl_c (neD nkb241) (pl_c (neD nkb242) rfl)))))))).2.1 j))]; exact hB) xu_5.1.1) (c_X12_266 Cx rfl rfl (rmk_ok (by omega) (by decide))) hW (by decide) rfl rfl rfl hl.1 rfl (Nat.le_of_ble_eq_true rfl) dX12_lower_41 ⟨Nat.le_of_ble_eq_true rfl, Nat.le_of_ble_eq_true rfl⟩) hL (fun u_9 H locs k_10 hW hL => ?_)
  obtain ⟨iu_9, fu_9, xu_9⟩ := k_10
  have F_11 := F_7.trans (fu_9.to (pl_sub (by decide)))
  have g_12 : FF S u_9 (fl []) := FF.fr g_8 fu_9 rfl
  refine lv_aload_n hx hb dX12_lower_44 rfl (lv_at hl 0 rfl) ?_
  refine lv_aload_n hx hb dX12_lower_45 rfl (lv_at hl 1 rfl) ?_
  refine lv_iload_n hx hb dX12_lower_46 rfl (lv_at hl 2 rfl) ?_
  refine lv_aload_n hx hb dX12_lower_47 rfl (lv_at hl 0 rfl) ?_
  refine g_X12_160 Cx hW (k := 231) (by decide) rfl (v := .ref (G.2.2.1 + 280)) (rd_90 iu_9) dX12_lower_48 ?_
  refine lv_iconst (v := iv 0) hx hb dX12_lower_51 (by decide) ?_
  refine lv_aload_n hx hb dX12_lower_52 rfl (lv_at hl 0 rfl) ?_
  refine g_X12_26 Cx hW (k := 231) (by decide) rfl (v := .ref (G.2.2.1 + 237)) (rd_7 iu_9) dX12_lower_53 ?_
  refine lv_iconst (v := iv 0) hx hb dX12_lower_56 (by decide) ?_
  refine lv_aload_n hx hb dX12_lower_57 rfl (lv_at hl 0 rfl) ?_
  refine g_X12_35 Cx hW (k := 231) (by decide) rfl (v := .ref (G.2.2.1 + 240)) (rd_10 iu_9) dX12_lower_58 ?_
  refine lv_iconst (v := iv 0) hx hb dX12_lower_61 (by decide) ?_
  have hbp62 : 0 < u_9.2.1 280 0 := by rw [show u_9.2.1 280 = u_5.2.1 280 from (funext fun j => (fu_9 280 rfl).2.1 j)]; exact hpcp
  refine sBv (sV (As := [.ref (G.2.2.1 + ka), .int (iv po), .ref (G.2.2.1 + 280), .int (iv 0), .ref (G.2.2.1 + 237), .int (iv 0), .ref (G.2.2.1 + 240), .int (iv 0)]) (rest := []) (k := 231) Cx (s_X12_divide l G u_9 (ka := ka) (po := po) (kb := 280) (qo := 0) (kc := 237) (ro := 0) (kd := 240) (eo := 0) (Nka := Nka) (Nkb := 68) (Nkc := 68) (Nkd := 68) (La := 6) (Lb := 6) (Ld := 7) iu_9 hika ⟨rfl, by decide, by decide, by decide, rfl⟩ ⟨rfl, by decide, by decide, by decide, rfl⟩ ⟨rfl, by decide, by decide, by decide, rfl⟩ (neS nka237) (neS nka240) (show (237 : Nat) ≠ 280 by decide) (show (240 : Nat) ≠ 280 by decide) (show (237 : Nat) ≠ 240 by decide) (neD nka233) (show (280 : Nat) ≠ 233 by decide) (show (280 : Nat) ≠ 234 by decide) (show (280 : Nat) ≠ 235 by decide) (show (237 : Nat) ≠ 233 by decide) (show (237 : Nat) ≠ 234 by decide) (show (237 : Nat) ≠ 235 by decide) (show (240 : Nat) ≠ 233 by decide) (show (240 : Nat) ≠ 234 by decide) (show (240 : Nat) ≠ 235 by decide) (by omega) (by omega) (by rw [show u_9.2.1 ka = S.2.1 ka from (funext fun j => ((fu_9 ka (pl_c (neD nka233) (pl_c (neD nka234) (pl_c (neD nka235) (pl_c (neD nka238) (pl_c (neD nka240) rfl)))))).2.1 j).trans (((fu_5 ka (p1_no (neD nka280))).2.1 j).trans ((fu_1 ka (pl_c (neD nka233) (pl_c (neD nka234) (pl_c (neD nka235) (pl_c (neD nka239) (pl_c (neD nka240) (pl_c (neD nka241) (pl_c (neD nka242) rfl)))))))).2.1 j)))]; exact hA) (by rw [show u_9.2.1 280 = u_5.2.1 280 from (funext fun j => (fu_9 280 rfl).2.1 j)]; exact xu_5.1.1)) (c_X12_266 Cx rfl rfl (rmk_ok (by omega) (by decide))) hW (by decide) rfl rfl rfl hl.1 rfl (Nat.le_of_ble_eq_true rfl) dX12_lower_62 ⟨Nat.le_of_ble_eq_true rfl, Nat.le_of_ble_eq_true rfl⟩) hL (fun u_13 H locs k_14 hW hL => ?_)
  obtain ⟨iu_13, fu_13, xu_13⟩ := k_14
  have F_15 := F_11.trans (fu_13.to (pl_sub (by decide)))
  have g_16 : FF S u_13 (fl []) := FF.fr g_12 fu_13 rfl
  exact sVret Cx hr hlk hW hL ⟨iu_13, F_15, g_16, ⟨xu_13.1, (by rw [show u_13.2.1 238 = u_9.2.1 238 from (funext fun j => (fu_13 238 rfl).2.1 j)]; exact xu_9.1)⟩⟩ dX12_lower_65

set_option maxRecDepth 100000 in
set_option maxHeartbeats 4000000 in
theorem s_X12_sayPoint (l : Launch) (G : sG) (S : sS) {ka kb Nka Nkb : Nat} {po qo : Int} (hI : dX G S) (hika : ia ka Nka) (hikb : ia kb Nkb) (nka231 : Hd (ka ≠ 231)) (nka233 : Hd (ka ≠ 233)) (nka234 : Hd (ka ≠ 234)) (nka235 : Hd (ka ≠ 235)) (nka236 : Hd (ka ≠ 236)) (nka237 : Hd (ka ≠ 237)) (nka239 : Hd (ka ≠ 239)) (nka240 : Hd (ka ≠ 240)) (nka241 : Hd (ka ≠ 241)) (nka242 : Hd (ka ≠ 242)) (nka276 : Hd (ka ≠ 276)) (nka280 : Hd (ka ≠ 280)) (nkb231 : Hd (kb ≠ 231)) (nkb233 : Hd (kb ≠ 233)) (nkb234 : Hd (kb ≠ 234)) (nkb235 : Hd (kb ≠ 235)) (nkb236 : Hd (kb ≠ 236)) (nkb237 : Hd (kb ≠ 237)) (nkb239 : Hd (kb ≠ 239)) (nkb240 : Hd (kb ≠ 240)) (nkb241 : Hd (kb ≠ 241)) (nkb242 : Hd (kb ≠ 242)) (nkb276 : Hd (kb ≠ 276)) (nkb280 : Hd (kb ≠ 280)) (hR : (0 ≤ po ∧ po + 102 < Nka) ∧ 0 ≤ qo ∧ qo + 6 < Nkb) (hM : MD S) (hA : ∀ j, 1 ≤ j → j ≤ S.1 231 46 → NO (S.2.1 ka) (po + 8 * j) 6) (hB : NO (S.2.1 kb) qo 6) (hps : 0 < nv (S.2.1 kb) qo) (h86 : 0 ≤ S.1 231 86 ∧ S.1 231 86 ≤ 3000) : Met l yX12_sayPoint (.code yX12_sayPoint cX12_sayPoint 6 none :: tb) (rmk 7 0 0) (sPc G 294 S [.ref (G.2.2.1 + 231), .ref (G.2.2.1 + ka), .int (iv po), .ref (G.2.2.1 + kb), .int (iv qo)]) (sQv G 294 (fun u => dX G u ∧ Fr S u (pl [231, 233, 234, 235, 236, 237, 239, 240, 241, 242, 276, 280]) ∧ FF S u (fl [6, 86]) ∧ (S.1 231 86 ≤ u.1 231 86 ∧ u.1 231 86 ≤ S.1 231 86 + 900))) 0 0 (sF G) := by
  refine sEnter (by decide) (Nat.le_of_ble_eq_true rfl) ?_
  intro p e s m args below meth c Cx hr hlk hnm hW ls hl
  have Cx : sC G p m c cX12_sayPoint 6 s args RX12 := Cx
  obtain ⟨hx, hb, hml, hown, hts⟩ := id Cx.1
  have hL : sL G [] := sL_nil
  have hl : lv_has ls 6 [(0, .ref (G.2.2.1 + 231)), (1, .ref (G.2.2.1 + ka)), (2, .int (iv po)), (3, .ref (G.2.2.1 + kb)), (4, .int (iv qo))] := hl
  have hW0 := hW
  have hm1 : (0 ≤ S.1 231 46 ∧ S.1 231 46 ≤ 12) ∧ (0 ≤ S.1 231 47 ∧ S.1 231 47 ≤ 16) ∧ 0 ≤ S.1 231 63 ∧ S.1 231 63 ≤ 40 := hM
  have hNa := hika.2.2.2.1
  have hNb := hikb.2.2.2.1
  refine lv_aload_n hx hb dX12_sayPoint_0 rfl (lv_at hl 3 rfl) ?_
  refine lv_iload hx hb dX12_sayPoint_1 (lv_at hl 4 rfl) ?_
  refine lv_aload_n hx hb dX12_sayPoint_3 rfl (lv_at hl 0 rfl) ?_
  refine g_X12_160 Cx hW (k := 231) (by decide) rfl (v := .ref (G.2.2.1 + 280)) (rd_90 hI) dX12_sayPoint_4 ?_
  refine lv_iconst (v := iv 0) hx hb dX12_sayPoint_7 (by decide) ?_
  refine sBv (sSt (As := [.ref (G.2.2.1 + kb), .int (iv qo), .ref (G.2.2.1 + 280), .int (iv 0)]) (rest := []) Cx (s_X12_copy l G S (ka := kb) (po := qo) (kb := 280) (qo := 0) (Nka := Nkb) (Nkb := 68) (La := 6) hI hikb ⟨rfl, by decide, by decide, by decide, rfl⟩ (neS nkb280) (by omega) hB) (c_X12_233 Cx rfl rfl (rmk_ok (by omega) (by decide))) hW rfl hl.1 rfl (Nat.le_of_ble_eq_true rfl) dX12_sayPoint_8 ⟨Nat.le_of_ble_eq_true rfl, Nat.le_of_ble_eq_true rfl⟩) hL (fun u_1 H locs k_2 hW hL => ?_)
  obtain ⟨iu_1, fu_1, xu_1⟩ := k_2
  have F_3 := (Fr.rf : Fr S S (pl [231, 233, 234, 235, 236, 237, 239, 240, 241, 242, 276, 280])).trans (fu_1.to (p1_sub rfl))
  have g_4 : FF S u_1 (fl [6, 86]) := FF.fr FF.rf fu_1 rfl
  refine lv_iconst (v := iv 1) hx hb dX12_sayPoint_11 (by decide) ?_
  refine lv_istore (lv' := [(5, .int (iv 1)), (0, .ref (G.2.2.1 + 231)), (1, .ref (G.2.2.1 + ka)), (2, .int (iv po)), (3, .ref (G.2.2.1 + kb)), (4, .int (iv qo))]) hx hb dX12_sayPoint_12 hl (by decide) rfl (fun ls hl => ?_)
  have loop_14 : ∀ (fuel : Nat) (S14 : sS) (j : Int) (H : Heap) (locs : List Loc) (ls : Array Slot), (S.1 231 46 + 1 - j).toNat < fuel → (dX G S14) → (Fr S S14 (pl [231, 233, 234, 235, 236, 237, 239, 240, 241, 242, 276, 280])) → (Fr u_1 S14 (pl [233, 234, 235, 239, 240, 241, 242, 280])) → (FF S S14 (fl [6, 86])) → (FF u_1 S14 (fl [])) → (1 ≤ j ∧ j ≤ S.1 231 46 + 1) → (NO (S14.2.1 280) 0 6) → (0 < nv (S14.2.1 280) 0) → sW G 294 S14 H → sL G locs → lv_has ls 6 [(5, .int (iv j)), (0, .ref (G.2.2.1 + 231)), (1, .ref (G.2.2.1 + ka)), (2, .int (iv po)), (3, .ref (G.2.2.1 + kb)), (4, .int (iv qo))] → W p l e (rmk 7 0 0) s m args below meth c H locs 0 0 (MQ below (sQv G 294 (fun u => dX G u ∧ Fr S u (pl [231, 233, 234, 235, 236, 237, 239, 240, 241, 242, 276, 280]) ∧ FF S u (fl [6, 86]) ∧ (S.1 231 86 ≤ u.1 231 86 ∧ u.1 231 86 ≤ S.1 231 86 + 900))) args s 0 0 (sF G)) (F0 m 14 ls []) := by
    intro fuel
    induction fuel with
    | zero => intro S14 j H locs ls hmeas hI14 hFm14 hL14_ hGm14 gL14_ hj hN14 hP14 hW hL hl; exact absurd hmeas (Nat.not_lt_zero _)
    | succ fuel ih_14 =>
      intro S14 j H locs ls hmeas hI14 hFm14 hL14_ hGm14 gL14_ hj hN14 hP14 hW hL hl
      refine lv_iload hx hb dX12_sayPoint_14 (lv_at hl 0 rfl) ?_
      refine lv_aload_n hx hb dX12_sayPoint_16 rfl (lv_at hl 1 rfl) ?_
      have q_5 : (-2147483648) ≤ S.1 231 46 ∧ S.1 231 46 ≤ 2147483647 := hI.fi 46
      refine g_X12_465 Cx hW (k := 231) (by decide) rfl (v := S.1 231 46) ((gL14_ 46 rfl).trans ((fu_1 231 rfl).1 46)) dX12_sayPoint_17 ?_
      refine r_icmp_gt (tgt := 59) hx hb ⟨(by omega), (by omega)⟩ ⟨(by omega), (by omega)⟩ dX12_sayPoint_20 (by decide) (fun c_6 => ?_) (fun c_6 => ?_)
      · refine lv_iconst (v := iv 1) hx hb dX12_sayPoint_59 (by decide) ?_
        refine lv_istore (lv' := [(5, .int (iv 1)), (0, .ref (G.2.2.1 + 231)), (1, .ref (G.2.2.1 + ka)), (2, .int (iv po)), (3, .ref (G.2.2.1 + kb)), (4, .int (iv qo))]) hx hb dX12_sayPoint_60 hl (by decide) rfl (fun ls hl => ?_)
        have loop_62 : ∀ (fuel : Nat) (S62 : sS) (j : Int) (H : Heap) (locs : List Loc) (ls : Array Slot), (S.1 231 46 + 1 - j).toNat < fuel → (dX G S62) → (Fr S S62 (pl [231, 233, 234, 235, 236, 237, 239, 240, 241, 242, 276, 280])) → (Fr S14 S62 (pl [231, 233, 234, 235, 236, 237, 240, 276])) → (FF S S62 (fl [6, 86])) → (FF S14 S62 (fl [6, 86])) → (1 ≤ j ∧ j ≤ S.1 231 46 + 1) → (S.1 231 86 ≤ S62.1 231 86 ∧ S62.1 231 86 ≤ S.1 231 86 + 66 * (j - 1)) → sW G 294 S62 H → sL G locs → lv_has ls 6 [(5, .int (iv j)), (0, .ref (G.2.2.1 + 231)), (1, .ref (G.2.2.1 + ka)), (2, .int (iv po)), (3, .ref (G.2.2.1 + kb)), (4, .int (iv qo))] → W p l e (rmk 7 0 0) s m args below meth c H locs 0 0 (MQ below (sQv G 294 (fun u => dX G u ∧ Fr S u (pl [231, 233, 234, 235, 236, 237, 239, 240, 241, 242, 276, 280]) ∧ FF S u (fl [6, 86]) ∧ (S.1 231 86 ≤ u.1 231 86 ∧ u.1 231 86 ≤ S.1 231 86 + 900))) args s 0 0 (sF G)) (F0 m 62 ls []) := by
          intro fuel
          induction fuel with
          | zero => intro S62 j H locs ls hmeas hI62 hFm62 hL62_ hGm62 gL62_ hj h62 hW hL hl; exact absurd hmeas (Nat.not_lt_zero _)
          | succ fuel ih_62 =>
            intro S62 j H locs ls hmeas hI62 hFm62 hL62_ hGm62 gL62_ hj h62 hW hL hl
            refine lv_iload hx hb dX12_sayPoint_62 (lv_at hl 0 rfl) ?_
            refine lv_aload_n hx hb dX12_sayPoint_64 rfl (lv_at hl 1 rfl) ?_
            refine g_X12_465 Cx hW (k := 231) (by decide) rfl (v := S.1 231 46) ((gL62_ 46 rfl).trans ((gL14_ 46 rfl).trans ((fu_1 231 rfl).1 46))) dX12_sayPoint_65 ?_
            refine r_icmp_gt (tgt := 122) hx hb ⟨(by omega), (by omega)⟩ ⟨(by omega), (by omega)⟩ dX12_sayPoint_68 (by decide) (fun c_7 => ?_) (fun c_7 => ?_)
            · refine lv_aload_n hx hb dX12_sayPoint_122 rfl (lv_at hl 1 rfl) ?_
              refine zLdcw Cx 28 (by decide) ⟨rfl, rfl⟩ dX12_sayPoint_123 ?_
              have q_8 : (-2147483648) ≤ S62.1 231 86 ∧ S62.1 231 86 ≤ 2147483647 := hI62.fi 86
              refine sBv (sV (As := [.ref (G.1.2 100 28)]) (rest := []) (k := 231) Cx (s_X12_say l G S62 (si := 28) hI62 (by decide) (by omega)) (c_X12_666 Cx rfl rfl (rmk_ok (by omega) (by decide))) hW (by decide) rfl rfl rfl hl.1 rfl (Nat.le_of_ble_eq_true rfl) dX12_sayPoint_126 ⟨Nat.le_of_ble_eq_true rfl, Nat.le_of_ble_eq_true rfl⟩) hL (fun u_9 H locs k_10 hW hL => ?_)
              obtain ⟨iu_9, fu_9, gu_9, xu_9⟩ := k_10
              have F_11 := hFm62.trans (fu_9.to (pl_sub (by decide)))
              have F_12 := hL62_.trans (fu_9.to (pl_sub (by decide)))
              have g_13 : FF S u_9 (fl [6, 86]) := FF.trans hGm62 (FF.to gu_9 (fl_sub (by decide)))
              have g_14 : FF S14 u_9 (fl [6, 86]) := FF.trans gL62_ (FF.to gu_9 (fl_sub (by decide)))
              have hsu_9 : ((strN.getD 28 0 : Nat) : Int) = 1 := rfl
              refine lv_aload_n hx hb dX12_sayPoint_129 rfl (lv_at hl 1 rfl) ?_
              refine lv_aload_n hx hb dX12_sayPoint_130 rfl (lv_at hl 4 rfl) ?_
              refine lv_iload hx hb dX12_sayPoint_131 (lv_at hl 5 rfl) ?_
              refine lv_aload_n hx hb dX12_sayPoint_133 rfl (lv_at hl 1 rfl) ?_
              refine g_X12_160 Cx hW (k := 231) (by decide) rfl (v := .ref (G.2.2.1 + 280)) (rd_90 iu_9) dX12_sayPoint_134 ?_
              refine lv_iconst (v := iv 0) hx hb dX12_sayPoint_137 (by decide) ?_
              refine lv_aload_n hx hb dX12_sayPoint_138 rfl (lv_at hl 1 rfl) ?_
              refine g_X12_26 Cx hW (k := 231) (by decide) rfl (v := .ref (G.2.2.1 + 237)) (rd_7 iu_9) dX12_sayPoint_139 ?_
              refine lv_iconst (v := iv 0) hx hb dX12_sayPoint_142 (by decide) ?_
              refine lv_aload_n hx hb dX12_sayPoint_143 rfl (lv_at hl 1 rfl) ?_
              refine g_X12_35 Cx hW (k := 231) (by decide) rfl (v := .ref (G.2.2.1 + 240)) (rd_10 iu_9) dX12_sayPoint_144 ?_
              refine lv_iconst (v := iv 0) hx hb dX12_sayPoint_147 (by decide) ?_
              have hbp148 : 0 < u_9.2.1 280 0 := by rw [show u_9.2.1 280 = S14.2.1 280 from (funext fun j => ((fu_9 280 rfl).2.1 j).trans ((hL62_ 280 rfl).2.1 j))]; exact hN14.sgn.2.1.mp hP14
              refine sBv (sV (As := [.ref (G.2.2.1 + kb), .int (iv qo), .ref (G.2.2.1 + 280), .int (iv 0), .ref (G.2.2.1 + 237), .int (iv 0), .ref (G.2.2.1 + 240), .int (iv 0)]) (rest := []) (k := 231) Cx (s_X12_divide l G u_9 (ka := kb) (po := qo) (kb := 280) (qo := 0) (kc := 237) (ro := 0) (kd := 240) (eo := 0) (Nka := Nkb) (Nkb := 68) (Nkc := 68) (Nkd := 68) (La := 6) (Lb := 6) (Ld := 7) iu_9 hikb ⟨rfl, by decide, by decide, by decide, rfl⟩ ⟨rfl, by decide, by decide, by decide, rfl⟩ ⟨rfl, by decide, by decide, by decide, rfl⟩ (neS nkb237) (neS nkb240) (show (237 : Nat) ≠ 280 by decide) (show (240 : Nat) ≠ 280 by decide) (show (237 : Nat) ≠ 240 by decide) (neD nkb233) (show (280 : Nat) ≠ 233 by decide) (show (280 : Nat) ≠ 234 by decide) (show (280 : Nat) ≠ 235 by decide) (show (237 : Nat) ≠ 233 by decide) (show (237 : Nat) ≠ 234 by decide) (show (237 : Nat) ≠ 235 by decide) (show (240 : Nat) ≠ 233 by decide) (show (240 : Nat) ≠ 234 by decide) (show (240 : Nat) ≠ 235 by decide) (by omega) (by omega) (by rw [show u_9.2.1 kb = S.2.1 kb from (funext fun j => ((fu_9 kb (pl_c (neD nkb231) (pl_c (neD nkb276) rfl))).2.1 j).trans (((hL62_ kb (pl_c (neD nkb231) (pl_c (neD nkb233) (pl_c (neD nkb234) (pl_c (neD nkb235) (pl_c (neD nkb236) (pl_c (neD nkb237) (pl_c (neD nkb240) (pl_c (neD nkb276) rfl))))))))).2.1 j).trans (((hL14_ kb (pl_c (neD nkb233) (pl_c (neD nkb234) (pl_c (neD nkb235) (pl_c (neD nkb239) (pl_c (neD nkb240) (pl_c (neD nkb241) (pl_c (neD nkb242) (pl_c (neD nkb280) rfl))))))))).2.1 j).trans ((fu_1 kb (p1_no (neD nkb280))).2.1 j))))]; exact hB) (by rw [show u_9.2.1 280 = S14.2.1 280 from (funext fun j => ((fu_9 280 rfl).2.1 j).trans ((hL62_ 280 rfl).2.1 j))]; exact hN14)) (c_X12_266 Cx rfl rfl (rmk_ok (by omega) (by decide))) hW (by decide) rfl rfl rfl hl.1 rfl (Nat.le_of_ble_eq_true rfl) dX12_sayPoint_148 ⟨Nat.le_of_ble_eq_true rfl, Nat.le_of_ble_eq_true rfl⟩) hL (fun u_15 H locs k_16 hW hL => ?_)
              obtain ⟨iu_15, fu_15, xu_15⟩ := k_16
              have F_17 := F_11.trans (fu_15.to (pl_sub (by decide)))
              have F_18 := F_12.trans (fu_15.to (pl_sub (by decide)))
              have g_19 : FF S u_15 (fl [6, 86]) := FF.fr g_13 fu_15 rfl
              have g_20 : FF S14 u_15 (fl [6, 86]) := FF.fr g_14 fu_15 rfl
              refine lv_aload_n hx hb dX12_sayPoint_151 rfl (lv_at hl 1 rfl) ?_
              refine lv_iconst (v := iv 0) hx hb dX12_sayPoint_152 (by decide) ?_
              refine p_X12_259 Cx hW hL (k := 231) (by decide) rfl dX12_sayPoint_153 (fun H locs hW hL => ?_)
              have F_21 : Fr S (uF u_15 231 6 0) (pl [231, 233, 234, 235, 236, 237, 239, 240, 241, 242, 276, 280]) := F_17.F rfl
              have F_22 : Fr S14 (uF u_15 231 6 0) (pl [231, 233, 234, 235, 236, 237, 240, 276]) := F_18.F rfl
              have g_23 : FF S (uF u_15 231 6 0) (fl [6, 86]) := FF.F g_19 rfl
              have g_24 : FF S14 (uF u_15 231 6 0) (fl [6, 86]) := FF.F g_20 rfl
              have i_25 : dX G (uF u_15 231 6 0) := iu_15.F (i := 6) (show (-2147483648) ≤ 0 ∧ 0 ≤ 2147483647 from ⟨by omega, by omega⟩)
              refine lv_aload_n hx hb dX12_sayPoint_156 rfl (lv_at hl 1 rfl) ?_
              refine lv_aload_n hx hb dX12_sayPoint_157 rfl (lv_at hl 1 rfl) ?_
              refine g_X12_26 Cx hW (k := 231) (by decide) rfl (v := .ref (G.2.2.1 + 237)) (rd_7 i_25) dX12_sayPoint_158 ?_
              refine lv_iconst (v := iv 0) hx hb dX12_sayPoint_161 (by decide) ?_
              have lk_26 : (uF u_15 231 6 0).1 231 6 = 0 := uF_on
              refine sBv (sV (As := [.ref (G.2.2.1 + 237), .int (iv 0)]) (rest := []) (k := 231) Cx (s_X12_spell l G (uF u_15 231 6 0) (ka := 237) (po := 0) (Nka := 68) (La := 7) i_25 ⟨rfl, by decide, by decide, by decide, rfl⟩ (by omega) (by omega) (by rw [show (uF u_15 231 6 0).2.1 237 = u_15.2.1 237 from (funext fun j => uF_a)]; exact xu_15.1) (show (237 : Nat) ≠ 231 by decide) (show (237 : Nat) ≠ 236 by decide)) (c_X12_594 Cx rfl rfl (rmk_ok (by omega) (by decide))) hW (by decide) rfl rfl rfl hl.1 rfl (Nat.le_of_ble_eq_true rfl) dX12_sayPoint_162 ⟨Nat.le_of_ble_eq_true rfl, Nat.le_of_ble_eq_true rfl⟩) hL (fun u_27 H locs k_28 hW hL => ?_)
              obtain ⟨iu_27, fu_27, gu_27, xu_27⟩ := k_28
              have F_29 := F_21.trans (fu_27.to (pl_sub (by decide)))
              have F_30 := F_22.trans (fu_27.to (pl_sub (by decide)))
              have g_31 : FF S u_27 (fl [6, 86]) := FF.trans g_23 (FF.to gu_27 (fl_sub (by decide)))
              have g_32 : FF S14 u_27 (fl [6, 86]) := FF.trans g_24 (FF.to gu_27 (fl_sub (by decide)))
              refine lv_aload_n hx hb dX12_sayPoint_165 rfl (lv_at hl 1 rfl) ?_
              have q_33 : (-2147483648) ≤ u_9.1 231 86 ∧ u_9.1 231 86 ≤ 2147483647 := iu_9.fi 86
              have lk_34 : u_27.1 231 86 = u_9.1 231 86 := (gu_27 86 rfl).trans ((uF_ne (fun h => absurd h.2 (by decide))).trans ((fu_15 231 rfl).1 86))
              have q_35 : (-2147483648) ≤ u_27.1 231 6 ∧ u_27.1 231 6 ≤ 2147483647 := iu_27.fi 6
              refine sBv (sV (As := []) (rest := []) (k := 231) Cx (s_X12_sayLetters l G u_27  iu_27 (by omega) (by omega)) (c_X12_661 Cx rfl rfl (rmk_ok (by omega) (by decide))) hW (by decide) rfl rfl rfl hl.1 rfl (Nat.le_of_ble_eq_true rfl) dX12_sayPoint_166 ⟨Nat.le_of_ble_eq_true rfl, Nat.le_of_ble_eq_true rfl⟩) hL (fun u_36 H locs k_37 hW hL => ?_)
              obtain ⟨iu_36, fu_36, gu_36, xu_36⟩ := k_37
              have F_38 := F_29.trans (fu_36.to (pl_sub (by decide)))
              have F_39 := F_30.trans (fu_36.to (pl_sub (by decide)))
              have g_40 : FF S u_36 (fl [6, 86]) := FF.trans g_31 (FF.to gu_36 (fl_sub (by decide)))
              have g_41 : FF S14 u_36 (fl [6, 86]) := FF.trans g_32 (FF.to gu_36 (fl_sub (by decide)))
              have q_42 : (-2147483648) ≤ u_36.1 231 86 ∧ u_36.1 231 86 ≤ 2147483647 := iu_36.fi 86
              exact sVret Cx hr hlk hW hL ⟨iu_36, F_38, g_40, (by omega)⟩ dX12_sayPoint_169
            · refine lv_aload_n hx hb dX12_sayPoint_71 rfl (lv_at hl 1 rfl) ?_
              refine lv_aload_n hx hb dX12_sayPoint_72 rfl (lv_at hl 2 rfl) ?_
              refine lv_iload_n hx hb dX12_sayPoint_73 rfl (lv_at hl 3 rfl) ?_
              refine lv_bipush (v := iv 8) hx hb dX12_sayPoint_74 (by decide) ?_
              refine lv_iload hx hb dX12_sayPoint_76 (lv_at hl 0 rfl) ?_
              refine r_imul hx hb dX12_sayPoint_78 ?_
              refine r_iadd hx hb dX12_sayPoint_79 ?_
              refine lv_aload_n hx hb dX12_sayPoint_80 rfl (lv_at hl 1 rfl) ?_
              refine g_X12_160 Cx hW (k := 231) (by decide) rfl (v := .ref (G.2.2.1 + 280)) (rd_90 hI62) dX12_sayPoint_81 ?_
              refine lv_iconst (v := iv 0) hx hb dX12_sayPoint_84 (by decide) ?_
              refine lv_aload_n hx hb dX12_sayPoint_85 rfl (lv_at hl 1 rfl) ?_
              refine g_X12_26 Cx hW (k := 231) (by decide) rfl (v := .ref (G.2.2.1 + 237)) (rd_7 hI62) dX12_sayPoint_86 ?_
              refine lv_iconst (v := iv 0) hx hb dX12_sayPoint_89 (by decide) ?_
              refine lv_aload_n hx hb dX12_sayPoint_90 rfl (lv_at hl 1 rfl) ?_
              refine g_X12_35 Cx hW (k := 231) (by decide) rfl (v := .ref (G.2.2.1 + 240)) (rd_10 hI62) dX12_sayPoint_91 ?_
              refine lv_iconst (v := iv 0) hx hb dX12_sayPoint_94 (by decide) ?_
              have hbp95 : 0 < S62.2.1 280 0 := by rw [show S62.2.1 280 = S14.2.1 280 from (funext fun j => (hL62_ 280 rfl).2.1 j)]; exact hN14.sgn.2.1.mp hP14
              refine sBv (sV (As := [.ref (G.2.2.1 + ka), .int (iv (po + (8 * j))), .ref (G.2.2.1 + 280), .int (iv 0), .ref (G.2.2.1 + 237), .int (iv 0), .ref (G.2.2.1 + 240), .int (iv 0)]) (rest := []) (k := 231) Cx (s_X12_divide l G S62 (ka := ka) (po := po + (8 * j)) (kb := 280) (qo := 0) (kc := 237) (ro := 0) (kd := 240) (eo := 0) (Nka := Nka) (Nkb := 68) (Nkc := 68) (Nkd := 68) (La := 6) (Lb := 6) (Ld := 7) hI62 hika ⟨rfl, by decide, by decide, by decide, rfl⟩ ⟨rfl, by decide, by decide, by decide, rfl⟩ ⟨rfl, by decide, by decide, by decide, rfl⟩ (neS nka237) (neS nka240) (show (237 : Nat) ≠ 280 by decide) (show (240 : Nat) ≠ 280 by decide) (show (237 : Nat) ≠ 240 by decide) (neD nka233) (show (280 : Nat) ≠ 233 by decide) (show (280 : Nat) ≠ 234 by decide) (show (280 : Nat) ≠ 235 by decide) (show (237 : Nat) ≠ 233 by decide) (show (237 : Nat) ≠ 234 by decide) (show (237 : Nat) ≠ 235 by decide) (show (240 : Nat) ≠ 233 by decide) (show (240 : Nat) ≠ 234 by decide) (show (240 : Nat) ≠ 235 by decide) (by omega) (by omega) (by rw [show S62.2.1 ka = S.2.1 ka from (funext fun j => ((hL62_ ka (pl_c (neD nka231) (pl_c (neD nka233) (pl_c (neD nka234) (pl_c (neD nka235) (pl_c (neD nka236) (pl_c (neD nka237) (pl_c (neD nka240) (pl_c (neD nka276) rfl))))))))).2.1 j).trans (((hL14_ ka (pl_c (neD nka233) (pl_c (neD nka234) (pl_c (neD nka235) (pl_c (neD nka239) (pl_c (neD nka240) (pl_c (neD nka241) (pl_c (neD nka242) (pl_c (neD nka280) rfl))))))))).2.1 j).trans ((fu_1 ka (p1_no (neD nka280))).2.1 j)))]; exact hA j (by omega) (by omega)) (by rw [show S62.2.1 280 = S14.2.1 280 from (funext fun j => (hL62_ 280 rfl).2.1 j)]; exact hN14)) (c_X12_266 Cx rfl rfl (rmk_ok (by omega) (by decide))) hW (by decide) rfl rfl rfl hl.1 rfl (Nat.le_of_ble_eq_true rfl) dX12_sayPoint_95 ⟨Nat.le_of_ble_eq_true rfl, Nat.le_of_ble_eq_true rfl⟩) hL (fun u_43 H locs k_44 hW hL => ?_)
              obtain ⟨iu_43, fu_43, xu_43⟩ := k_44
              have F_45 := hFm62.trans (fu_43.to (pl_sub (by decide)))
              have F_46 := hL62_.trans (fu_43.to (pl_sub (by decide)))
              have g_47 : FF S u_43 (fl [6, 86]) := FF.fr hGm62 fu_43 rfl
              have g_48 : FF S14 u_43 (fl [6, 86]) := FF.fr gL62_ fu_43 rfl
              refine lv_aload_n hx hb dX12_sayPoint_98 rfl (lv_at hl 1 rfl) ?_
              refine lv_iconst (v := iv 0) hx hb dX12_sayPoint_99 (by decide) ?_
              refine p_X12_259 Cx hW hL (k := 231) (by decide) rfl dX12_sayPoint_100 (fun H locs hW hL => ?_)
              have F_49 : Fr S (uF u_43 231 6 0) (pl [231, 233, 234, 235, 236, 237, 239, 240, 241, 242, 276, 280]) := F_45.F rfl
              have F_50 : Fr S14 (uF u_43 231 6 0) (pl [231, 233, 234, 235, 236, 237, 240, 276]) := F_46.F rfl
              have g_51 : FF S (uF u_43 231 6 0) (fl [6, 86]) := FF.F g_47 rfl
              have g_52 : FF S14 (uF u_43 231 6 0) (fl [6, 86]) := FF.F g_48 rfl
              have i_53 : dX G (uF u_43 231 6 0) := iu_43.F (i := 6) (show (-2147483648) ≤ 0 ∧ 0 ≤ 2147483647 from ⟨by omega, by omega⟩)
              refine lv_aload_n hx hb dX12_sayPoint_103 rfl (lv_at hl 1 rfl) ?_
              refine lv_aload_n hx hb dX12_sayPoint_104 rfl (lv_at hl 1 rfl) ?_
              refine g_X12_26 Cx hW (k := 231) (by decide) rfl (v := .ref (G.2.2.1 + 237)) (rd_7 i_53) dX12_sayPoint_105 ?_
              refine lv_iconst (v := iv 0) hx hb dX12_sayPoint_108 (by decide) ?_
              have lk_54 : (uF u_43 231 6 0).1 231 6 = 0 := uF_on
              refine sBv (sV (As := [.ref (G.2.2.1 + 237), .int (iv 0)]) (rest := []) (k := 231) Cx (s_X12_spell l G (uF u_43 231 6 0) (ka := 237) (po := 0) (Nka := 68) (La := 7) i_53 ⟨rfl, by decide, by decide, by decide, rfl⟩ (by omega) (by omega) (by rw [show (uF u_43 231 6 0).2.1 237 = u_43.2.1 237 from (funext fun j => uF_a)]; exact xu_43.1) (show (237 : Nat) ≠ 231 by decide) (show (237 : Nat) ≠ 236 by decide)) (c_X12_594 Cx rfl rfl (rmk_ok (by omega) (by decide))) hW (by decide) rfl rfl rfl hl.1 rfl (Nat.le_of_ble_eq_true rfl) dX12_sayPoint_109 ⟨Nat.le_of_ble_eq_true rfl, Nat.le_of_ble_eq_true rfl⟩) hL (fun u_55 H locs k_56 hW hL => ?_)
              obtain ⟨iu_55, fu_55, gu_55, xu_55⟩ := k_56
              have F_57 := F_49.trans (fu_55.to (pl_sub (by decide)))
              have F_58 := F_50.trans (fu_55.to (pl_sub (by decide)))
              have g_59 : FF S u_55 (fl [6, 86]) := FF.trans g_51 (FF.to gu_55 (fl_sub (by decide)))
              have g_60 : FF S14 u_55 (fl [6, 86]) := FF.trans g_52 (FF.to gu_55 (fl_sub (by decide)))
              refine lv_aload_n hx hb dX12_sayPoint_112 rfl (lv_at hl 1 rfl) ?_
              have q_61 : (-2147483648) ≤ S62.1 231 86 ∧ S62.1 231 86 ≤ 2147483647 := hI62.fi 86
              have lk_62 : u_55.1 231 86 = S62.1 231 86 := (gu_55 86 rfl).trans ((uF_ne (fun h => absurd h.2 (by decide))).trans ((fu_43 231 rfl).1 86))
              have q_63 : (-2147483648) ≤ u_55.1 231 6 ∧ u_55.1 231 6 ≤ 2147483647 := iu_55.fi 6
              refine sBv (sV (As := []) (rest := []) (k := 231) Cx (s_X12_sayLetters l G u_55  iu_55 (by omega) (by omega)) (c_X12_661 Cx rfl rfl (rmk_ok (by omega) (by decide))) hW (by decide) rfl rfl rfl hl.1 rfl (Nat.le_of_ble_eq_true rfl) dX12_sayPoint_113 ⟨Nat.le_of_ble_eq_true rfl, Nat.le_of_ble_eq_true rfl⟩) hL (fun u_64 H locs k_65 hW hL => ?_)
              obtain ⟨iu_64, fu_64, gu_64, xu_64⟩ := k_65
              have F_66 := F_57.trans (fu_64.to (pl_sub (by decide)))
              have F_67 := F_58.trans (fu_64.to (pl_sub (by decide)))
              have g_68 : FF S u_64 (fl [6, 86]) := FF.trans g_59 (FF.to gu_64 (fl_sub (by decide)))
              have g_69 : FF S14 u_64 (fl [6, 86]) := FF.trans g_60 (FF.to gu_64 (fl_sub (by decide)))
              refine lv_iinc (v := iv (j + 1)) (lv' := [(5, .int (iv (j + 1))), (0, .ref (G.2.2.1 + 231)), (1, .ref (G.2.2.1 + ka)), (2, .int (iv po)), (3, .ref (G.2.2.1 + kb)), (4, .int (iv qo))]) hx hb dX12_sayPoint_116 hl (k := 0) rfl ((Int32.ofInt_add _ _).symm) (by decide) rfl (fun ls hl => ?_)
              refine lv_goto (tgt := 62) hx hb dX12_sayPoint_119 (by decide) ?_
              have q_70 : (-2147483648) ≤ u_64.1 231 86 ∧ u_64.1 231 86 ≤ 2147483647 := iu_64.fi 86
              exact ih_62 u_64 (j + 1) _ _ _ (by omega) iu_64 F_66 F_67 g_68 g_69 (by omega) (by omega) hW hL (lv_sub hl [0, 1, 2, 3, 4, 5] rfl)
        have q_71 : (-2147483648) ≤ S.1 231 86 ∧ S.1 231 86 ≤ 2147483647 := hI.fi 86
        have lk_72 : S14.1 231 86 = S.1 231 86 := (gL14_ 86 rfl).trans ((fu_1 231 rfl).1 86)
        exact loop_62 (_ + 1) S14 1 _ _ _ (Nat.lt_succ_self _) hI14 hFm14 Fr.rf hGm14 FF.rf (by omega) (by omega) hW hL (lv_sub hl [0, 1, 2, 3, 4, 5] rfl)
      · refine lv_aload_n hx hb dX12_sayPoint_23 rfl (lv_at hl 1 rfl) ?_
        refine lv_aload_n hx hb dX12_sayPoint_24 rfl (lv_at hl 1 rfl) ?_
        refine g_X12_160 Cx hW (k := 231) (by decide) rfl (v := .ref (G.2.2.1 + 280)) (rd_90 hI14) dX12_sayPoint_25 ?_
        refine lv_iconst (v := iv 0) hx hb dX12_sayPoint_28 (by decide) ?_
        refine lv_aload_n hx hb dX12_sayPoint_29 rfl (lv_at hl 2 rfl) ?_
        refine lv_iload_n hx hb dX12_sayPoint_30 rfl (lv_at hl 3 rfl) ?_
        refine lv_bipush (v := iv 8) hx hb dX12_sayPoint_31 (by decide) ?_
        refine lv_iload hx hb dX12_sayPoint_33 (lv_at hl 0 rfl) ?_
        refine r_imul hx hb dX12_sayPoint_35 ?_
        refine r_iadd hx hb dX12_sayPoint_36 ?_
        refine sBv (sV (As := [.ref (G.2.2.1 + 280), .int (iv 0), .ref (G.2.2.1 + ka), .int (iv (po + (8 * j)))]) (rest := []) (k := 231) Cx (s_X12_common l G S14 (ka := 280) (po := 0) (kb := ka) (qo := po + (8 * j)) (Nka := 68) (Nkb := Nka) (La := 6) (Lb := 6) (Lx := 6) hI14 ⟨rfl, by decide, by decide, by decide, rfl⟩ hika (show (280 : Nat) ≠ 241 by decide) (neD nka241) (neD nka242) (by omega) hN14 (by rw [show S14.2.1 ka = S.2.1 ka from (funext fun j => ((hL14_ ka (pl_c (neD nka233) (pl_c (neD nka234) (pl_c (neD nka235) (pl_c (neD nka239) (pl_c (neD nka240) (pl_c (neD nka241) (pl_c (neD nka242) (pl_c (neD nka280) rfl))))))))).2.1 j).trans ((fu_1 ka (p1_no (neD nka280))).2.1 j))]; exact hA j (by omega) (by omega)) (.inl hP14)) (c_X12_658 Cx rfl rfl (rmk_ok (by omega) (by decide))) hW (by decide) rfl rfl rfl hl.1 rfl (Nat.le_of_ble_eq_true rfl) dX12_sayPoint_37 ⟨Nat.le_of_ble_eq_true rfl, Nat.le_of_ble_eq_true rfl⟩) hL (fun u_73 H locs k_74 hW hL => ?_)
        obtain ⟨iu_73, fu_73, gu_73, xu_73⟩ := k_74
        have F_75 := hFm14.trans (fu_73.to (pl_sub (by decide)))
        have F_76 := hL14_.trans (fu_73.to (pl_sub (by decide)))
        have g_77 : FF S u_73 (fl [6, 86]) := FF.trans hGm14 (FF.to gu_73 (fl_sub (by decide)))
        have g_78 : FF u_1 u_73 (fl []) := FF.trans gL14_ (FF.to gu_73 (fl_sub (by decide)))
        refine lv_aload_n hx hb dX12_sayPoint_40 rfl (lv_at hl 1 rfl) ?_
        refine g_X12_38 Cx hW (k := 231) (by decide) rfl (v := .ref (G.2.2.1 + 241)) (rd_11 iu_73) dX12_sayPoint_41 ?_
        refine lv_iconst (v := iv 0) hx hb dX12_sayPoint_44 (by decide) ?_
        refine lv_aload_n hx hb dX12_sayPoint_45 rfl (lv_at hl 1 rfl) ?_
        refine g_X12_160 Cx hW (k := 231) (by decide) rfl (v := .ref (G.2.2.1 + 280)) (rd_90 iu_73) dX12_sayPoint_46 ?_
        refine lv_iconst (v := iv 0) hx hb dX12_sayPoint_49 (by decide) ?_
        refine sBv (sSt (As := [.ref (G.2.2.1 + 241), .int (iv 0), .ref (G.2.2.1 + 280), .int (iv 0)]) (rest := []) Cx (s_X12_copy l G u_73 (ka := 241) (po := 0) (kb := 280) (qo := 0) (Nka := 68) (Nkb := 68) (La := 6) iu_73 ⟨rfl, by decide, by decide, by decide, rfl⟩ ⟨rfl, by decide, by decide, by decide, rfl⟩ (show (280 : Nat) ≠ 241 by decide) (by omega) xu_73.1) (c_X12_233 Cx rfl rfl (rmk_ok (by omega) (by decide))) hW rfl hl.1 rfl (Nat.le_of_ble_eq_true rfl) dX12_sayPoint_50 ⟨Nat.le_of_ble_eq_true rfl, Nat.le_of_ble_eq_true rfl⟩) hL (fun u_79 H locs k_80 hW hL => ?_)
        obtain ⟨iu_79, fu_79, xu_79⟩ := k_80
        have F_81 := F_75.trans (fu_79.to (p1_sub rfl))
        have F_82 := F_76.trans (fu_79.to (p1_sub rfl))
        have g_83 : FF S u_79 (fl [6, 86]) := FF.fr g_77 fu_79 rfl
        have g_84 : FF u_1 u_79 (fl []) := FF.fr g_78 fu_79 rfl
        refine lv_iinc (v := iv (j + 1)) (lv' := [(5, .int (iv (j + 1))), (0, .ref (G.2.2.1 + 231)), (1, .ref (G.2.2.1 + ka)), (2, .int (iv po)), (3, .ref (G.2.2.1 + kb)), (4, .int (iv qo))]) hx hb dX12_sayPoint_53 hl (k := 0) rfl ((Int32.ofInt_add _ _).symm) (by decide) rfl (fun ls hl => ?_)
        refine lv_goto (tgt := 14) hx hb dX12_sayPoint_56 (by decide) ?_
        exact ih_14 u_79 (j + 1) _ _ _ (by omega) iu_79 F_81 F_82 g_83 g_84 (by omega) xu_79.1.1 (by rw [xu_79.1.2.1]; exact xu_73.2) hW hL (lv_sub hl [0, 1, 2, 3, 4, 5] rfl)
  exact loop_14 (_ + 1) u_1 1 _ _ _ (Nat.lt_succ_self _) iu_1 F_3 Fr.rf g_4 FF.rf (by omega) xu_1.1.1 (by rw [xu_1.1.2.1]; exact hps) hW hL (lv_sub hl [0, 1, 2, 3, 4, 5] rfl)

set_option maxRecDepth 100000 in
set_option maxHeartbeats 4000000 in
theorem s_X12_finish (l : Launch) (G : sG) (S : sS)  (hI : dX G S) (hM : MD S) (hBB : BB S) (h84 : 0 ≤ S.1 231 84 ∧ S.1 231 84 ≤ 30000) : Met l yX12_finish (.code yX12_finish cX12_finish 2 none :: tb) (rmk 8 0 0) (sPc G 294 S [.ref (G.2.2.1 + 231)]) (sQv G 294 (fun u => dX G u ∧ Fr S u (pl [231, 233, 234, 235, 236, 237, 238, 239, 240, 241, 242, 276, 280]) ∧ FF S u (fl [6, 61, 86]) ∧ ((2 ≤ u.1 231 61 ∧ u.1 231 61 ≤ 6) ∧ 0 ≤ u.1 231 86 ∧ u.1 231 86 ≤ 36000))) 0 0 (sF G) := by
  refine sEnter (by decide) (Nat.le_of_ble_eq_true rfl) ?_
  intro p e s m args below meth c Cx hr hlk hnm hW ls hl
  have Cx : sC G p m c cX12_finish 2 s args RX12 := Cx
  obtain ⟨hx, hb, hml, hown, hts⟩ := id Cx.1
  have hL : sL G [] := sL_nil
  have hl : lv_has ls 2 [(0, .ref (G.2.2.1 + 231))] := hl
  have hW0 := hW
  have hm1 : (0 ≤ S.1 231 46 ∧ S.1 231 46 ≤ 12) ∧ (0 ≤ S.1 231 47 ∧ S.1 231 47 ≤ 16) ∧ 0 ≤ S.1 231 63 ∧ S.1 231 63 ≤ 40 := hM
  refine lv_aload_n hx hb dX12_finish_0 rfl (lv_at hl 0 rfl) ?_
  refine lv_iconst (v := iv 0) hx hb dX12_finish_1 (by decide) ?_
  refine p_X12_523 Cx hW hL (k := 231) (by decide) rfl dX12_finish_2 (fun H locs hW hL => ?_)
  have F_1 : Fr S (uF S 231 86 0) (pl [231, 233, 234, 235, 236, 237, 238, 239, 240, 241, 242, 276, 280]) := (Fr.rf : Fr S S (pl [231, 233, 234, 235, 236, 237, 238, 239, 240, 241, 242, 276, 280])).F rfl
  have g_2 : FF S (uF S 231 86 0) (fl [6, 61, 86]) := FF.F FF.rf rfl
  have i_3 : dX G (uF S 231 86 0) := hI.F (i := 86) (show (-2147483648) ≤ 0 ∧ 0 ≤ 2147483647 from ⟨by omega, by omega⟩)
  have join_122 : ∀ (S122 : sS)  (H : Heap) (locs : List Loc) (ls : Array Slot), (dX G S122) → (Fr S S122 (pl [231, 233, 234, 235, 236, 237, 238, 239, 240, 241, 242, 276, 280])) → (Fr ((uF S 231 86 0)) S122 (pl [231, 233, 234, 235, 236, 237, 238, 239, 240, 241, 242, 276, 280])) → (FF S S122 (fl [6, 61, 86])) → (FF ((uF S 231 86 0)) S122 (fl [6, 86])) → (0 ≤ S122.1 231 86 ∧ S122.1 231 86 ≤ 3000) → sW G 294 S122 H → sL G locs → lv_has ls 2 [(0, .ref (G.2.2.1 + 231))] → W p l e (rmk 8 0 0) s m args below meth c H locs 0 0 (MQ below (sQv G 294 (fun u => dX G u ∧ Fr S u (pl [231, 233, 234, 235, 236, 237, 238, 239, 240, 241, 242, 276, 280]) ∧ FF S u (fl [6, 61, 86]) ∧ ((2 ≤ u.1 231 61 ∧ u.1 231 61 ≤ 6) ∧ 0 ≤ u.1 231 86 ∧ u.1 231 86 ≤ 36000))) args s 0 0 (sF G)) (F0 m 122 ls []) := by
    intro S122  H locs ls hI122 hFm122 hL122_ hGm122 gL122_ h122 hW hL hl
    refine lv_aload_n hx hb dX12_finish_122 rfl (lv_at hl 0 rfl) ?_
    have q_4 : (-2147483648) ≤ S122.1 231 86 ∧ S122.1 231 86 ≤ 2147483647 := hI122.fi 86
    refine g_X12_523 Cx hW (k := 231) (by decide) rfl (v := S122.1 231 86) rfl dX12_finish_123 ?_
    refine lv_iconst (v := iv 1) hx hb dX12_finish_126 (by decide) ?_
    refine r_iadd hx hb dX12_finish_127 ?_
    refine lv_aload_n hx hb dX12_finish_128 rfl (lv_at hl 0 rfl) ?_
    have q_5 : (-2147483648) ≤ S.1 231 84 ∧ S.1 231 84 ≤ 2147483647 := hI.fi 84
    refine g_X12_520 Cx hW (k := 231) (by decide) rfl (v := S.1 231 84) ((gL122_ 84 rfl).trans (uF_ne (fun h => absurd h.2 (by decide)))) dX12_finish_129 ?_
    refine r_iadd hx hb dX12_finish_132 ?_
    refine lv_sipush (v := iv 30000) hx hb dX12_finish_133 (by decide) ?_
    refine r_icmp_le (tgt := 151) hx hb ⟨(by omega), (by omega)⟩ ⟨(by omega), (by omega)⟩ dX12_finish_136 (by decide) (fun c_6 => ?_) (fun c_6 => ?_)
    · refine lv_aload_n hx hb dX12_finish_151 rfl (lv_at hl 0 rfl) ?_
      refine g_X12_148 Cx hW (k := 231) (by decide) rfl (v := .ref (G.2.2.1 + 276)) (rd_85 hI122) dX12_finish_152 ?_
      refine lv_aload_n hx hb dX12_finish_155 rfl (lv_at hl 0 rfl) ?_
      refine g_X12_523 Cx hW (k := 231) (by decide) rfl (v := S122.1 231 86) rfl dX12_finish_156 ?_
      refine lv_bipush (v := iv 32) hx hb dX12_finish_159 (by decide) ?_
      refine rBast Cx hW hL (k := 276) (by decide) rfl (by decide) (by omega) (by omega) (nar_b (by omega) (by omega)) dX12_finish_161 (fun H locs hW hL => ?_)
      have F_7 : Fr S (uA S122 276 (S122.1 231 86) 32) (pl [231, 233, 234, 235, 236, 237, 238, 239, 240, 241, 242, 276, 280]) := hFm122.A rfl
      have F_8 : Fr ((uF S 231 86 0)) (uA S122 276 (S122.1 231 86) 32) (pl [231, 233, 234, 235, 236, 237, 238, 239, 240, 241, 242, 276, 280]) := hL122_.A rfl
      have i_9 : dX G (uA S122 276 (S122.1 231 86) 32) := hI122.A (k := 276) (show (-128) ≤ 32 ∧ 32 ≤ 127 from ⟨by omega, by omega⟩)
      refine lv_aload_n hx hb dX12_finish_162 rfl (lv_at hl 0 rfl) ?_
      refine lv_dup hx hb dX12_finish_163 rfl ?_
      refine g_X12_523 Cx hW (k := 231) (by decide) rfl (v := S122.1 231 86) uA_f dX12_finish_164 ?_
      refine lv_iconst (v := iv 1) hx hb dX12_finish_167 (by decide) ?_
      refine r_iadd hx hb dX12_finish_168 ?_
      refine p_X12_523 Cx hW hL (k := 231) (by decide) rfl dX12_finish_169 (fun H locs hW hL => ?_)
      have F_10 : Fr S (uF (uA S122 276 (S122.1 231 86) 32) 231 86 ((S122.1 231 86) + 1)) (pl [231, 233, 234, 235, 236, 237, 238, 239, 240, 241, 242, 276, 280]) := F_7.F rfl
      have F_11 : Fr ((uF S 231 86 0)) (uF (uA S122 276 (S122.1 231 86) 32) 231 86 ((S122.1 231 86) + 1)) (pl [231, 233, 234, 235, 236, 237, 238, 239, 240, 241, 242, 276, 280]) := F_8.F rfl
      have g_12 : FF S (uF (uA S122 276 (S122.1 231 86) 32) 231 86 ((S122.1 231 86) + 1)) (fl [6, 61, 86]) := FF.F hGm122 rfl
      have g_13 : FF ((uF S 231 86 0)) (uF (uA S122 276 (S122.1 231 86) 32) 231 86 ((S122.1 231 86) + 1)) (fl [6, 86]) := FF.F gL122_ rfl
      have i_14 : dX G (uF (uA S122 276 (S122.1 231 86) 32) 231 86 ((S122.1 231 86) + 1)) := i_9.F (i := 86) (show (-2147483648) ≤ (S122.1 231 86) + 1 ∧ (S122.1 231 86) + 1 ≤ 2147483647 from ⟨by omega, by omega⟩)
      refine lv_iconst (v := iv 0) hx hb dX12_finish_172 (by decide) ?_
      refine lv_istore_n (lv' := [(1, .int (iv 0)), (0, .ref (G.2.2.1 + 231))]) hx hb dX12_finish_173 rfl hl (by decide) rfl (fun ls hl => ?_)
      have loop_174 : ∀ (fuel : Nat) (S174 : sS) (k : Int) (H : Heap) (locs : List Loc) (ls : Array Slot), (S.1 231 84 - k).toNat < fuel → (dX G S174) → (Fr S S174 (pl [231, 233, 234, 235, 236, 237, 238, 239, 240, 241, 242, 276, 280])) → (Fr ((uF (uA S122 276 (S122.1 231 86) 32) 231 86 ((S122.1 231 86) + 1))) S174 (pl [276])) → (FF S S174 (fl [6, 61, 86])) → (FF ((uF (uA S122 276 (S122.1 231 86) 32) 231 86 ((S122.1 231 86) + 1))) S174 (fl [])) → (0 ≤ k ∧ k ≤ S.1 231 84) → sW G 294 S174 H → sL G locs → lv_has ls 2 [(1, .int (iv k)), (0, .ref (G.2.2.1 + 231))] → W p l e (rmk 8 0 0) s m args below meth c H locs 0 0 (MQ below (sQv G 294 (fun u => dX G u ∧ Fr S u (pl [231, 233, 234, 235, 236, 237, 238, 239, 240, 241, 242, 276, 280]) ∧ FF S u (fl [6, 61, 86]) ∧ ((2 ≤ u.1 231 61 ∧ u.1 231 61 ≤ 6) ∧ 0 ≤ u.1 231 86 ∧ u.1 231 86 ≤ 36000))) args s 0 0 (sF G)) (F0 m 174 ls []) := by
        intro fuel
        induction fuel with
        | zero => intro S174 k H locs ls hmeas hI174 hFm174 hL174_ hGm174 gL174_ hk hW hL hl; exact absurd hmeas (Nat.not_lt_zero _)
        | succ fuel ih_174 =>
          intro S174 k H locs ls hmeas hI174 hFm174 hL174_ hGm174 gL174_ hk hW hL hl
          refine lv_iload_n hx hb dX12_finish_174 rfl (lv_at hl 0 rfl) ?_
          refine lv_aload_n hx hb dX12_finish_175 rfl (lv_at hl 1 rfl) ?_
          refine g_X12_520 Cx hW (k := 231) (by decide) rfl (v := S.1 231 84) ((gL174_ 84 rfl).trans ((uF_ne (fun h => absurd h.2 (by decide))).trans ((uA_f).trans ((gL122_ 84 rfl).trans (uF_ne (fun h => absurd h.2 (by decide))))))) dX12_finish_176 ?_
          refine r_icmp_ge (tgt := 205) hx hb ⟨(by omega), (by omega)⟩ ⟨(by omega), (by omega)⟩ dX12_finish_179 (by decide) (fun c_15 => ?_) (fun c_15 => ?_)
          · refine lv_aload_n hx hb dX12_finish_205 rfl (lv_at hl 1 rfl) ?_
            refine lv_dup hx hb dX12_finish_206 rfl ?_
            refine g_X12_523 Cx hW (k := 231) (by decide) rfl (v := (S122.1 231 86) + 1) ((gL174_ 86 rfl).trans (uF_on)) dX12_finish_207 ?_
            refine lv_aload_n hx hb dX12_finish_210 rfl (lv_at hl 1 rfl) ?_
            refine g_X12_520 Cx hW (k := 231) (by decide) rfl (v := S.1 231 84) ((gL174_ 84 rfl).trans ((uF_ne (fun h => absurd h.2 (by decide))).trans ((uA_f).trans ((gL122_ 84 rfl).trans (uF_ne (fun h => absurd h.2 (by decide))))))) dX12_finish_211 ?_
            refine r_iadd hx hb dX12_finish_214 ?_
            refine p_X12_523 Cx hW hL (k := 231) (by decide) rfl dX12_finish_215 (fun H locs hW hL => ?_)
            have F_16 : Fr S (uF S174 231 86 (((S122.1 231 86) + 1) + (S.1 231 84))) (pl [231, 233, 234, 235, 236, 237, 238, 239, 240, 241, 242, 276, 280]) := hFm174.F rfl
            have g_17 : FF S (uF S174 231 86 (((S122.1 231 86) + 1) + (S.1 231 84))) (fl [6, 61, 86]) := FF.F hGm174 rfl
            have i_18 : dX G (uF S174 231 86 (((S122.1 231 86) + 1) + (S.1 231 84))) := hI174.F (i := 86) (show (-2147483648) ≤ ((S122.1 231 86) + 1) + (S.1 231 84) ∧ ((S122.1 231 86) + 1) + (S.1 231 84) ≤ 2147483647 from ⟨by omega, by omega⟩)
            refine lv_aload_n hx hb dX12_finish_218 rfl (lv_at hl 1 rfl) ?_
            have join_231 : ∀ (sv : Int) (H : Heap) (locs : List Loc) (ls : Array Slot), (2 ≤ sv ∧ sv ≤ 3) → sW G 294 (uF S174 231 86 (((S122.1 231 86) + 1) + (S.1 231 84))) H → sL G locs → lv_has ls 2 [(1, .int (iv k)), (0, .ref (G.2.2.1 + 231))] → W p l e (rmk 8 0 0) s m args below meth c H locs 0 0 (MQ below (sQv G 294 (fun u => dX G u ∧ Fr S u (pl [231, 233, 234, 235, 236, 237, 238, 239, 240, 241, 242, 276, 280]) ∧ FF S u (fl [6, 61, 86]) ∧ ((2 ≤ u.1 231 61 ∧ u.1 231 61 ≤ 6) ∧ 0 ≤ u.1 231 86 ∧ u.1 231 86 ≤ 36000))) args s 0 0 (sF G)) (F0 m 231 ls [.int (iv sv), .ref (G.2.2.1 + 231)]) := by
              intro sv H locs ls hsv hW hL hl
              refine p_X12_477 Cx hW hL (k := 231) (by decide) rfl dX12_finish_231 (fun H locs hW hL => ?_)
              have F_19 : Fr S (uF (uF S174 231 86 (((S122.1 231 86) + 1) + (S.1 231 84))) 231 61 sv) (pl [231, 233, 234, 235, 236, 237, 238, 239, 240, 241, 242, 276, 280]) := F_16.F rfl
              have g_20 : FF S (uF (uF S174 231 86 (((S122.1 231 86) + 1) + (S.1 231 84))) 231 61 sv) (fl [6, 61, 86]) := FF.F g_17 rfl
              have i_21 : dX G (uF (uF S174 231 86 (((S122.1 231 86) + 1) + (S.1 231 84))) 231 61 sv) := i_18.F (i := 61) (show (-2147483648) ≤ sv ∧ sv ≤ 2147483647 from ⟨by omega, by omega⟩)
              have lk_22 : (uF (uF S174 231 86 (((S122.1 231 86) + 1) + (S.1 231 84))) 231 61 sv).1 231 61 = sv := uF_on
              have lk_23 : (uF (uF S174 231 86 (((S122.1 231 86) + 1) + (S.1 231 84))) 231 61 sv).1 231 86 = ((S122.1 231 86) + 1) + (S.1 231 84) := (uF_ne (fun h => absurd h.2 (by decide))).trans (uF_on)
              exact sVret Cx hr hlk hW hL ⟨i_21, F_19, g_20, (by omega)⟩ dX12_finish_234
            refine lv_aload_n hx hb dX12_finish_219 rfl (lv_at hl 1 rfl) ?_
            have q_24 : 0 ≤ S.1 231 79 ∧ S.1 231 79 ≤ 1 := hI.fi 79
            refine g_X12_514 Cx hW (k := 231) (by decide) rfl (v := S.1 231 79) ((uF_ne (fun h => absurd h.2 (by decide))).trans ((gL174_ 79 rfl).trans ((uF_ne (fun h => absurd h.2 (by decide))).trans ((uA_f).trans ((gL122_ 79 rfl).trans (uF_ne (fun h => absurd h.2 (by decide)))))))) dX12_finish_220 ?_
            refine r_if_eq (tgt := 230) hx hb ⟨(by omega), (by omega)⟩ dX12_finish_223 (by decide) (fun c_25 => ?_) (fun c_25 => ?_)
            · refine lv_iconst (v := iv 3) hx hb dX12_finish_230 (by decide) ?_
              exact join_231 3 _ _ _ (by omega) hW hL (lv_sub hl [0, 1] rfl)
            · refine lv_iconst (v := iv 2) hx hb dX12_finish_226 (by decide) ?_
              refine lv_goto (tgt := 231) hx hb dX12_finish_227 (by decide) ?_
              exact join_231 2 _ _ _ (by omega) hW hL (lv_sub hl [0, 1] rfl)
          · refine lv_aload_n hx hb dX12_finish_182 rfl (lv_at hl 1 rfl) ?_
            refine g_X12_148 Cx hW (k := 231) (by decide) rfl (v := .ref (G.2.2.1 + 276)) (rd_85 hI174) dX12_finish_183 ?_
            refine lv_aload_n hx hb dX12_finish_186 rfl (lv_at hl 1 rfl) ?_
            refine g_X12_523 Cx hW (k := 231) (by decide) rfl (v := (S122.1 231 86) + 1) ((gL174_ 86 rfl).trans (uF_on)) dX12_finish_187 ?_
            refine lv_iload_n hx hb dX12_finish_190 rfl (lv_at hl 0 rfl) ?_
            refine r_iadd hx hb dX12_finish_191 ?_
            refine lv_aload_n hx hb dX12_finish_192 rfl (lv_at hl 1 rfl) ?_
            refine g_X12_144 Cx hW (k := 231) (by decide) rfl (v := .ref (G.2.2.1 + 275)) (rd_83 hI174) dX12_finish_193 ?_
            refine lv_iload_n hx hb dX12_finish_196 rfl (lv_at hl 0 rfl) ?_
            refine rBald Cx hW (k := 275) (by decide) rfl (by decide) (by omega) (by omega) dX12_finish_197 ?_
            have q_26 : (-128) ≤ S.2.1 275 k ∧ S.2.1 275 k ≤ 127 := hI.ai 275 k
            refine r_i (b := S.2.1 275 k) (((hL174_ 275 rfl).2.1 k).trans ((uF_a).trans ((uA_ne (fun h => absurd h.1 (by decide))).trans (((hL122_ 275 rfl).2.1 k).trans (uF_a))))) ?_
            refine rBast Cx hW hL (k := 276) (by decide) rfl (by decide) (by omega) (by omega) (nar_b (by omega) (by omega)) dX12_finish_198 (fun H locs hW hL => ?_)
            have F_27 : Fr S (uA S174 276 (((S122.1 231 86) + 1) + k) (S.2.1 275 k)) (pl [231, 233, 234, 235, 236, 237, 238, 239, 240, 241, 242, 276, 280]) := hFm174.A rfl
            have F_28 : Fr ((uF (uA S122 276 (S122.1 231 86) 32) 231 86 ((S122.1 231 86) + 1))) (uA S174 276 (((S122.1 231 86) + 1) + k) (S.2.1 275 k)) (pl [276]) := hL174_.A rfl
            have i_29 : dX G (uA S174 276 (((S122.1 231 86) + 1) + k) (S.2.1 275 k)) := hI174.A (k := 276) (show (-128) ≤ S.2.1 275 k ∧ S.2.1 275 k ≤ 127 from ⟨by omega, by omega⟩)
            refine lv_iinc (v := iv (k + 1)) (lv' := [(1, .int (iv (k + 1))), (0, .ref (G.2.2.1 + 231))]) hx hb dX12_finish_199 hl (k := 0) rfl ((Int32.ofInt_add _ _).symm) (by decide) rfl (fun ls hl => ?_)
            refine lv_goto (tgt := 174) hx hb dX12_finish_202 (by decide) ?_
            exact ih_174 (uA S174 276 (((S122.1 231 86) + 1) + k) (S.2.1 275 k)) (k + 1) _ _ _ (by omega) i_29 F_27 F_28 hGm174 gL174_ (by omega) hW hL (lv_sub hl [0, 1] rfl)
      exact loop_174 (_ + 1) (uF (uA S122 276 (S122.1 231 86) 32) 231 86 ((S122.1 231 86) + 1)) 0 _ _ _ (Nat.lt_succ_self _) i_14 F_10 Fr.rf g_12 FF.rf (by omega) hW hL (lv_sub hl [0, 1] rfl)
    · refine lv_aload_n hx hb dX12_finish_139 rfl (lv_at hl 0 rfl) ?_
      refine lv_bipush (v := iv 6) hx hb dX12_finish_140 (by decide) ?_
      refine p_X12_477 Cx hW hL (k := 231) (by decide) rfl dX12_finish_142 (fun H locs hW hL => ?_)
      have F_30 : Fr S (uF S122 231 61 6) (pl [231, 233, 234, 235, 236, 237, 238, 239, 240, 241, 242, 276, 280]) := hFm122.F rfl
      have F_31 : Fr ((uF S 231 86 0)) (uF S122 231 61 6) (pl [231, 233, 234, 235, 236, 237, 238, 239, 240, 241, 242, 276, 280]) := hL122_.F rfl
      have g_32 : FF S (uF S122 231 61 6) (fl [6, 61, 86]) := FF.F hGm122 rfl
      have i_33 : dX G (uF S122 231 61 6) := hI122.F (i := 61) (show (-2147483648) ≤ 6 ∧ 6 ≤ 2147483647 from ⟨by omega, by omega⟩)
      refine lv_aload_n hx hb dX12_finish_145 rfl (lv_at hl 0 rfl) ?_
      refine lv_iconst (v := iv 0) hx hb dX12_finish_146 (by decide) ?_
      refine p_X12_523 Cx hW hL (k := 231) (by decide) rfl dX12_finish_147 (fun H locs hW hL => ?_)
      have F_34 : Fr S (uF (uF S122 231 61 6) 231 86 0) (pl [231, 233, 234, 235, 236, 237, 238, 239, 240, 241, 242, 276, 280]) := F_30.F rfl
      have F_35 : Fr ((uF S 231 86 0)) (uF (uF S122 231 61 6) 231 86 0) (pl [231, 233, 234, 235, 236, 237, 238, 239, 240, 241, 242, 276, 280]) := F_31.F rfl
      have g_36 : FF S (uF (uF S122 231 61 6) 231 86 0) (fl [6, 61, 86]) := FF.F g_32 rfl
      have i_37 : dX G (uF (uF S122 231 61 6) 231 86 0) := i_33.F (i := 86) (show (-2147483648) ≤ 0 ∧ 0 ≤ 2147483647 from ⟨by omega, by omega⟩)
      have lk_38 : (uF (uF S122 231 61 6) 231 86 0).1 231 61 = 6 := (uF_ne (fun h => absurd h.2 (by decide))).trans (uF_on)
      have lk_39 : (uF (uF S122 231 61 6) 231 86 0).1 231 86 = 0 := uF_on
      exact sVret Cx hr hlk hW hL ⟨i_37, F_34, g_36, (by omega)⟩ dX12_finish_150
  refine lv_aload_n hx hb dX12_finish_5 rfl (lv_at hl 0 rfl) ?_
  have q_40 : 0 ≤ S.1 231 79 ∧ S.1 231 79 ≤ 1 := hI.fi 79
  refine g_X12_514 Cx hW (k := 231) (by decide) rfl (v := S.1 231 79) (uF_ne (fun h => absurd h.2 (by decide))) dX12_finish_6 ?_
  refine r_if_eq (tgt := 115) hx hb ⟨(by omega), (by omega)⟩ dX12_finish_9 (by decide) (fun c_41 => ?_) (fun c_41 => ?_)
  · refine lv_aload_n hx hb dX12_finish_115 rfl (lv_at hl 0 rfl) ?_
    refine zLdcw Cx 30 (by decide) ⟨rfl, rfl⟩ dX12_finish_116 ?_
    have lk_42 : (uF S 231 86 0).1 231 86 = 0 := uF_on
    refine sBv (sV (As := [.ref (G.1.2 100 30)]) (rest := []) (k := 231) Cx (s_X12_say l G (uF S 231 86 0) (si := 30) i_3 (by decide) (by omega)) (c_X12_666 Cx rfl rfl (rmk_ok (by omega) (by decide))) hW (by decide) rfl rfl rfl hl.1 rfl (Nat.le_of_ble_eq_true rfl) dX12_finish_119 ⟨Nat.le_of_ble_eq_true rfl, Nat.le_of_ble_eq_true rfl⟩) hL (fun u_43 H locs k_44 hW hL => ?_)
    obtain ⟨iu_43, fu_43, gu_43, xu_43⟩ := k_44
    have F_45 := F_1.trans (fu_43.to (pl_sub (by decide)))
    have F_46 := (Fr.rf : Fr (uF S 231 86 0) (uF S 231 86 0) (pl [231, 233, 234, 235, 236, 237, 238, 239, 240, 241, 242, 276, 280])).trans (fu_43.to (pl_sub (by decide)))
    have g_47 : FF S u_43 (fl [6, 61, 86]) := FF.trans g_2 (FF.to gu_43 (fl_sub (by decide)))
    have g_48 : FF ((uF S 231 86 0)) u_43 (fl [6, 86]) := FF.trans (FF.rf : FF ((uF S 231 86 0)) ((uF S 231 86 0)) (fl [6, 86])) (FF.to gu_43 (fl_sub (by decide)))
    have hsu_43 : ((strN.getD 30 0 : Nat) : Int) = 10 := rfl
    have q_49 : (-2147483648) ≤ u_43.1 231 86 ∧ u_43.1 231 86 ≤ 2147483647 := iu_43.fi 86
    exact join_122 u_43  _ _ _ iu_43 F_45 F_46 g_47 g_48 (by omega) hW hL (lv_sub hl [0] rfl)
  · have hBS := hBB (by omega)
    refine lv_aload_n hx hb dX12_finish_12 rfl (lv_at hl 0 rfl) ?_
    refine zLdcw Cx 27 (by decide) ⟨rfl, rfl⟩ dX12_finish_13 ?_
    have lk_50 : (uF S 231 86 0).1 231 86 = 0 := uF_on
    refine sBv (sV (As := [.ref (G.1.2 100 27)]) (rest := []) (k := 231) Cx (s_X12_say l G (uF S 231 86 0) (si := 27) i_3 (by decide) (by omega)) (c_X12_666 Cx rfl rfl (rmk_ok (by omega) (by decide))) hW (by decide) rfl rfl rfl hl.1 rfl (Nat.le_of_ble_eq_true rfl) dX12_finish_16 ⟨Nat.le_of_ble_eq_true rfl, Nat.le_of_ble_eq_true rfl⟩) hL (fun u_51 H locs k_52 hW hL => ?_)
    obtain ⟨iu_51, fu_51, gu_51, xu_51⟩ := k_52
    have F_53 := F_1.trans (fu_51.to (pl_sub (by decide)))
    have F_54 := (Fr.rf : Fr (uF S 231 86 0) (uF S 231 86 0) (pl [231, 233, 234, 235, 236, 237, 238, 239, 240, 241, 242, 276, 280])).trans (fu_51.to (pl_sub (by decide)))
    have g_55 : FF S u_51 (fl [6, 61, 86]) := FF.trans g_2 (FF.to gu_51 (fl_sub (by decide)))
    have g_56 : FF ((uF S 231 86 0)) u_51 (fl [6, 86]) := FF.trans (FF.rf : FF ((uF S 231 86 0)) ((uF S 231 86 0)) (fl [6, 86])) (FF.to gu_51 (fl_sub (by decide)))
    have hsu_51 : ((strN.getD 27 0 : Nat) : Int) = 7 := rfl
    refine lv_aload_n hx hb dX12_finish_19 rfl (lv_at hl 0 rfl) ?_
    refine lv_aload_n hx hb dX12_finish_20 rfl (lv_at hl 0 rfl) ?_
    refine g_X12_134 Cx hW (k := 231) (by decide) rfl (v := .ref (G.2.2.1 + 272)) (rd_80 iu_51) dX12_finish_21 ?_
    refine lv_iconst (v := iv 0) hx hb dX12_finish_24 (by decide) ?_
    refine lv_aload_n hx hb dX12_finish_25 rfl (lv_at hl 0 rfl) ?_
    refine g_X12_137 Cx hW (k := 231) (by decide) rfl (v := .ref (G.2.2.1 + 273)) (rd_81 iu_51) dX12_finish_26 ?_
    refine lv_iconst (v := iv 0) hx hb dX12_finish_29 (by decide) ?_
    refine sBv (sV (As := [.ref (G.2.2.1 + 272), .int (iv 0), .ref (G.2.2.1 + 273), .int (iv 0)]) (rest := []) (k := 231) Cx (s_X12_lower l G u_51 (ka := 272) (po := 0) (kb := 273) (qo := 0) (Nka := 8) (Nkb := 8) iu_51 ⟨rfl, by decide, by decide, by decide, rfl⟩ ⟨rfl, by decide, by decide, by decide, rfl⟩ (show (272 : Nat) ≠ 233 by decide) (show (272 : Nat) ≠ 234 by decide) (show (272 : Nat) ≠ 235 by decide) (show (272 : Nat) ≠ 237 by decide) (show (272 : Nat) ≠ 238 by decide) (show (272 : Nat) ≠ 239 by decide) (show (272 : Nat) ≠ 240 by decide) (show (272 : Nat) ≠ 241 by decide) (show (272 : Nat) ≠ 242 by decide) (show (272 : Nat) ≠ 280 by decide) (show (273 : Nat) ≠ 233 by decide) (show (273 : Nat) ≠ 234 by decide) (show (273 : Nat) ≠ 235 by decide) (show (273 : Nat) ≠ 237 by decide) (show (273 : Nat) ≠ 238 by decide) (show (273 : Nat) ≠ 239 by decide) (show (273 : Nat) ≠ 240 by decide) (show (273 : Nat) ≠ 241 by decide) (show (273 : Nat) ≠ 242 by decide) (show (273 : Nat) ≠ 280 by decide) (by omega) (by rw [show u_51.2.1 272 = S.2.1 272 from (funext fun j => ((fu_51 272 rfl).2.1 j).trans (uF_a))]; exact hBS.1) (by rw [show u_51.2.1 273 = S.2.1 273 from (funext fun j => ((fu_51 273 rfl).2.1 j).trans (uF_a))]; exact hBS.2.1) (by rw [show u_51.2.1 273 = S.2.1 273 from (funext fun j => ((fu_51 273 rfl).2.1 j).trans (uF_a))]; exact hBS.2.2.1)) (c_X12_671 Cx rfl rfl (rmk_ok (by omega) (by decide))) hW (by decide) rfl rfl rfl hl.1 rfl (Nat.le_of_ble_eq_true rfl) dX12_finish_30 ⟨Nat.le_of_ble_eq_true rfl, Nat.le_of_ble_eq_true rfl⟩) hL (fun u_57 H locs k_58 hW hL => ?_)
    obtain ⟨iu_57, fu_57, gu_57, xu_57⟩ := k_58
    have F_59 := F_53.trans (fu_57.to (pl_sub (by decide)))
    have F_60 := F_54.trans (fu_57.to (pl_sub (by decide)))
    have g_61 : FF S u_57 (fl [6, 61, 86]) := FF.trans g_55 (FF.to gu_57 (fl_sub (by decide)))
    have g_62 : FF ((uF S 231 86 0)) u_57 (fl [6, 86]) := FF.trans g_56 (FF.to gu_57 (fl_sub (by decide)))
    have join_48 : ∀ (S48 : sS)  (H : Heap) (locs : List Loc) (ls : Array Slot), (dX G S48) → (Fr S S48 (pl [231, 233, 234, 235, 236, 237, 238, 239, 240, 241, 242, 276, 280])) → (Fr ((uF S 231 86 0)) S48 (pl [231, 233, 234, 235, 236, 237, 238, 239, 240, 241, 242, 276, 280])) → (Fr u_57 S48 (pl [237])) → (FF S S48 (fl [6, 61, 86])) → (FF ((uF S 231 86 0)) S48 (fl [6, 86])) → (FF u_57 S48 (fl [])) → (NO (S48.2.1 237) 0 7) → (NO (S48.2.1 238) 0 7) → sW G 294 S48 H → sL G locs → lv_has ls 2 [(0, .ref (G.2.2.1 + 231))] → W p l e (rmk 8 0 0) s m args below meth c H locs 0 0 (MQ below (sQv G 294 (fun u => dX G u ∧ Fr S u (pl [231, 233, 234, 235, 236, 237, 238, 239, 240, 241, 242, 276, 280]) ∧ FF S u (fl [6, 61, 86]) ∧ ((2 ≤ u.1 231 61 ∧ u.1 231 61 ≤ 6) ∧ 0 ≤ u.1 231 86 ∧ u.1 231 86 ≤ 36000))) args s 0 0 (sF G)) (F0 m 48 ls []) := by
      intro S48  H locs ls hI48 hFm48 hFL12248 hL48_ hGm48 hGL12248 gL48_ hN48 hN48b hW hL hl
      refine lv_aload_n hx hb dX12_finish_48 rfl (lv_at hl 0 rfl) ?_
      refine lv_iconst (v := iv 0) hx hb dX12_finish_49 (by decide) ?_
      refine p_X12_259 Cx hW hL (k := 231) (by decide) rfl dX12_finish_50 (fun H locs hW hL => ?_)
      have F_63 : Fr S (uF S48 231 6 0) (pl [231, 233, 234, 235, 236, 237, 238, 239, 240, 241, 242, 276, 280]) := hFm48.F rfl
      have F_64 : Fr ((uF S 231 86 0)) (uF S48 231 6 0) (pl [231, 233, 234, 235, 236, 237, 238, 239, 240, 241, 242, 276, 280]) := hFL12248.F rfl
      have g_65 : FF S (uF S48 231 6 0) (fl [6, 61, 86]) := FF.F hGm48 rfl
      have g_66 : FF ((uF S 231 86 0)) (uF S48 231 6 0) (fl [6, 86]) := FF.F hGL12248 rfl
      have i_67 : dX G (uF S48 231 6 0) := hI48.F (i := 6) (show (-2147483648) ≤ 0 ∧ 0 ≤ 2147483647 from ⟨by omega, by omega⟩)
      refine lv_aload_n hx hb dX12_finish_53 rfl (lv_at hl 0 rfl) ?_
      refine lv_aload_n hx hb dX12_finish_54 rfl (lv_at hl 0 rfl) ?_
      refine g_X12_26 Cx hW (k := 231) (by decide) rfl (v := .ref (G.2.2.1 + 237)) (rd_7 i_67) dX12_finish_55 ?_
      refine lv_iconst (v := iv 0) hx hb dX12_finish_58 (by decide) ?_
      have lk_68 : (uF S48 231 6 0).1 231 6 = 0 := uF_on
      refine sBv (sV (As := [.ref (G.2.2.1 + 237), .int (iv 0)]) (rest := []) (k := 231) Cx (s_X12_spell l G (uF S48 231 6 0) (ka := 237) (po := 0) (Nka := 68) (La := 7) i_67 ⟨rfl, by decide, by decide, by decide, rfl⟩ (by omega) (by omega) hN48 (show (237 : Nat) ≠ 231 by decide) (show (237 : Nat) ≠ 236 by decide)) (c_X12_594 Cx rfl rfl (rmk_ok (by omega) (by decide))) hW (by decide) rfl rfl rfl hl.1 rfl (Nat.le_of_ble_eq_true rfl) dX12_finish_59 ⟨Nat.le_of_ble_eq_true rfl, Nat.le_of_ble_eq_true rfl⟩) hL (fun u_69 H locs k_70 hW hL => ?_)
      obtain ⟨iu_69, fu_69, gu_69, xu_69⟩ := k_70
      have F_71 := F_63.trans (fu_69.to (pl_sub (by decide)))
      have F_72 := F_64.trans (fu_69.to (pl_sub (by decide)))
      have g_73 : FF S u_69 (fl [6, 61, 86]) := FF.trans g_65 (FF.to gu_69 (fl_sub (by decide)))
      have g_74 : FF ((uF S 231 86 0)) u_69 (fl [6, 86]) := FF.trans g_66 (FF.to gu_69 (fl_sub (by decide)))
      refine lv_aload_n hx hb dX12_finish_62 rfl (lv_at hl 0 rfl) ?_
      have q_75 : (-2147483648) ≤ u_51.1 231 86 ∧ u_51.1 231 86 ≤ 2147483647 := iu_51.fi 86
      have lk_76 : u_69.1 231 86 = u_51.1 231 86 := (gu_69 86 rfl).trans ((uF_ne (fun h => absurd h.2 (by decide))).trans ((gL48_ 86 rfl).trans (gu_57 86 rfl)))
      have q_77 : (-2147483648) ≤ u_69.1 231 6 ∧ u_69.1 231 6 ≤ 2147483647 := iu_69.fi 6
      refine sBv (sV (As := []) (rest := []) (k := 231) Cx (s_X12_sayLetters l G u_69  iu_69 (by omega) (by omega)) (c_X12_661 Cx rfl rfl (rmk_ok (by omega) (by decide))) hW (by decide) rfl rfl rfl hl.1 rfl (Nat.le_of_ble_eq_true rfl) dX12_finish_63 ⟨Nat.le_of_ble_eq_true rfl, Nat.le_of_ble_eq_true rfl⟩) hL (fun u_78 H locs k_79 hW hL => ?_)
      obtain ⟨iu_78, fu_78, gu_78, xu_78⟩ := k_79
      have F_80 := F_71.trans (fu_78.to (pl_sub (by decide)))
      have F_81 := F_72.trans (fu_78.to (pl_sub (by decide)))
      have g_82 : FF S u_78 (fl [6, 61, 86]) := FF.trans g_73 (FF.to gu_78 (fl_sub (by decide)))
      have g_83 : FF ((uF S 231 86 0)) u_78 (fl [6, 86]) := FF.trans g_74 (FF.to gu_78 (fl_sub (by decide)))
      refine lv_aload_n hx hb dX12_finish_66 rfl (lv_at hl 0 rfl) ?_
      refine zLdcw Cx 28 (by decide) ⟨rfl, rfl⟩ dX12_finish_67 ?_
      have q_84 : (-2147483648) ≤ u_78.1 231 86 ∧ u_78.1 231 86 ≤ 2147483647 := iu_78.fi 86
      refine sBv (sV (As := [.ref (G.1.2 100 28)]) (rest := []) (k := 231) Cx (s_X12_say l G u_78 (si := 28) iu_78 (by decide) (by omega)) (c_X12_666 Cx rfl rfl (rmk_ok (by omega) (by decide))) hW (by decide) rfl rfl rfl hl.1 rfl (Nat.le_of_ble_eq_true rfl) dX12_finish_70 ⟨Nat.le_of_ble_eq_true rfl, Nat.le_of_ble_eq_true rfl⟩) hL (fun u_85 H locs k_86 hW hL => ?_)
      obtain ⟨iu_85, fu_85, gu_85, xu_85⟩ := k_86
      have F_87 := F_80.trans (fu_85.to (pl_sub (by decide)))
      have F_88 := F_81.trans (fu_85.to (pl_sub (by decide)))
      have g_89 : FF S u_85 (fl [6, 61, 86]) := FF.trans g_82 (FF.to gu_85 (fl_sub (by decide)))
      have g_90 : FF ((uF S 231 86 0)) u_85 (fl [6, 86]) := FF.trans g_83 (FF.to gu_85 (fl_sub (by decide)))
      have hsu_85 : ((strN.getD 28 0 : Nat) : Int) = 1 := rfl
      refine lv_aload_n hx hb dX12_finish_73 rfl (lv_at hl 0 rfl) ?_
      refine lv_iconst (v := iv 0) hx hb dX12_finish_74 (by decide) ?_
      refine p_X12_259 Cx hW hL (k := 231) (by decide) rfl dX12_finish_75 (fun H locs hW hL => ?_)
      have F_91 : Fr S (uF u_85 231 6 0) (pl [231, 233, 234, 235, 236, 237, 238, 239, 240, 241, 242, 276, 280]) := F_87.F rfl
      have F_92 : Fr ((uF S 231 86 0)) (uF u_85 231 6 0) (pl [231, 233, 234, 235, 236, 237, 238, 239, 240, 241, 242, 276, 280]) := F_88.F rfl
      have g_93 : FF S (uF u_85 231 6 0) (fl [6, 61, 86]) := FF.F g_89 rfl
      have g_94 : FF ((uF S 231 86 0)) (uF u_85 231 6 0) (fl [6, 86]) := FF.F g_90 rfl
      have i_95 : dX G (uF u_85 231 6 0) := iu_85.F (i := 6) (show (-2147483648) ≤ 0 ∧ 0 ≤ 2147483647 from ⟨by omega, by omega⟩)
      refine lv_aload_n hx hb dX12_finish_78 rfl (lv_at hl 0 rfl) ?_
      refine lv_aload_n hx hb dX12_finish_79 rfl (lv_at hl 0 rfl) ?_
      refine g_X12_29 Cx hW (k := 231) (by decide) rfl (v := .ref (G.2.2.1 + 238)) (rd_8 i_95) dX12_finish_80 ?_
      refine lv_iconst (v := iv 0) hx hb dX12_finish_83 (by decide) ?_
      have lk_96 : (uF u_85 231 6 0).1 231 6 = 0 := uF_on
      refine sBv (sV (As := [.ref (G.2.2.1 + 238), .int (iv 0)]) (rest := []) (k := 231) Cx (s_X12_spell l G (uF u_85 231 6 0) (ka := 238) (po := 0) (Nka := 68) (La := 7) i_95 ⟨rfl, by decide, by decide, by decide, rfl⟩ (by omega) (by omega) (by rw [show (uF u_85 231 6 0).2.1 238 = S48.2.1 238 from (funext fun j => (uF_a).trans (((fu_85 238 rfl).2.1 j).trans (((fu_78 238 rfl).2.1 j).trans (((fu_69 238 rfl).2.1 j).trans (uF_a)))))]; exact hN48b) (show (238 : Nat) ≠ 231 by decide) (show (238 : Nat) ≠ 236 by decide)) (c_X12_594 Cx rfl rfl (rmk_ok (by omega) (by decide))) hW (by decide) rfl rfl rfl hl.1 rfl (Nat.le_of_ble_eq_true rfl) dX12_finish_84 ⟨Nat.le_of_ble_eq_true rfl, Nat.le_of_ble_eq_true rfl⟩) hL (fun u_97 H locs k_98 hW hL => ?_)
      obtain ⟨iu_97, fu_97, gu_97, xu_97⟩ := k_98
      have F_99 := F_91.trans (fu_97.to (pl_sub (by decide)))
      have F_100 := F_92.trans (fu_97.to (pl_sub (by decide)))
      have g_101 : FF S u_97 (fl [6, 61, 86]) := FF.trans g_93 (FF.to gu_97 (fl_sub (by decide)))
      have g_102 : FF ((uF S 231 86 0)) u_97 (fl [6, 86]) := FF.trans g_94 (FF.to gu_97 (fl_sub (by decide)))
      refine lv_aload_n hx hb dX12_finish_87 rfl (lv_at hl 0 rfl) ?_
      have q_103 : (-2147483648) ≤ u_85.1 231 86 ∧ u_85.1 231 86 ≤ 2147483647 := iu_85.fi 86
      have lk_104 : u_97.1 231 86 = u_85.1 231 86 := (gu_97 86 rfl).trans (uF_ne (fun h => absurd h.2 (by decide)))
      have q_105 : (-2147483648) ≤ u_97.1 231 6 ∧ u_97.1 231 6 ≤ 2147483647 := iu_97.fi 6
      refine sBv (sV (As := []) (rest := []) (k := 231) Cx (s_X12_sayLetters l G u_97  iu_97 (by omega) (by omega)) (c_X12_661 Cx rfl rfl (rmk_ok (by omega) (by decide))) hW (by decide) rfl rfl rfl hl.1 rfl (Nat.le_of_ble_eq_true rfl) dX12_finish_88 ⟨Nat.le_of_ble_eq_true rfl, Nat.le_of_ble_eq_true rfl⟩) hL (fun u_106 H locs k_107 hW hL => ?_)
      obtain ⟨iu_106, fu_106, gu_106, xu_106⟩ := k_107
      have F_108 := F_99.trans (fu_106.to (pl_sub (by decide)))
      have F_109 := F_100.trans (fu_106.to (pl_sub (by decide)))
      have g_110 : FF S u_106 (fl [6, 61, 86]) := FF.trans g_101 (FF.to gu_106 (fl_sub (by decide)))
      have g_111 : FF ((uF S 231 86 0)) u_106 (fl [6, 86]) := FF.trans g_102 (FF.to gu_106 (fl_sub (by decide)))
      refine lv_aload_n hx hb dX12_finish_91 rfl (lv_at hl 0 rfl) ?_
      refine zLdcw Cx 29 (by decide) ⟨rfl, rfl⟩ dX12_finish_92 ?_
      have q_112 : (-2147483648) ≤ u_106.1 231 86 ∧ u_106.1 231 86 ≤ 2147483647 := iu_106.fi 86
      refine sBv (sV (As := [.ref (G.1.2 100 29)]) (rest := []) (k := 231) Cx (s_X12_say l G u_106 (si := 29) iu_106 (by decide) (by omega)) (c_X12_666 Cx rfl rfl (rmk_ok (by omega) (by decide))) hW (by decide) rfl rfl rfl hl.1 rfl (Nat.le_of_ble_eq_true rfl) dX12_finish_95 ⟨Nat.le_of_ble_eq_true rfl, Nat.le_of_ble_eq_true rfl⟩) hL (fun u_113 H locs k_114 hW hL => ?_)
      obtain ⟨iu_113, fu_113, gu_113, xu_113⟩ := k_114
      have F_115 := F_108.trans (fu_113.to (pl_sub (by decide)))
      have F_116 := F_109.trans (fu_113.to (pl_sub (by decide)))
      have g_117 : FF S u_113 (fl [6, 61, 86]) := FF.trans g_110 (FF.to gu_113 (fl_sub (by decide)))
      have g_118 : FF ((uF S 231 86 0)) u_113 (fl [6, 86]) := FF.trans g_111 (FF.to gu_113 (fl_sub (by decide)))
      have hsu_113 : ((strN.getD 29 0 : Nat) : Int) = 2 := rfl
      refine lv_aload_n hx hb dX12_finish_98 rfl (lv_at hl 0 rfl) ?_
      refine lv_aload_n hx hb dX12_finish_99 rfl (lv_at hl 0 rfl) ?_
      refine g_X12_140 Cx hW (k := 231) (by decide) rfl (v := .ref (G.2.2.1 + 274)) (rd_82 iu_113) dX12_finish_100 ?_
      refine lv_iconst (v := iv 0) hx hb dX12_finish_103 (by decide) ?_
      refine lv_aload_n hx hb dX12_finish_104 rfl (lv_at hl 0 rfl) ?_
      refine g_X12_137 Cx hW (k := 231) (by decide) rfl (v := .ref (G.2.2.1 + 273)) (rd_81 iu_113) dX12_finish_105 ?_
      refine lv_iconst (v := iv 0) hx hb dX12_finish_108 (by decide) ?_
      have q_119 : (-2147483648) ≤ S.1 231 46 ∧ S.1 231 46 ≤ 2147483647 := hI.fi 46
      have lk_120 : u_113.1 231 46 = S.1 231 46 := (gu_113 46 rfl).trans ((gu_106 46 rfl).trans ((gu_97 46 rfl).trans ((uF_ne (fun h => absurd h.2 (by decide))).trans ((gu_85 46 rfl).trans ((gu_78 46 rfl).trans ((gu_69 46 rfl).trans ((uF_ne (fun h => absurd h.2 (by decide))).trans ((gL48_ 46 rfl).trans ((gu_57 46 rfl).trans ((gu_51 46 rfl).trans (uF_ne (fun h => absurd h.2 (by decide)))))))))))))
      have q_121 : (-2147483648) ≤ u_113.1 231 86 ∧ u_113.1 231 86 ≤ 2147483647 := iu_113.fi 86
      refine sBv (sV (As := [.ref (G.2.2.1 + 274), .int (iv 0), .ref (G.2.2.1 + 273), .int (iv 0)]) (rest := []) (k := 231) Cx (s_X12_sayPoint l G u_113 (ka := 274) (po := 0) (kb := 273) (qo := 0) (Nka := 104) (Nkb := 8) iu_113 ⟨rfl, by decide, by decide, by decide, rfl⟩ ⟨rfl, by decide, by decide, by decide, rfl⟩ (show (274 : Nat) ≠ 231 by decide) (show (274 : Nat) ≠ 233 by decide) (show (274 : Nat) ≠ 234 by decide) (show (274 : Nat) ≠ 235 by decide) (show (274 : Nat) ≠ 236 by decide) (show (274 : Nat) ≠ 237 by decide) (show (274 : Nat) ≠ 239 by decide) (show (274 : Nat) ≠ 240 by decide) (show (274 : Nat) ≠ 241 by decide) (show (274 : Nat) ≠ 242 by decide) (show (274 : Nat) ≠ 276 by decide) (show (274 : Nat) ≠ 280 by decide) (show (273 : Nat) ≠ 231 by decide) (show (273 : Nat) ≠ 233 by decide) (show (273 : Nat) ≠ 234 by decide) (show (273 : Nat) ≠ 235 by decide) (show (273 : Nat) ≠ 236 by decide) (show (273 : Nat) ≠ 237 by decide) (show (273 : Nat) ≠ 239 by decide) (show (273 : Nat) ≠ 240 by decide) (show (273 : Nat) ≠ 241 by decide) (show (273 : Nat) ≠ 242 by decide) (show (273 : Nat) ≠ 276 by decide) (show (273 : Nat) ≠ 280 by decide) (by omega) (MD.sm (S := S) (u := u_113) hM ((gu_113 46 rfl).trans ((gu_106 46 rfl).trans ((gu_97 46 rfl).trans ((uF_ne (fun h => absurd h.2 (by decide))).trans ((gu_85 46 rfl).trans ((gu_78 46 rfl).trans ((gu_69 46 rfl).trans ((uF_ne (fun h => absurd h.2 (by decide))).trans ((gL48_ 46 rfl).trans ((gu_57 46 rfl).trans ((gu_51 46 rfl).trans (uF_ne (fun h => absurd h.2 (by decide)))))))))))))) ((gu_113 47 rfl).trans ((gu_106 47 rfl).trans ((gu_97 47 rfl).trans ((uF_ne (fun h => absurd h.2 (by decide))).trans ((gu_85 47 rfl).trans ((gu_78 47 rfl).trans ((gu_69 47 rfl).trans ((uF_ne (fun h => absurd h.2 (by decide))).trans ((gL48_ 47 rfl).trans ((gu_57 47 rfl).trans ((gu_51 47 rfl).trans (uF_ne (fun h => absurd h.2 (by decide)))))))))))))) ((gu_113 63 rfl).trans ((gu_106 63 rfl).trans ((gu_97 63 rfl).trans ((uF_ne (fun h => absurd h.2 (by decide))).trans ((gu_85 63 rfl).trans ((gu_78 63 rfl).trans ((gu_69 63 rfl).trans ((uF_ne (fun h => absurd h.2 (by decide))).trans ((gL48_ 63 rfl).trans ((gu_57 63 rfl).trans ((gu_51 63 rfl).trans (uF_ne (fun h => absurd h.2 (by decide))))))))))))))) (fun j a b => by rw [show u_113.2.1 274 = S.2.1 274 from (funext fun j => ((fu_113 274 rfl).2.1 j).trans (((fu_106 274 rfl).2.1 j).trans (((fu_97 274 rfl).2.1 j).trans ((uF_a).trans (((fu_85 274 rfl).2.1 j).trans (((fu_78 274 rfl).2.1 j).trans (((fu_69 274 rfl).2.1 j).trans ((uF_a).trans (((hL48_ 274 rfl).2.1 j).trans (((fu_57 274 rfl).2.1 j).trans (((fu_51 274 rfl).2.1 j).trans (uF_a)))))))))))), show (0 : Int) + 8 * j = 8 * j by omega]; exact hBS.2.2.2 j a (by have e8 := (show u_113.1 231 46 = S.1 231 46 from (gu_113 46 rfl).trans ((gu_106 46 rfl).trans ((gu_97 46 rfl).trans ((uF_ne (fun h => absurd h.2 (by decide))).trans ((gu_85 46 rfl).trans ((gu_78 46 rfl).trans ((gu_69 46 rfl).trans ((uF_ne (fun h => absurd h.2 (by decide))).trans ((gL48_ 46 rfl).trans ((gu_57 46 rfl).trans ((gu_51 46 rfl).trans (uF_ne (fun h => absurd h.2 (by decide)))))))))))))); omega)) (by rw [show u_113.2.1 273 = S.2.1 273 from (funext fun j => ((fu_113 273 rfl).2.1 j).trans (((fu_106 273 rfl).2.1 j).trans (((fu_97 273 rfl).2.1 j).trans ((uF_a).trans (((fu_85 273 rfl).2.1 j).trans (((fu_78 273 rfl).2.1 j).trans (((fu_69 273 rfl).2.1 j).trans ((uF_a).trans (((hL48_ 273 rfl).2.1 j).trans (((fu_57 273 rfl).2.1 j).trans (((fu_51 273 rfl).2.1 j).trans (uF_a))))))))))))]; exact hBS.2.1) (by rw [show u_113.2.1 273 = S.2.1 273 from (funext fun j => ((fu_113 273 rfl).2.1 j).trans (((fu_106 273 rfl).2.1 j).trans (((fu_97 273 rfl).2.1 j).trans ((uF_a).trans (((fu_85 273 rfl).2.1 j).trans (((fu_78 273 rfl).2.1 j).trans (((fu_69 273 rfl).2.1 j).trans ((uF_a).trans (((hL48_ 273 rfl).2.1 j).trans (((fu_57 273 rfl).2.1 j).trans (((fu_51 273 rfl).2.1 j).trans (uF_a))))))))))))]; exact hBS.2.2.1) (by omega)) (c_X12_675 Cx rfl rfl (rmk_ok (by omega) (by decide))) hW (by decide) rfl rfl rfl hl.1 rfl (Nat.le_of_ble_eq_true rfl) dX12_finish_109 ⟨Nat.le_of_ble_eq_true rfl, Nat.le_of_ble_eq_true rfl⟩) hL (fun u_122 H locs k_123 hW hL => ?_)
      obtain ⟨iu_122, fu_122, gu_122, xu_122⟩ := k_123
      have F_124 := F_115.trans (fu_122.to (pl_sub (by decide)))
      have F_125 := F_116.trans (fu_122.to (pl_sub (by decide)))
      have g_126 : FF S u_122 (fl [6, 61, 86]) := FF.trans g_117 (FF.to gu_122 (fl_sub (by decide)))
      have g_127 : FF ((uF S 231 86 0)) u_122 (fl [6, 86]) := FF.trans g_118 (FF.to gu_122 (fl_sub (by decide)))
      refine lv_goto (tgt := 122) hx hb dX12_finish_112 (by decide) ?_
      have q_128 : (-2147483648) ≤ u_122.1 231 86 ∧ u_122.1 231 86 ≤ 2147483647 := iu_122.fi 86
      exact join_122 u_122  _ _ _ iu_122 F_124 F_125 g_126 g_127 (by omega) hW hL (lv_sub hl [0] rfl)
    refine lv_aload_n hx hb dX12_finish_33 rfl (lv_at hl 0 rfl) ?_
    have q_129 : 0 ≤ S.1 231 49 ∧ S.1 231 49 ≤ 1 := hI.fi 49
    refine g_X12_474 Cx hW (k := 231) (by decide) rfl (v := S.1 231 49) ((gu_57 49 rfl).trans ((gu_51 49 rfl).trans (uF_ne (fun h => absurd h.2 (by decide))))) dX12_finish_34 ?_
    refine r_if_ne (tgt := 48) hx hb ⟨(by omega), (by omega)⟩ dX12_finish_37 (by decide) (fun c_130 => ?_) (fun c_130 => ?_)
    · exact join_48 u_57  _ _ _ iu_57 F_59 F_60 (Fr.rf : Fr u_57 u_57 (pl [237])) g_61 g_62 (FF.rf : FF u_57 u_57 (fl [])) xu_57.1 xu_57.2 hW hL (lv_sub hl [0] rfl)
    · refine lv_aload_n hx hb dX12_finish_40 rfl (lv_at hl 0 rfl) ?_
      refine g_X12_26 Cx hW (k := 231) (by decide) rfl (v := .ref (G.2.2.1 + 237)) (rd_7 iu_57) dX12_finish_41 ?_
      refine lv_iconst (v := iv 0) hx hb dX12_finish_44 (by decide) ?_
      refine sBv (sSt (As := [.ref (G.2.2.1 + 237), .int (iv 0)]) (rest := []) Cx (s_X12_negate l G u_57 (ka := 237) (po := 0) (Nka := 68) (La := 7) iu_57 ⟨rfl, by decide, by decide, by decide, rfl⟩ (by omega) xu_57.1) (c_X12_540 Cx rfl rfl (rmk_ok (by omega) (by decide))) hW rfl hl.1 rfl (Nat.le_of_ble_eq_true rfl) dX12_finish_45 ⟨Nat.le_of_ble_eq_true rfl, Nat.le_of_ble_eq_true rfl⟩) hL (fun u_131 H locs k_132 hW hL => ?_)
      obtain ⟨iu_131, fu_131, xu_131⟩ := k_132
      have F_133 := F_59.trans (fu_131.to (p1_sub rfl))
      have F_134 := F_60.trans (fu_131.to (p1_sub rfl))
      have F_135 := (Fr.rf : Fr u_57 u_57 (pl [237])).trans (fu_131.to (p1_sub rfl))
      have g_136 : FF S u_131 (fl [6, 61, 86]) := FF.fr g_61 fu_131 rfl
      have g_137 : FF ((uF S 231 86 0)) u_131 (fl [6, 86]) := FF.fr g_62 fu_131 rfl
      have g_138 : FF u_57 u_131 (fl []) := FF.fr (FF.rf : FF u_57 u_57 (fl [])) fu_131 rfl
      exact join_48 u_131  _ _ _ iu_131 F_133 F_134 F_135 g_136 g_137 g_138 xu_131.1 (by rw [show u_131.2.1 238 = u_57.2.1 238 from (funext fun j => (fu_131 238 rfl).2.1 j)]; exact xu_57.2) hW hL (lv_sub hl [0] rfl)

set_option maxRecDepth 100000 in
set_option maxHeartbeats 4000000 in
theorem s_X12_ray (l : Launch) (G : sG) (S : sS)  (hI : dX G S) (hM : MD S) (hD : DOK S) (hBO : BO S) (hpc : 1 ≤ S.1 231 72 ∧ S.1 231 72 ≤ S.1 231 59) : Met l yX12_ray (.code yX12_ray cX12_ray 2 none :: tb) (rmk 8 0 0) (sPc G 294 S [.ref (G.2.2.1 + 231)]) (sQv G 294 (fun u => dX G u ∧ Fr S u (pl [231, 233, 234, 235, 236, 237, 239, 240, 241, 242, 276, 280, 281]) ∧ FF S u (fl [6, 61, 86]) ∧ (u.1 231 61 = 4 ∧ 0 ≤ u.1 231 86 ∧ u.1 231 86 ≤ 36000))) 0 0 (sF G) := by
  refine sEnter (by decide) (Nat.le_of_ble_eq_true rfl) ?_
  intro p e s m args below meth c Cx hr hlk hnm hW ls hl
  have Cx : sC G p m c cX12_ray 2 s args RX12 := Cx
  obtain ⟨hx, hb, hml, hown, hts⟩ := id Cx.1
  have hL : sL G [] := sL_nil
  have hl : lv_has ls 2 [(0, .ref (G.2.2.1 + 231))] := hl
  have hW0 := hW
  have hm1 : (0 ≤ S.1 231 46 ∧ S.1 231 46 ≤ 12) ∧ (0 ≤ S.1 231 47 ∧ S.1 231 47 ≤ 16) ∧ 0 ≤ S.1 231 63 ∧ S.1 231 63 ≤ 40 := hM
  have hd1 := hD.1
  refine lv_aload_n hx hb dX12_ray_0 rfl (lv_at hl 0 rfl) ?_
  refine lv_iconst (v := iv 0) hx hb dX12_ray_1 (by decide) ?_
  refine p_X12_523 Cx hW hL (k := 231) (by decide) rfl dX12_ray_2 (fun H locs hW hL => ?_)
  have F_1 : Fr S (uF S 231 86 0) (pl [231, 233, 234, 235, 236, 237, 239, 240, 241, 242, 276, 280, 281]) := (Fr.rf : Fr S S (pl [231, 233, 234, 235, 236, 237, 239, 240, 241, 242, 276, 280, 281])).F rfl
  have g_2 : FF S (uF S 231 86 0) (fl [6, 61, 86]) := FF.F FF.rf rfl
  have i_3 : dX G (uF S 231 86 0) := hI.F (i := 86) (show (-2147483648) ≤ 0 ∧ 0 ≤ 2147483647 from ⟨by omega, by omega⟩)
  refine lv_iconst (v := iv 0) hx hb dX12_ray_5 (by decide) ?_
  refine lv_istore_n (lv' := [(1, .int (iv 0)), (0, .ref (G.2.2.1 + 231))]) hx hb dX12_ray_6 rfl hl (by decide) rfl (fun ls hl => ?_)
  have loop_7 : ∀ (fuel : Nat) (S7 : sS) (j : Int) (H : Heap) (locs : List Loc) (ls : Array Slot), (S.1 231 46 + 1 - j).toNat < fuel → (dX G S7) → (Fr S S7 (pl [231, 233, 234, 235, 236, 237, 239, 240, 241, 242, 276, 280, 281])) → (Fr ((uF S 231 86 0)) S7 (pl [281])) → (FF S S7 (fl [6, 61, 86])) → (FF ((uF S 231 86 0)) S7 (fl [])) → (0 ≤ j ∧ j ≤ S.1 231 46 + 1) → (∀ t, 0 ≤ t → t < j → S7.2.1 281 (8 * t) = 0) → sW G 294 S7 H → sL G locs → lv_has ls 2 [(1, .int (iv j)), (0, .ref (G.2.2.1 + 231))] → W p l e (rmk 8 0 0) s m args below meth c H locs 0 0 (MQ below (sQv G 294 (fun u => dX G u ∧ Fr S u (pl [231, 233, 234, 235, 236, 237, 239, 240, 241, 242, 276, 280, 281]) ∧ FF S u (fl [6, 61, 86]) ∧ (u.1 231 61 = 4 ∧ 0 ≤ u.1 231 86 ∧ u.1 231 86 ≤ 36000))) args s 0 0 (sF G)) (F0 m 7 ls []) := by
    intro fuel
    induction fuel with
    | zero => intro S7 j H locs ls hmeas hI7 hFm7 hL7_ hGm7 gL7_ hj hz7 hW hL hl; exact absurd hmeas (Nat.not_lt_zero _)
    | succ fuel ih_7 =>
      intro S7 j H locs ls hmeas hI7 hFm7 hL7_ hGm7 gL7_ hj hz7 hW hL hl
      refine lv_iload_n hx hb dX12_ray_7 rfl (lv_at hl 0 rfl) ?_
      refine lv_aload_n hx hb dX12_ray_8 rfl (lv_at hl 1 rfl) ?_
      have q_4 : (-2147483648) ≤ S.1 231 46 ∧ S.1 231 46 ≤ 2147483647 := hI.fi 46
      refine g_X12_465 Cx hW (k := 231) (by decide) rfl (v := S.1 231 46) ((gL7_ 46 rfl).trans (uF_ne (fun h => absurd h.2 (by decide)))) dX12_ray_9 ?_
      refine r_icmp_gt (tgt := 31) hx hb ⟨(by omega), (by omega)⟩ ⟨(by omega), (by omega)⟩ dX12_ray_12 (by decide) (fun c_5 => ?_) (fun c_5 => ?_)
      · refine lv_iconst (v := iv 1) hx hb dX12_ray_31 (by decide) ?_
        refine lv_istore_n (lv' := [(1, .int (iv 1)), (0, .ref (G.2.2.1 + 231))]) hx hb dX12_ray_32 rfl hl (by decide) rfl (fun ls hl => ?_)
        have loop_33 : ∀ (fuel : Nat) (S33 : sS) (i : Int) (H : Heap) (locs : List Loc) (ls : Array Slot), (S.1 231 58 + 1 - i).toNat < fuel → (dX G S33) → (Fr S S33 (pl [231, 233, 234, 235, 236, 237, 239, 240, 241, 242, 276, 280, 281])) → (Fr S7 S33 (pl [281])) → (FF S S33 (fl [6, 61, 86])) → (FF S7 S33 (fl [])) → (1 ≤ i ∧ i ≤ S.1 231 58 + 1) → (∀ j, 0 ≤ j → j ≤ S.1 231 46 → NO (S33.2.1 281) (8 * j) 6) → sW G 294 S33 H → sL G locs → lv_has ls 2 [(1, .int (iv i)), (0, .ref (G.2.2.1 + 231))] → W p l e (rmk 8 0 0) s m args below meth c H locs 0 0 (MQ below (sQv G 294 (fun u => dX G u ∧ Fr S u (pl [231, 233, 234, 235, 236, 237, 239, 240, 241, 242, 276, 280, 281]) ∧ FF S u (fl [6, 61, 86]) ∧ (u.1 231 61 = 4 ∧ 0 ≤ u.1 231 86 ∧ u.1 231 86 ≤ 36000))) args s 0 0 (sF G)) (F0 m 33 ls []) := by
          intro fuel
          induction fuel with
          | zero => intro S33 i H locs ls hmeas hI33 hFm33 hL33_ hGm33 gL33_ hi hz33 hW hL hl; exact absurd hmeas (Nat.not_lt_zero _)
          | succ fuel ih_33 =>
            intro S33 i H locs ls hmeas hI33 hFm33 hL33_ hGm33 gL33_ hi hz33 hW hL hl
            refine lv_iload_n hx hb dX12_ray_33 rfl (lv_at hl 0 rfl) ?_
            refine lv_aload_n hx hb dX12_ray_34 rfl (lv_at hl 1 rfl) ?_
            have q_6 : (-2147483648) ≤ S.1 231 58 ∧ S.1 231 58 ≤ 2147483647 := hI.fi 58
            refine g_X12_483 Cx hW (k := 231) (by decide) rfl (v := S.1 231 58) ((gL33_ 58 rfl).trans ((gL7_ 58 rfl).trans (uF_ne (fun h => absurd h.2 (by decide))))) dX12_ray_35 ?_
            refine r_icmp_gt (tgt := 98) hx hb ⟨(by omega), (by omega)⟩ ⟨(by omega), (by omega)⟩ dX12_ray_38 (by decide) (fun c_7 => ?_) (fun c_7 => ?_)
            · refine lv_aload_n hx hb dX12_ray_98 rfl (lv_at hl 1 rfl) ?_
              refine zLdcw Cx 34 (by decide) ⟨rfl, rfl⟩ dX12_ray_99 ?_
              have lk_8 : S33.1 231 86 = 0 := (gL33_ 86 rfl).trans ((gL7_ 86 rfl).trans (uF_on))
              refine sBv (sV (As := [.ref (G.1.2 100 34)]) (rest := []) (k := 231) Cx (s_X12_say l G S33 (si := 34) hI33 (by decide) (by omega)) (c_X12_666 Cx rfl rfl (rmk_ok (by omega) (by decide))) hW (by decide) rfl rfl rfl hl.1 rfl (Nat.le_of_ble_eq_true rfl) dX12_ray_102 ⟨Nat.le_of_ble_eq_true rfl, Nat.le_of_ble_eq_true rfl⟩) hL (fun u_9 H locs k_10 hW hL => ?_)
              obtain ⟨iu_9, fu_9, gu_9, xu_9⟩ := k_10
              have F_11 := hFm33.trans (fu_9.to (pl_sub (by decide)))
              have g_12 : FF S u_9 (fl [6, 61, 86]) := FF.trans hGm33 (FF.to gu_9 (fl_sub (by decide)))
              have hsu_9 : ((strN.getD 34 0 : Nat) : Int) = 9 := rfl
              refine lv_aload_n hx hb dX12_ray_105 rfl (lv_at hl 1 rfl) ?_
              refine zLdcw Cx 29 (by decide) ⟨rfl, rfl⟩ dX12_ray_106 ?_
              have q_14 : (-2147483648) ≤ u_9.1 231 86 ∧ u_9.1 231 86 ≤ 2147483647 := iu_9.fi 86
              refine sBv (sV (As := [.ref (G.1.2 100 29)]) (rest := []) (k := 231) Cx (s_X12_say l G u_9 (si := 29) iu_9 (by decide) (by omega)) (c_X12_666 Cx rfl rfl (rmk_ok (by omega) (by decide))) hW (by decide) rfl rfl rfl hl.1 rfl (Nat.le_of_ble_eq_true rfl) dX12_ray_109 ⟨Nat.le_of_ble_eq_true rfl, Nat.le_of_ble_eq_true rfl⟩) hL (fun u_15 H locs k_16 hW hL => ?_)
              obtain ⟨iu_15, fu_15, gu_15, xu_15⟩ := k_16
              have F_17 := F_11.trans (fu_15.to (pl_sub (by decide)))
              have g_18 : FF S u_15 (fl [6, 61, 86]) := FF.trans g_12 (FF.to gu_15 (fl_sub (by decide)))
              have hsu_15 : ((strN.getD 29 0 : Nat) : Int) = 2 := rfl
              refine lv_aload_n hx hb dX12_ray_112 rfl (lv_at hl 1 rfl) ?_
              refine lv_aload_n hx hb dX12_ray_113 rfl (lv_at hl 1 rfl) ?_
              refine g_X12_163 Cx hW (k := 231) (by decide) rfl (v := .ref (G.2.2.1 + 281)) (rd_91 iu_15) dX12_ray_114 ?_
              refine lv_iconst (v := iv 0) hx hb dX12_ray_117 (by decide) ?_
              refine lv_aload_n hx hb dX12_ray_118 rfl (lv_at hl 1 rfl) ?_
              refine g_X12_109 Cx hW (k := 231) (by decide) rfl (v := .ref (G.2.2.1 + 264)) (rd_55 iu_15) dX12_ray_119 ?_
              refine lv_iconst (v := iv 0) hx hb dX12_ray_122 (by decide) ?_
              have lk_19 : u_15.1 231 46 = S.1 231 46 := (gu_15 46 rfl).trans ((gu_9 46 rfl).trans ((gL33_ 46 rfl).trans ((gL7_ 46 rfl).trans (uF_ne (fun h => absurd h.2 (by decide))))))
              have q_20 : (-2147483648) ≤ u_15.1 231 86 ∧ u_15.1 231 86 ≤ 2147483647 := iu_15.fi 86
              refine sBv (sV (As := [.ref (G.2.2.1 + 281), .int (iv 0), .ref (G.2.2.1 + 264), .int (iv 0)]) (rest := []) (k := 231) Cx (s_X12_sayPoint l G u_15 (ka := 281) (po := 0) (kb := 264) (qo := 0) (Nka := 104) (Nkb := 8) iu_15 ⟨rfl, by decide, by decide, by decide, rfl⟩ ⟨rfl, by decide, by decide, by decide, rfl⟩ (show (281 : Nat) ≠ 231 by decide) (show (281 : Nat) ≠ 233 by decide) (show (281 : Nat) ≠ 234 by decide) (show (281 : Nat) ≠ 235 by decide) (show (281 : Nat) ≠ 236 by decide) (show (281 : Nat) ≠ 237 by decide) (show (281 : Nat) ≠ 239 by decide) (show (281 : Nat) ≠ 240 by decide) (show (281 : Nat) ≠ 241 by decide) (show (281 : Nat) ≠ 242 by decide) (show (281 : Nat) ≠ 276 by decide) (show (281 : Nat) ≠ 280 by decide) (show (264 : Nat) ≠ 231 by decide) (show (264 : Nat) ≠ 233 by decide) (show (264 : Nat) ≠ 234 by decide) (show (264 : Nat) ≠ 235 by decide) (show (264 : Nat) ≠ 236 by decide) (show (264 : Nat) ≠ 237 by decide) (show (264 : Nat) ≠ 239 by decide) (show (264 : Nat) ≠ 240 by decide) (show (264 : Nat) ≠ 241 by decide) (show (264 : Nat) ≠ 242 by decide) (show (264 : Nat) ≠ 276 by decide) (show (264 : Nat) ≠ 280 by decide) (by omega) (MD.sm (S := S) (u := u_15) hM ((gu_15 46 rfl).trans ((gu_9 46 rfl).trans ((gL33_ 46 rfl).trans ((gL7_ 46 rfl).trans (uF_ne (fun h => absurd h.2 (by decide))))))) ((gu_15 47 rfl).trans ((gu_9 47 rfl).trans ((gL33_ 47 rfl).trans ((gL7_ 47 rfl).trans (uF_ne (fun h => absurd h.2 (by decide))))))) ((gu_15 63 rfl).trans ((gu_9 63 rfl).trans ((gL33_ 63 rfl).trans ((gL7_ 63 rfl).trans (uF_ne (fun h => absurd h.2 (by decide)))))))) (fun j a b => by rw [show u_15.2.1 281 = S33.2.1 281 from (funext fun j => ((fu_15 281 rfl).2.1 j).trans ((fu_9 281 rfl).2.1 j)), show (0 : Int) + 8 * j = 8 * j by omega]; exact hz33 j (by omega) (by have e8 := (show u_15.1 231 46 = S.1 231 46 from (gu_15 46 rfl).trans ((gu_9 46 rfl).trans ((gL33_ 46 rfl).trans ((gL7_ 46 rfl).trans (uF_ne (fun h => absurd h.2 (by decide))))))); omega)) (by rw [show u_15.2.1 264 = S.2.1 264 from (funext fun j => ((fu_15 264 rfl).2.1 j).trans (((fu_9 264 rfl).2.1 j).trans (((hL33_ 264 rfl).2.1 j).trans (((hL7_ 264 rfl).2.1 j).trans (uF_a)))))]; exact hD.2.2.1) (by rw [show u_15.2.1 264 = S.2.1 264 from (funext fun j => ((fu_15 264 rfl).2.1 j).trans (((fu_9 264 rfl).2.1 j).trans (((hL33_ 264 rfl).2.1 j).trans (((hL7_ 264 rfl).2.1 j).trans (uF_a)))))]; exact hD.2.2.2) (by omega)) (c_X12_675 Cx rfl rfl (rmk_ok (by omega) (by decide))) hW (by decide) rfl rfl rfl hl.1 rfl (Nat.le_of_ble_eq_true rfl) dX12_ray_123 ⟨Nat.le_of_ble_eq_true rfl, Nat.le_of_ble_eq_true rfl⟩) hL (fun u_21 H locs k_22 hW hL => ?_)
              obtain ⟨iu_21, fu_21, gu_21, xu_21⟩ := k_22
              have F_23 := F_17.trans (fu_21.to (pl_sub (by decide)))
              have g_24 : FF S u_21 (fl [6, 61, 86]) := FF.trans g_18 (FF.to gu_21 (fl_sub (by decide)))
              refine lv_aload_n hx hb dX12_ray_126 rfl (lv_at hl 1 rfl) ?_
              refine zLdcw Cx 35 (by decide) ⟨rfl, rfl⟩ dX12_ray_127 ?_
              have q_25 : (-2147483648) ≤ u_21.1 231 86 ∧ u_21.1 231 86 ≤ 2147483647 := iu_21.fi 86
              refine sBv (sV (As := [.ref (G.1.2 100 35)]) (rest := []) (k := 231) Cx (s_X12_say l G u_21 (si := 35) iu_21 (by decide) (by omega)) (c_X12_666 Cx rfl rfl (rmk_ok (by omega) (by decide))) hW (by decide) rfl rfl rfl hl.1 rfl (Nat.le_of_ble_eq_true rfl) dX12_ray_130 ⟨Nat.le_of_ble_eq_true rfl, Nat.le_of_ble_eq_true rfl⟩) hL (fun u_26 H locs k_27 hW hL => ?_)
              obtain ⟨iu_26, fu_26, gu_26, xu_26⟩ := k_27
              have F_28 := F_23.trans (fu_26.to (pl_sub (by decide)))
              have g_29 : FF S u_26 (fl [6, 61, 86]) := FF.trans g_24 (FF.to gu_26 (fl_sub (by decide)))
              have hsu_26 : ((strN.getD 35 0 : Nat) : Int) = 5 := rfl
              refine lv_iconst (v := iv 1) hx hb dX12_ray_133 (by decide) ?_
              refine lv_istore_n (lv' := [(1, .int (iv 1)), (0, .ref (G.2.2.1 + 231))]) hx hb dX12_ray_134 rfl hl (by decide) rfl (fun ls hl => ?_)
              have loop_135 : ∀ (fuel : Nat) (S135 : sS) (j : Int) (H : Heap) (locs : List Loc) (ls : Array Slot), (S.1 231 46 + 1 - j).toNat < fuel → (dX G S135) → (Fr S S135 (pl [231, 233, 234, 235, 236, 237, 239, 240, 241, 242, 276, 280, 281])) → (Fr u_26 S135 (pl [281])) → (FF S S135 (fl [6, 61, 86])) → (FF u_26 S135 (fl [])) → (1 ≤ j ∧ j ≤ S.1 231 46 + 1) → (∀ t, 1 ≤ t → t < j → S135.2.1 281 (8 * t) = 0) → sW G 294 S135 H → sL G locs → lv_has ls 2 [(1, .int (iv j)), (0, .ref (G.2.2.1 + 231))] → W p l e (rmk 8 0 0) s m args below meth c H locs 0 0 (MQ below (sQv G 294 (fun u => dX G u ∧ Fr S u (pl [231, 233, 234, 235, 236, 237, 239, 240, 241, 242, 276, 280, 281]) ∧ FF S u (fl [6, 61, 86]) ∧ (u.1 231 61 = 4 ∧ 0 ≤ u.1 231 86 ∧ u.1 231 86 ≤ 36000))) args s 0 0 (sF G)) (F0 m 135 ls []) := by
                intro fuel
                induction fuel with
                | zero => intro S135 j H locs ls hmeas hI135 hFm135 hL135_ hGm135 gL135_ hj hz135 hW hL hl; exact absurd hmeas (Nat.not_lt_zero _)
                | succ fuel ih_135 =>
                  intro S135 j H locs ls hmeas hI135 hFm135 hL135_ hGm135 gL135_ hj hz135 hW hL hl
                  refine lv_iload_n hx hb dX12_ray_135 rfl (lv_at hl 0 rfl) ?_
                  refine lv_aload_n hx hb dX12_ray_136 rfl (lv_at hl 1 rfl) ?_
                  refine g_X12_465 Cx hW (k := 231) (by decide) rfl (v := S.1 231 46) ((gL135_ 46 rfl).trans ((gu_26 46 rfl).trans ((gu_21 46 rfl).trans ((gu_15 46 rfl).trans ((gu_9 46 rfl).trans ((gL33_ 46 rfl).trans ((gL7_ 46 rfl).trans (uF_ne (fun h => absurd h.2 (by decide)))))))))) dX12_ray_137 ?_
                  refine r_icmp_gt (tgt := 159) hx hb ⟨(by omega), (by omega)⟩ ⟨(by omega), (by omega)⟩ dX12_ray_140 (by decide) (fun c_30 => ?_) (fun c_30 => ?_)
                  · refine lv_iconst (v := iv 1) hx hb dX12_ray_159 (by decide) ?_
                    refine lv_istore_n (lv' := [(1, .int (iv 1)), (0, .ref (G.2.2.1 + 231))]) hx hb dX12_ray_160 rfl hl (by decide) rfl (fun ls hl => ?_)
                    have loop_161 : ∀ (fuel : Nat) (S161 : sS) (i : Int) (H : Heap) (locs : List Loc) (ls : Array Slot), (S.1 231 58 + 1 - i).toNat < fuel → (dX G S161) → (Fr S S161 (pl [231, 233, 234, 235, 236, 237, 239, 240, 241, 242, 276, 280, 281])) → (Fr S135 S161 (pl [281])) → (FF S S161 (fl [6, 61, 86])) → (FF S135 S161 (fl [])) → (1 ≤ i ∧ i ≤ S.1 231 58 + 1) → (∀ j, 1 ≤ j → j ≤ S.1 231 46 → NO (S161.2.1 281) (8 * j) 6) → sW G 294 S161 H → sL G locs → lv_has ls 2 [(1, .int (iv i)), (0, .ref (G.2.2.1 + 231))] → W p l e (rmk 8 0 0) s m args below meth c H locs 0 0 (MQ below (sQv G 294 (fun u => dX G u ∧ Fr S u (pl [231, 233, 234, 235, 236, 237, 239, 240, 241, 242, 276, 280, 281]) ∧ FF S u (fl [6, 61, 86]) ∧ (u.1 231 61 = 4 ∧ 0 ≤ u.1 231 86 ∧ u.1 231 86 ≤ 36000))) args s 0 0 (sF G)) (F0 m 161 ls []) := by
                      intro fuel
                      induction fuel with
                      | zero => intro S161 i H locs ls hmeas hI161 hFm161 hL161_ hGm161 gL161_ hi hz161 hW hL hl; exact absurd hmeas (Nat.not_lt_zero _)
                      | succ fuel ih_161 =>
                        intro S161 i H locs ls hmeas hI161 hFm161 hL161_ hGm161 gL161_ hi hz161 hW hL hl
                        refine lv_iload_n hx hb dX12_ray_161 rfl (lv_at hl 0 rfl) ?_
                        refine lv_aload_n hx hb dX12_ray_162 rfl (lv_at hl 1 rfl) ?_
                        refine g_X12_483 Cx hW (k := 231) (by decide) rfl (v := S.1 231 58) ((gL161_ 58 rfl).trans ((gL135_ 58 rfl).trans ((gu_26 58 rfl).trans ((gu_21 58 rfl).trans ((gu_15 58 rfl).trans ((gu_9 58 rfl).trans ((gL33_ 58 rfl).trans ((gL7_ 58 rfl).trans (uF_ne (fun h => absurd h.2 (by decide))))))))))) dX12_ray_163 ?_
                        refine r_icmp_gt (tgt := 248) hx hb ⟨(by omega), (by omega)⟩ ⟨(by omega), (by omega)⟩ dX12_ray_166 (by decide) (fun c_31 => ?_) (fun c_31 => ?_)
                        · have join_301 : ∀ (S301 : sS)  (H : Heap) (locs : List Loc) (ls : Array Slot), (dX G S301) → (Fr S S301 (pl [231, 233, 234, 235, 236, 237, 239, 240, 241, 242, 276, 280, 281])) → (Fr S135 S301 (pl [281])) → (Fr S161 S301 (pl [281])) → (FF S S301 (fl [6, 61, 86])) → (FF S135 S301 (fl [])) → (FF S161 S301 (fl [])) → (∀ j, 1 ≤ j → j ≤ S.1 231 46 → NO (S301.2.1 281) (8 * j) 6) → sW G 294 S301 H → sL G locs → lv_has ls 2 [(1, .int (iv i)), (0, .ref (G.2.2.1 + 231))] → W p l e (rmk 8 0 0) s m args below meth c H locs 0 0 (MQ below (sQv G 294 (fun u => dX G u ∧ Fr S u (pl [231, 233, 234, 235, 236, 237, 239, 240, 241, 242, 276, 280, 281]) ∧ FF S u (fl [6, 61, 86]) ∧ (u.1 231 61 = 4 ∧ 0 ≤ u.1 231 86 ∧ u.1 231 86 ≤ 36000))) args s 0 0 (sF G)) (F0 m 301 ls []) := by
                            intro S301  H locs ls hI301 hFm301 hFL161301 hL301_ hGm301 hGL161301 gL301_ hz301 hW hL hl
                            refine lv_iconst (v := iv 1) hx hb dX12_ray_301 (by decide) ?_
                            refine lv_istore_n (lv' := [(1, .int (iv 1)), (0, .ref (G.2.2.1 + 231))]) hx hb dX12_ray_302 rfl hl (by decide) rfl (fun ls hl => ?_)
                            have loop_303 : ∀ (fuel : Nat) (S303 : sS) (j : Int) (H : Heap) (locs : List Loc) (ls : Array Slot), (S.1 231 46 + 1 - j).toNat < fuel → (dX G S303) → (Fr S S303 (pl [231, 233, 234, 235, 236, 237, 239, 240, 241, 242, 276, 280, 281])) → (Fr S301 S303 (pl [231, 236, 276])) → (FF S S303 (fl [6, 61, 86])) → (FF S301 S303 (fl [6, 86])) → (1 ≤ j ∧ j ≤ S.1 231 46 + 1) → (0 ≤ S303.1 231 86 ∧ S303.1 231 86 ≤ 1000 + 60 * (j - 1)) → sW G 294 S303 H → sL G locs → lv_has ls 2 [(1, .int (iv j)), (0, .ref (G.2.2.1 + 231))] → W p l e (rmk 8 0 0) s m args below meth c H locs 0 0 (MQ below (sQv G 294 (fun u => dX G u ∧ Fr S u (pl [231, 233, 234, 235, 236, 237, 239, 240, 241, 242, 276, 280, 281]) ∧ FF S u (fl [6, 61, 86]) ∧ (u.1 231 61 = 4 ∧ 0 ≤ u.1 231 86 ∧ u.1 231 86 ≤ 36000))) args s 0 0 (sF G)) (F0 m 303 ls []) := by
                              intro fuel
                              induction fuel with
                              | zero => intro S303 j H locs ls hmeas hI303 hFm303 hL303_ hGm303 gL303_ hj h303 hW hL hl; exact absurd hmeas (Nat.not_lt_zero _)
                              | succ fuel ih_303 =>
                                intro S303 j H locs ls hmeas hI303 hFm303 hL303_ hGm303 gL303_ hj h303 hW hL hl
                                refine lv_iload_n hx hb dX12_ray_303 rfl (lv_at hl 0 rfl) ?_
                                refine lv_aload_n hx hb dX12_ray_304 rfl (lv_at hl 1 rfl) ?_
                                refine g_X12_465 Cx hW (k := 231) (by decide) rfl (v := S.1 231 46) ((gL303_ 46 rfl).trans ((gL301_ 46 rfl).trans ((gL161_ 46 rfl).trans ((gL135_ 46 rfl).trans ((gu_26 46 rfl).trans ((gu_21 46 rfl).trans ((gu_15 46 rfl).trans ((gu_9 46 rfl).trans ((gL33_ 46 rfl).trans ((gL7_ 46 rfl).trans (uF_ne (fun h => absurd h.2 (by decide))))))))))))) dX12_ray_305 ?_
                                refine r_icmp_gt (tgt := 338) hx hb ⟨(by omega), (by omega)⟩ ⟨(by omega), (by omega)⟩ dX12_ray_308 (by decide) (fun c_32 => ?_) (fun c_32 => ?_)
                                · refine lv_aload_n hx hb dX12_ray_338 rfl (lv_at hl 1 rfl) ?_
                                  refine zLdcw Cx 28 (by decide) ⟨rfl, rfl⟩ dX12_ray_339 ?_
                                  have q_33 : (-2147483648) ≤ S303.1 231 86 ∧ S303.1 231 86 ≤ 2147483647 := hI303.fi 86
                                  refine sBv (sV (As := [.ref (G.1.2 100 28)]) (rest := []) (k := 231) Cx (s_X12_say l G S303 (si := 28) hI303 (by decide) (by omega)) (c_X12_666 Cx rfl rfl (rmk_ok (by omega) (by decide))) hW (by decide) rfl rfl rfl hl.1 rfl (Nat.le_of_ble_eq_true rfl) dX12_ray_342 ⟨Nat.le_of_ble_eq_true rfl, Nat.le_of_ble_eq_true rfl⟩) hL (fun u_34 H locs k_35 hW hL => ?_)
                                  obtain ⟨iu_34, fu_34, gu_34, xu_34⟩ := k_35
                                  have F_36 := hFm303.trans (fu_34.to (pl_sub (by decide)))
                                  have F_37 := hL303_.trans (fu_34.to (pl_sub (by decide)))
                                  have g_38 : FF S u_34 (fl [6, 61, 86]) := FF.trans hGm303 (FF.to gu_34 (fl_sub (by decide)))
                                  have g_39 : FF S301 u_34 (fl [6, 86]) := FF.trans gL303_ (FF.to gu_34 (fl_sub (by decide)))
                                  have hsu_34 : ((strN.getD 28 0 : Nat) : Int) = 1 := rfl
                                  refine lv_aload_n hx hb dX12_ray_345 rfl (lv_at hl 1 rfl) ?_
                                  refine zLdcw Cx 36 (by decide) ⟨rfl, rfl⟩ dX12_ray_346 ?_
                                  have q_40 : (-2147483648) ≤ u_34.1 231 86 ∧ u_34.1 231 86 ≤ 2147483647 := iu_34.fi 86
                                  refine sBv (sV (As := [.ref (G.1.2 100 36)]) (rest := []) (k := 231) Cx (s_X12_say l G u_34 (si := 36) iu_34 (by decide) (by omega)) (c_X12_666 Cx rfl rfl (rmk_ok (by omega) (by decide))) hW (by decide) rfl rfl rfl hl.1 rfl (Nat.le_of_ble_eq_true rfl) dX12_ray_349 ⟨Nat.le_of_ble_eq_true rfl, Nat.le_of_ble_eq_true rfl⟩) hL (fun u_41 H locs k_42 hW hL => ?_)
                                  obtain ⟨iu_41, fu_41, gu_41, xu_41⟩ := k_42
                                  have F_43 := F_36.trans (fu_41.to (pl_sub (by decide)))
                                  have F_44 := F_37.trans (fu_41.to (pl_sub (by decide)))
                                  have g_45 : FF S u_41 (fl [6, 61, 86]) := FF.trans g_38 (FF.to gu_41 (fl_sub (by decide)))
                                  have g_46 : FF S301 u_41 (fl [6, 86]) := FF.trans g_39 (FF.to gu_41 (fl_sub (by decide)))
                                  have hsu_41 : ((strN.getD 36 0 : Nat) : Int) = 1 := rfl
                                  refine lv_aload_n hx hb dX12_ray_352 rfl (lv_at hl 1 rfl) ?_
                                  refine lv_iconst (v := iv 4) hx hb dX12_ray_353 (by decide) ?_
                                  refine p_X12_477 Cx hW hL (k := 231) (by decide) rfl dX12_ray_354 (fun H locs hW hL => ?_)
                                  have F_47 : Fr S (uF u_41 231 61 4) (pl [231, 233, 234, 235, 236, 237, 239, 240, 241, 242, 276, 280, 281]) := F_43.F rfl
                                  have F_48 : Fr S301 (uF u_41 231 61 4) (pl [231, 236, 276]) := F_44.F rfl
                                  have g_49 : FF S (uF u_41 231 61 4) (fl [6, 61, 86]) := FF.F g_45 rfl
                                  have i_50 : dX G (uF u_41 231 61 4) := iu_41.F (i := 61) (show (-2147483648) ≤ 4 ∧ 4 ≤ 2147483647 from ⟨by omega, by omega⟩)
                                  have lk_51 : (uF u_41 231 61 4).1 231 61 = 4 := uF_on
                                  have q_52 : (-2147483648) ≤ u_41.1 231 86 ∧ u_41.1 231 86 ≤ 2147483647 := iu_41.fi 86
                                  have lk_53 : (uF u_41 231 61 4).1 231 86 = u_41.1 231 86 := uF_ne (fun h => absurd h.2 (by decide))
                                  exact sVret Cx hr hlk hW hL ⟨i_50, F_47, g_49, (by omega)⟩ dX12_ray_357
                                · refine lv_aload_n hx hb dX12_ray_311 rfl (lv_at hl 1 rfl) ?_
                                  refine lv_iconst (v := iv 0) hx hb dX12_ray_312 (by decide) ?_
                                  refine p_X12_259 Cx hW hL (k := 231) (by decide) rfl dX12_ray_313 (fun H locs hW hL => ?_)
                                  have F_54 : Fr S (uF S303 231 6 0) (pl [231, 233, 234, 235, 236, 237, 239, 240, 241, 242, 276, 280, 281]) := hFm303.F rfl
                                  have F_55 : Fr S301 (uF S303 231 6 0) (pl [231, 236, 276]) := hL303_.F rfl
                                  have g_56 : FF S (uF S303 231 6 0) (fl [6, 61, 86]) := FF.F hGm303 rfl
                                  have g_57 : FF S301 (uF S303 231 6 0) (fl [6, 86]) := FF.F gL303_ rfl
                                  have i_58 : dX G (uF S303 231 6 0) := hI303.F (i := 6) (show (-2147483648) ≤ 0 ∧ 0 ≤ 2147483647 from ⟨by omega, by omega⟩)
                                  refine lv_aload_n hx hb dX12_ray_316 rfl (lv_at hl 1 rfl) ?_
                                  refine lv_aload_n hx hb dX12_ray_317 rfl (lv_at hl 1 rfl) ?_
                                  refine g_X12_163 Cx hW (k := 231) (by decide) rfl (v := .ref (G.2.2.1 + 281)) (rd_91 i_58) dX12_ray_318 ?_
                                  refine lv_bipush (v := iv 8) hx hb dX12_ray_321 (by decide) ?_
                                  refine lv_iload_n hx hb dX12_ray_323 rfl (lv_at hl 0 rfl) ?_
                                  refine r_imul hx hb dX12_ray_324 ?_
                                  have lk_59 : (uF S303 231 6 0).1 231 6 = 0 := uF_on
                                  refine sBv (sV (As := [.ref (G.2.2.1 + 281), .int (iv (8 * j))]) (rest := []) (k := 231) Cx (s_X12_spell l G (uF S303 231 6 0) (ka := 281) (po := 8 * j) (Nka := 104) (La := 6) i_58 ⟨rfl, by decide, by decide, by decide, rfl⟩ (by omega) (by omega) (by rw [show (uF S303 231 6 0).2.1 281 = S301.2.1 281 from (funext fun j => (uF_a).trans ((hL303_ 281 rfl).2.1 j))]; exact hz301 j (by omega) (by omega)) (show (281 : Nat) ≠ 231 by decide) (show (281 : Nat) ≠ 236 by decide)) (c_X12_594 Cx rfl rfl (rmk_ok (by omega) (by decide))) hW (by decide) rfl rfl rfl hl.1 rfl (Nat.le_of_ble_eq_true rfl) dX12_ray_325 ⟨Nat.le_of_ble_eq_true rfl, Nat.le_of_ble_eq_true rfl⟩) hL (fun u_60 H locs k_61 hW hL => ?_)
                                  obtain ⟨iu_60, fu_60, gu_60, xu_60⟩ := k_61
                                  have F_62 := F_54.trans (fu_60.to (pl_sub (by decide)))
                                  have F_63 := F_55.trans (fu_60.to (pl_sub (by decide)))
                                  have g_64 : FF S u_60 (fl [6, 61, 86]) := FF.trans g_56 (FF.to gu_60 (fl_sub (by decide)))
                                  have g_65 : FF S301 u_60 (fl [6, 86]) := FF.trans g_57 (FF.to gu_60 (fl_sub (by decide)))
                                  refine lv_aload_n hx hb dX12_ray_328 rfl (lv_at hl 1 rfl) ?_
                                  have q_66 : (-2147483648) ≤ S303.1 231 86 ∧ S303.1 231 86 ≤ 2147483647 := hI303.fi 86
                                  have lk_67 : u_60.1 231 86 = S303.1 231 86 := (gu_60 86 rfl).trans (uF_ne (fun h => absurd h.2 (by decide)))
                                  have q_68 : (-2147483648) ≤ u_60.1 231 6 ∧ u_60.1 231 6 ≤ 2147483647 := iu_60.fi 6
                                  refine sBv (sV (As := []) (rest := []) (k := 231) Cx (s_X12_sayLetters l G u_60  iu_60 (by omega) (by omega)) (c_X12_661 Cx rfl rfl (rmk_ok (by omega) (by decide))) hW (by decide) rfl rfl rfl hl.1 rfl (Nat.le_of_ble_eq_true rfl) dX12_ray_329 ⟨Nat.le_of_ble_eq_true rfl, Nat.le_of_ble_eq_true rfl⟩) hL (fun u_69 H locs k_70 hW hL => ?_)
                                  obtain ⟨iu_69, fu_69, gu_69, xu_69⟩ := k_70
                                  have F_71 := F_62.trans (fu_69.to (pl_sub (by decide)))
                                  have F_72 := F_63.trans (fu_69.to (pl_sub (by decide)))
                                  have g_73 : FF S u_69 (fl [6, 61, 86]) := FF.trans g_64 (FF.to gu_69 (fl_sub (by decide)))
                                  have g_74 : FF S301 u_69 (fl [6, 86]) := FF.trans g_65 (FF.to gu_69 (fl_sub (by decide)))
                                  refine lv_iinc (v := iv (j + 1)) (lv' := [(1, .int (iv (j + 1))), (0, .ref (G.2.2.1 + 231))]) hx hb dX12_ray_332 hl (k := 0) rfl ((Int32.ofInt_add _ _).symm) (by decide) rfl (fun ls hl => ?_)
                                  refine lv_goto (tgt := 303) hx hb dX12_ray_335 (by decide) ?_
                                  have q_75 : (-2147483648) ≤ u_69.1 231 86 ∧ u_69.1 231 86 ≤ 2147483647 := iu_69.fi 86
                                  exact ih_303 u_69 (j + 1) _ _ _ (by omega) iu_69 F_71 F_72 g_73 g_74 (by omega) (by omega) hW hL (lv_sub hl [0, 1] rfl)
                            have q_76 : (-2147483648) ≤ u_26.1 231 86 ∧ u_26.1 231 86 ≤ 2147483647 := iu_26.fi 86
                            have lk_77 : S301.1 231 86 = u_26.1 231 86 := (gL301_ 86 rfl).trans ((gL161_ 86 rfl).trans (gL135_ 86 rfl))
                            exact loop_303 (_ + 1) S301 1 _ _ _ (Nat.lt_succ_self _) hI301 hFm301 Fr.rf hGm301 FF.rf (by omega) (by omega) hW hL (lv_sub hl [0, 1] rfl)
                          refine lv_aload_n hx hb dX12_ray_248 rfl (lv_at hl 1 rfl) ?_
                          refine g_X12_115 Cx hW (k := 231) (by decide) rfl (v := .ref (G.2.2.1 + 266)) (rd_57 hI161) dX12_ray_249 ?_
                          refine lv_aload_n hx hb dX12_ray_252 rfl (lv_at hl 1 rfl) ?_
                          have q_78 : (-2147483648) ≤ S.1 231 72 ∧ S.1 231 72 ≤ 2147483647 := hI.fi 72
                          refine g_X12_555 Cx hW (k := 231) (by decide) rfl (v := S.1 231 72) ((gL161_ 72 rfl).trans ((gL135_ 72 rfl).trans ((gu_26 72 rfl).trans ((gu_21 72 rfl).trans ((gu_15 72 rfl).trans ((gu_9 72 rfl).trans ((gL33_ 72 rfl).trans ((gL7_ 72 rfl).trans (uF_ne (fun h => absurd h.2 (by decide))))))))))) dX12_ray_253 ?_
                          refine rIald Cx hW (k := 266) (by decide) rfl (by decide) (by omega) (by omega) dX12_ray_256 ?_
                          have q_79 : (-2147483648) ≤ S.2.1 266 (S.1 231 72) ∧ S.2.1 266 (S.1 231 72) ≤ 2147483647 := hI.ai 266 (S.1 231 72)
                          refine r_i (b := S.2.1 266 (S.1 231 72)) (((hL161_ 266 rfl).2.1 (S.1 231 72)).trans (((hL135_ 266 rfl).2.1 (S.1 231 72)).trans (((fu_26 266 rfl).2.1 (S.1 231 72)).trans (((fu_21 266 rfl).2.1 (S.1 231 72)).trans (((fu_15 266 rfl).2.1 (S.1 231 72)).trans (((fu_9 266 rfl).2.1 (S.1 231 72)).trans (((hL33_ 266 rfl).2.1 (S.1 231 72)).trans (((hL7_ 266 rfl).2.1 (S.1 231 72)).trans (uF_a))))))))) ?_
                          refine lv_iconst (v := iv 1) hx hb dX12_ray_257 (by decide) ?_
                          refine r_icmp_lt (tgt := 301) hx hb ⟨(by omega), (by omega)⟩ ⟨(by omega), (by omega)⟩ dX12_ray_258 (by decide) (fun c_80 => ?_) (fun c_80 => ?_)
                          · exact join_301 S161  _ _ _ hI161 hFm161 hL161_ (Fr.rf : Fr S161 S161 (pl [281])) hGm161 gL161_ (FF.rf : FF S161 S161 (fl [])) hz161 hW hL (lv_sub hl [0, 1] rfl)
                          · refine lv_aload_n hx hb dX12_ray_261 rfl (lv_at hl 1 rfl) ?_
                            refine g_X12_115 Cx hW (k := 231) (by decide) rfl (v := .ref (G.2.2.1 + 266)) (rd_57 hI161) dX12_ray_262 ?_
                            refine lv_aload_n hx hb dX12_ray_265 rfl (lv_at hl 1 rfl) ?_
                            refine g_X12_555 Cx hW (k := 231) (by decide) rfl (v := S.1 231 72) ((gL161_ 72 rfl).trans ((gL135_ 72 rfl).trans ((gu_26 72 rfl).trans ((gu_21 72 rfl).trans ((gu_15 72 rfl).trans ((gu_9 72 rfl).trans ((gL33_ 72 rfl).trans ((gL7_ 72 rfl).trans (uF_ne (fun h => absurd h.2 (by decide))))))))))) dX12_ray_266 ?_
                            refine rIald Cx hW (k := 266) (by decide) rfl (by decide) (by omega) (by omega) dX12_ray_269 ?_
                            refine r_i (b := S.2.1 266 (S.1 231 72)) (((hL161_ 266 rfl).2.1 (S.1 231 72)).trans (((hL135_ 266 rfl).2.1 (S.1 231 72)).trans (((fu_26 266 rfl).2.1 (S.1 231 72)).trans (((fu_21 266 rfl).2.1 (S.1 231 72)).trans (((fu_15 266 rfl).2.1 (S.1 231 72)).trans (((fu_9 266 rfl).2.1 (S.1 231 72)).trans (((hL33_ 266 rfl).2.1 (S.1 231 72)).trans (((hL7_ 266 rfl).2.1 (S.1 231 72)).trans (uF_a))))))))) ?_
                            refine lv_aload_n hx hb dX12_ray_270 rfl (lv_at hl 1 rfl) ?_
                            refine g_X12_465 Cx hW (k := 231) (by decide) rfl (v := S.1 231 46) ((gL161_ 46 rfl).trans ((gL135_ 46 rfl).trans ((gu_26 46 rfl).trans ((gu_21 46 rfl).trans ((gu_15 46 rfl).trans ((gu_9 46 rfl).trans ((gL33_ 46 rfl).trans ((gL7_ 46 rfl).trans (uF_ne (fun h => absurd h.2 (by decide))))))))))) dX12_ray_271 ?_
                            refine r_icmp_gt (tgt := 301) hx hb ⟨(by omega), (by omega)⟩ ⟨(by omega), (by omega)⟩ dX12_ray_274 (by decide) (fun c_81 => ?_) (fun c_81 => ?_)
                            · exact join_301 S161  _ _ _ hI161 hFm161 hL161_ (Fr.rf : Fr S161 S161 (pl [281])) hGm161 gL161_ (FF.rf : FF S161 S161 (fl [])) hz161 hW hL (lv_sub hl [0, 1] rfl)
                            · refine lv_aload_n hx hb dX12_ray_277 rfl (lv_at hl 1 rfl) ?_
                              refine g_X12_109 Cx hW (k := 231) (by decide) rfl (v := .ref (G.2.2.1 + 264)) (rd_55 hI161) dX12_ray_278 ?_
                              refine lv_iconst (v := iv 0) hx hb dX12_ray_281 (by decide) ?_
                              refine lv_aload_n hx hb dX12_ray_282 rfl (lv_at hl 1 rfl) ?_
                              refine g_X12_163 Cx hW (k := 231) (by decide) rfl (v := .ref (G.2.2.1 + 281)) (rd_91 hI161) dX12_ray_283 ?_
                              refine lv_bipush (v := iv 8) hx hb dX12_ray_286 (by decide) ?_
                              refine lv_aload_n hx hb dX12_ray_288 rfl (lv_at hl 1 rfl) ?_
                              refine g_X12_115 Cx hW (k := 231) (by decide) rfl (v := .ref (G.2.2.1 + 266)) (rd_57 hI161) dX12_ray_289 ?_
                              refine lv_aload_n hx hb dX12_ray_292 rfl (lv_at hl 1 rfl) ?_
                              refine g_X12_555 Cx hW (k := 231) (by decide) rfl (v := S.1 231 72) ((gL161_ 72 rfl).trans ((gL135_ 72 rfl).trans ((gu_26 72 rfl).trans ((gu_21 72 rfl).trans ((gu_15 72 rfl).trans ((gu_9 72 rfl).trans ((gL33_ 72 rfl).trans ((gL7_ 72 rfl).trans (uF_ne (fun h => absurd h.2 (by decide))))))))))) dX12_ray_293 ?_
                              refine rIald Cx hW (k := 266) (by decide) rfl (by decide) (by omega) (by omega) dX12_ray_296 ?_
                              refine r_i (b := S.2.1 266 (S.1 231 72)) (((hL161_ 266 rfl).2.1 (S.1 231 72)).trans (((hL135_ 266 rfl).2.1 (S.1 231 72)).trans (((fu_26 266 rfl).2.1 (S.1 231 72)).trans (((fu_21 266 rfl).2.1 (S.1 231 72)).trans (((fu_15 266 rfl).2.1 (S.1 231 72)).trans (((fu_9 266 rfl).2.1 (S.1 231 72)).trans (((hL33_ 266 rfl).2.1 (S.1 231 72)).trans (((hL7_ 266 rfl).2.1 (S.1 231 72)).trans (uF_a))))))))) ?_
                              refine r_imul hx hb dX12_ray_297 ?_
                              refine sBv (sSt (As := [.ref (G.2.2.1 + 264), .int (iv 0), .ref (G.2.2.1 + 281), .int (iv (8 * (S.2.1 266 (S.1 231 72))))]) (rest := []) Cx (s_X12_copy l G S161 (ka := 264) (po := 0) (kb := 281) (qo := 8 * (S.2.1 266 (S.1 231 72))) (Nka := 8) (Nkb := 104) (La := 6) hI161 ⟨rfl, by decide, by decide, by decide, rfl⟩ ⟨rfl, by decide, by decide, by decide, rfl⟩ (show (281 : Nat) ≠ 264 by decide) (by omega) (by rw [show S161.2.1 264 = S.2.1 264 from (funext fun j => ((hL161_ 264 rfl).2.1 j).trans (((hL135_ 264 rfl).2.1 j).trans (((fu_26 264 rfl).2.1 j).trans (((fu_21 264 rfl).2.1 j).trans (((fu_15 264 rfl).2.1 j).trans (((fu_9 264 rfl).2.1 j).trans (((hL33_ 264 rfl).2.1 j).trans (((hL7_ 264 rfl).2.1 j).trans (uF_a)))))))))]; exact hD.2.2.1)) (c_X12_233 Cx rfl rfl (rmk_ok (by omega) (by decide))) hW rfl hl.1 rfl (Nat.le_of_ble_eq_true rfl) dX12_ray_298 ⟨Nat.le_of_ble_eq_true rfl, Nat.le_of_ble_eq_true rfl⟩) hL (fun u_82 H locs k_83 hW hL => ?_)
                              obtain ⟨iu_82, fu_82, xu_82⟩ := k_83
                              have F_84 := hFm161.trans (fu_82.to (p1_sub rfl))
                              have F_85 := hL161_.trans (fu_82.to (p1_sub rfl))
                              have F_86 := (Fr.rf : Fr S161 S161 (pl [281])).trans (fu_82.to (p1_sub rfl))
                              have g_87 : FF S u_82 (fl [6, 61, 86]) := FF.fr hGm161 fu_82 rfl
                              have g_88 : FF S135 u_82 (fl []) := FF.fr gL161_ fu_82 rfl
                              have g_89 : FF S161 u_82 (fl []) := FF.fr (FF.rf : FF S161 S161 (fl [])) fu_82 rfl
                              exact join_301 u_82  _ _ _ iu_82 F_84 F_85 F_86 g_87 g_88 g_89 (fun t a b => if e : t = S.2.1 266 (S.1 231 72) then (by rw [e]; exact xu_82.1.1) else ((hz161 t a b).same (fun x x0 x1 => xu_82.2 x (c8_far e ⟨x0, x1⟩))).1) hW hL (lv_sub hl [0, 1] rfl)
                        · have join_242 : ∀ (S242 : sS)  (H : Heap) (locs : List Loc) (ls : Array Slot), (dX G S242) → (Fr S S242 (pl [231, 233, 234, 235, 236, 237, 239, 240, 241, 242, 276, 280, 281])) → (Fr S135 S242 (pl [281])) → (Fr S161 S242 (pl [281])) → (FF S S242 (fl [6, 61, 86])) → (FF S135 S242 (fl [])) → (FF S161 S242 (fl [])) → (∀ j, 1 ≤ j → j ≤ S.1 231 46 → NO (S242.2.1 281) (8 * j) 6) → sW G 294 S242 H → sL G locs → lv_has ls 2 [(1, .int (iv i)), (0, .ref (G.2.2.1 + 231))] → W p l e (rmk 8 0 0) s m args below meth c H locs 0 0 (MQ below (sQv G 294 (fun u => dX G u ∧ Fr S u (pl [231, 233, 234, 235, 236, 237, 239, 240, 241, 242, 276, 280, 281]) ∧ FF S u (fl [6, 61, 86]) ∧ (u.1 231 61 = 4 ∧ 0 ≤ u.1 231 86 ∧ u.1 231 86 ≤ 36000))) args s 0 0 (sF G)) (F0 m 242 ls []) := by
                            intro S242  H locs ls hI242 hFm242 hFL161242 hL242_ hGm242 hGL161242 gL242_ hz242 hW hL hl
                            refine lv_iinc (v := iv (i + 1)) (lv' := [(1, .int (iv (i + 1))), (0, .ref (G.2.2.1 + 231))]) hx hb dX12_ray_242 hl (k := 0) rfl ((Int32.ofInt_add _ _).symm) (by decide) rfl (fun ls hl => ?_)
                            refine lv_goto (tgt := 161) hx hb dX12_ray_245 (by decide) ?_
                            exact ih_161 S242 (i + 1) _ _ _ (by omega) hI242 hFm242 hFL161242 hGm242 hGL161242 (by omega) hz242 hW hL (lv_sub hl [0, 1] rfl)
                          refine lv_aload_n hx hb dX12_ray_169 rfl (lv_at hl 1 rfl) ?_
                          refine g_X12_112 Cx hW (k := 231) (by decide) rfl (v := .ref (G.2.2.1 + 265)) (rd_56 hI161) dX12_ray_170 ?_
                          refine lv_iload_n hx hb dX12_ray_173 rfl (lv_at hl 0 rfl) ?_
                          refine rIald Cx hW (k := 265) (by decide) rfl (by decide) (by omega) (by omega) dX12_ray_174 ?_
                          have q_90 : (-2147483648) ≤ S.2.1 265 i ∧ S.2.1 265 i ≤ 2147483647 := hI.ai 265 i
                          refine r_i (b := S.2.1 265 i) (((hL161_ 265 rfl).2.1 i).trans (((hL135_ 265 rfl).2.1 i).trans (((fu_26 265 rfl).2.1 i).trans (((fu_21 265 rfl).2.1 i).trans (((fu_15 265 rfl).2.1 i).trans (((fu_9 265 rfl).2.1 i).trans (((hL33_ 265 rfl).2.1 i).trans (((hL7_ 265 rfl).2.1 i).trans (uF_a))))))))) ?_
                          refine lv_iconst (v := iv 1) hx hb dX12_ray_175 (by decide) ?_
                          refine r_icmp_lt (tgt := 242) hx hb ⟨(by omega), (by omega)⟩ ⟨(by omega), (by omega)⟩ dX12_ray_176 (by decide) (fun c_91 => ?_) (fun c_91 => ?_)
                          · exact join_242 S161  _ _ _ hI161 hFm161 hL161_ (Fr.rf : Fr S161 S161 (pl [281])) hGm161 gL161_ (FF.rf : FF S161 S161 (fl [])) hz161 hW hL (lv_sub hl [0, 1] rfl)
                          · refine lv_aload_n hx hb dX12_ray_179 rfl (lv_at hl 1 rfl) ?_
                            refine g_X12_112 Cx hW (k := 231) (by decide) rfl (v := .ref (G.2.2.1 + 265)) (rd_56 hI161) dX12_ray_180 ?_
                            refine lv_iload_n hx hb dX12_ray_183 rfl (lv_at hl 0 rfl) ?_
                            refine rIald Cx hW (k := 265) (by decide) rfl (by decide) (by omega) (by omega) dX12_ray_184 ?_
                            refine r_i (b := S.2.1 265 i) (((hL161_ 265 rfl).2.1 i).trans (((hL135_ 265 rfl).2.1 i).trans (((fu_26 265 rfl).2.1 i).trans (((fu_21 265 rfl).2.1 i).trans (((fu_15 265 rfl).2.1 i).trans (((fu_9 265 rfl).2.1 i).trans (((hL33_ 265 rfl).2.1 i).trans (((hL7_ 265 rfl).2.1 i).trans (uF_a))))))))) ?_
                            refine lv_aload_n hx hb dX12_ray_185 rfl (lv_at hl 1 rfl) ?_
                            refine g_X12_465 Cx hW (k := 231) (by decide) rfl (v := S.1 231 46) ((gL161_ 46 rfl).trans ((gL135_ 46 rfl).trans ((gu_26 46 rfl).trans ((gu_21 46 rfl).trans ((gu_15 46 rfl).trans ((gu_9 46 rfl).trans ((gL33_ 46 rfl).trans ((gL7_ 46 rfl).trans (uF_ne (fun h => absurd h.2 (by decide))))))))))) dX12_ray_186 ?_
                            refine r_icmp_le (tgt := 195) hx hb ⟨(by omega), (by omega)⟩ ⟨(by omega), (by omega)⟩ dX12_ray_189 (by decide) (fun c_92 => ?_) (fun c_92 => ?_)
                            · refine lv_aload_n hx hb dX12_ray_195 rfl (lv_at hl 1 rfl) ?_
                              refine g_X12_103 Cx hW (k := 231) (by decide) rfl (v := .ref (G.2.2.1 + 262)) (rd_53 hI161) dX12_ray_196 ?_
                              refine lv_aload_n hx hb dX12_ray_199 rfl (lv_at hl 1 rfl) ?_
                              refine lv_iload_n hx hb dX12_ray_200 rfl (lv_at hl 0 rfl) ?_
                              refine lv_iconst (v := iv 1) hx hb dX12_ray_201 (by decide) ?_
                              refine r_iadd hx hb dX12_ray_202 ?_
                              refine lv_aload_n hx hb dX12_ray_203 rfl (lv_at hl 1 rfl) ?_
                              have q_93 : (-2147483648) ≤ S.1 231 72 ∧ S.1 231 72 ≤ 2147483647 := hI.fi 72
                              refine g_X12_555 Cx hW (k := 231) (by decide) rfl (v := S.1 231 72) ((gL161_ 72 rfl).trans ((gL135_ 72 rfl).trans ((gu_26 72 rfl).trans ((gu_21 72 rfl).trans ((gu_15 72 rfl).trans ((gu_9 72 rfl).trans ((gL33_ 72 rfl).trans ((gL7_ 72 rfl).trans (uF_ne (fun h => absurd h.2 (by decide))))))))))) dX12_ray_204 ?_
                              refine sBi (sV (As := [.int (iv (i + 1)), .int (iv (S.1 231 72))]) (rest := [.ref (G.2.2.1 + 262)]) (k := 231) Cx (s_X12_cell l G S161 (i := i + 1) (j := S.1 231 72) (by omega) (by omega)) (c_X12_529 Cx rfl rfl (rmk_ok (by omega) (by decide))) hW (by decide) rfl rfl rfl hl.1 rfl (Nat.le_of_ble_eq_true rfl) dX12_ray_207 ⟨Nat.le_of_ble_eq_true rfl, Nat.le_of_ble_eq_true rfl⟩) hL (fun r_96 u_94 H locs k_95 hW hL => ?_)
                              obtain ⟨eu_94, xu_94⟩ := k_95
                              rw [eu_94] at hW
                              refine lv_aload_n hx hb dX12_ray_210 rfl (lv_at hl 1 rfl) ?_
                              refine g_X12_163 Cx hW (k := 231) (by decide) rfl (v := .ref (G.2.2.1 + 281)) (rd_91 hI161) dX12_ray_211 ?_
                              refine lv_bipush (v := iv 8) hx hb dX12_ray_214 (by decide) ?_
                              refine lv_aload_n hx hb dX12_ray_216 rfl (lv_at hl 1 rfl) ?_
                              refine g_X12_112 Cx hW (k := 231) (by decide) rfl (v := .ref (G.2.2.1 + 265)) (rd_56 hI161) dX12_ray_217 ?_
                              refine lv_iload_n hx hb dX12_ray_220 rfl (lv_at hl 0 rfl) ?_
                              refine rIald Cx hW (k := 265) (by decide) rfl (by decide) (by omega) (by omega) dX12_ray_221 ?_
                              refine r_i (b := S.2.1 265 i) (((hL161_ 265 rfl).2.1 i).trans (((hL135_ 265 rfl).2.1 i).trans (((fu_26 265 rfl).2.1 i).trans (((fu_21 265 rfl).2.1 i).trans (((fu_15 265 rfl).2.1 i).trans (((fu_9 265 rfl).2.1 i).trans (((hL33_ 265 rfl).2.1 i).trans (((hL7_ 265 rfl).2.1 i).trans (uF_a))))))))) ?_
                              refine r_imul hx hb dX12_ray_222 ?_
                              refine sBv (sSt (As := [.ref (G.2.2.1 + 262), .int (iv r_96), .ref (G.2.2.1 + 281), .int (iv (8 * (S.2.1 265 i)))]) (rest := []) Cx (s_X12_copy l G S161 (ka := 262) (po := r_96) (kb := 281) (qo := 8 * (S.2.1 265 i)) (Nka := 5280) (Nkb := 104) (La := 6) hI161 ⟨rfl, by decide, by decide, by decide, rfl⟩ ⟨rfl, by decide, by decide, by decide, rfl⟩ (show (281 : Nat) ≠ 262 by decide) (by omega) (by rw [show S161.2.1 262 = S.2.1 262 from (funext fun j => ((hL161_ 262 rfl).2.1 j).trans (((hL135_ 262 rfl).2.1 j).trans (((fu_26 262 rfl).2.1 j).trans (((fu_21 262 rfl).2.1 j).trans (((fu_15 262 rfl).2.1 j).trans (((fu_9 262 rfl).2.1 j).trans (((hL33_ 262 rfl).2.1 j).trans (((hL7_ 262 rfl).2.1 j).trans (uF_a)))))))))]; exact hD.at (i := i + 1) (j := S.1 231 72) (by omega) (by omega) (by omega) (by omega))) (c_X12_233 Cx rfl rfl (rmk_ok (by omega) (by decide))) hW rfl hl.1 rfl (Nat.le_of_ble_eq_true rfl) dX12_ray_223 ⟨Nat.le_of_ble_eq_true rfl, Nat.le_of_ble_eq_true rfl⟩) hL (fun u_97 H locs k_98 hW hL => ?_)
                              obtain ⟨iu_97, fu_97, xu_97⟩ := k_98
                              have F_99 := hFm161.trans (fu_97.to (p1_sub rfl))
                              have F_100 := hL161_.trans (fu_97.to (p1_sub rfl))
                              have F_101 := (Fr.rf : Fr S161 S161 (pl [281])).trans (fu_97.to (p1_sub rfl))
                              have g_102 : FF S u_97 (fl [6, 61, 86]) := FF.fr hGm161 fu_97 rfl
                              have g_103 : FF S135 u_97 (fl []) := FF.fr gL161_ fu_97 rfl
                              have g_104 : FF S161 u_97 (fl []) := FF.fr (FF.rf : FF S161 S161 (fl [])) fu_97 rfl
                              refine lv_aload_n hx hb dX12_ray_226 rfl (lv_at hl 1 rfl) ?_
                              refine g_X12_163 Cx hW (k := 231) (by decide) rfl (v := .ref (G.2.2.1 + 281)) (rd_91 iu_97) dX12_ray_227 ?_
                              refine lv_bipush (v := iv 8) hx hb dX12_ray_230 (by decide) ?_
                              refine lv_aload_n hx hb dX12_ray_232 rfl (lv_at hl 1 rfl) ?_
                              refine g_X12_112 Cx hW (k := 231) (by decide) rfl (v := .ref (G.2.2.1 + 265)) (rd_56 iu_97) dX12_ray_233 ?_
                              refine lv_iload_n hx hb dX12_ray_236 rfl (lv_at hl 0 rfl) ?_
                              refine rIald Cx hW (k := 265) (by decide) rfl (by decide) (by omega) (by omega) dX12_ray_237 ?_
                              refine r_i (b := S.2.1 265 i) (((fu_97 265 rfl).2.1 i).trans (((hL161_ 265 rfl).2.1 i).trans (((hL135_ 265 rfl).2.1 i).trans (((fu_26 265 rfl).2.1 i).trans (((fu_21 265 rfl).2.1 i).trans (((fu_15 265 rfl).2.1 i).trans (((fu_9 265 rfl).2.1 i).trans (((hL33_ 265 rfl).2.1 i).trans (((hL7_ 265 rfl).2.1 i).trans (uF_a)))))))))) ?_
                              refine r_imul hx hb dX12_ray_238 ?_
                              refine sBv (sSt (As := [.ref (G.2.2.1 + 281), .int (iv (8 * (S.2.1 265 i)))]) (rest := []) Cx (s_X12_negate l G u_97 (ka := 281) (po := 8 * (S.2.1 265 i)) (Nka := 104) (La := 6) iu_97 ⟨rfl, by decide, by decide, by decide, rfl⟩ (by omega) xu_97.1.1) (c_X12_540 Cx rfl rfl (rmk_ok (by omega) (by decide))) hW rfl hl.1 rfl (Nat.le_of_ble_eq_true rfl) dX12_ray_239 ⟨Nat.le_of_ble_eq_true rfl, Nat.le_of_ble_eq_true rfl⟩) hL (fun u_105 H locs k_106 hW hL => ?_)
                              obtain ⟨iu_105, fu_105, xu_105⟩ := k_106
                              have F_107 := F_99.trans (fu_105.to (p1_sub rfl))
                              have F_108 := F_100.trans (fu_105.to (p1_sub rfl))
                              have F_109 := F_101.trans (fu_105.to (p1_sub rfl))
                              have g_110 : FF S u_105 (fl [6, 61, 86]) := FF.fr g_102 fu_105 rfl
                              have g_111 : FF S135 u_105 (fl []) := FF.fr g_103 fu_105 rfl
                              have g_112 : FF S161 u_105 (fl []) := FF.fr g_104 fu_105 rfl
                              exact join_242 u_105  _ _ _ iu_105 F_107 F_108 F_109 g_110 g_111 g_112 (fun t a b => if e : t = S.2.1 265 i then (by rw [e]; exact xu_105.1) else ((hz161 t a b).same (fun x x0 x1 => by rw [xu_105.2.2, uA_ne (fun h => by have h2 := h.2; have := c8_far e ⟨x0, x1⟩; omega)]; exact xu_97.2 x (c8_far e ⟨x0, x1⟩))).1) hW hL (lv_sub hl [0, 1] rfl)
                            · refine lv_goto (tgt := 242) hx hb dX12_ray_192 (by decide) ?_
                              exact join_242 S161  _ _ _ hI161 hFm161 hL161_ (Fr.rf : Fr S161 S161 (pl [281])) hGm161 gL161_ (FF.rf : FF S161 S161 (fl [])) hz161 hW hL (lv_sub hl [0, 1] rfl)
                    exact loop_161 (_ + 1) S135 1 _ _ _ (Nat.lt_succ_self _) hI135 hFm135 Fr.rf hGm135 FF.rf (by omega) (fun t a b => NO_z (hz135 t a (by omega)) (by omega)) hW hL (lv_sub hl [0, 1] rfl)
                  · refine lv_aload_n hx hb dX12_ray_143 rfl (lv_at hl 1 rfl) ?_
                    refine g_X12_163 Cx hW (k := 231) (by decide) rfl (v := .ref (G.2.2.1 + 281)) (rd_91 hI135) dX12_ray_144 ?_
                    refine lv_bipush (v := iv 8) hx hb dX12_ray_147 (by decide) ?_
                    refine lv_iload_n hx hb dX12_ray_149 rfl (lv_at hl 0 rfl) ?_
                    refine r_imul hx hb dX12_ray_150 ?_
                    refine lv_iconst (v := iv 0) hx hb dX12_ray_151 (by decide) ?_
                    refine rIast Cx hW hL (k := 281) (by decide) rfl (by decide) (by omega) (by omega) dX12_ray_152 (fun H locs hW hL => ?_)
                    have F_113 : Fr S (uA S135 281 (8 * j) 0) (pl [231, 233, 234, 235, 236, 237, 239, 240, 241, 242, 276, 280, 281]) := hFm135.A rfl
                    have F_114 : Fr u_26 (uA S135 281 (8 * j) 0) (pl [281]) := hL135_.A rfl
                    have i_115 : dX G (uA S135 281 (8 * j) 0) := hI135.A (k := 281) (show (-2147483648) ≤ 0 ∧ 0 ≤ 2147483647 from ⟨by omega, by omega⟩)
                    refine lv_iinc (v := iv (j + 1)) (lv' := [(1, .int (iv (j + 1))), (0, .ref (G.2.2.1 + 231))]) hx hb dX12_ray_153 hl (k := 0) rfl ((Int32.ofInt_add _ _).symm) (by decide) rfl (fun ls hl => ?_)
                    refine lv_goto (tgt := 135) hx hb dX12_ray_156 (by decide) ?_
                    exact ih_135 (uA S135 281 (8 * j) 0) (j + 1) _ _ _ (by omega) i_115 F_113 F_114 hGm135 gL135_ (by omega) (fun t a b => by rw [uA_get]; split; rfl; rename_i z; exact hz135 t a (by omega)) hW hL (lv_sub hl [0, 1] rfl)
              exact loop_135 (_ + 1) u_26 1 _ _ _ (Nat.lt_succ_self _) iu_26 F_28 Fr.rf g_29 FF.rf (by omega) (fun t a b => absurd b (by omega)) hW hL (lv_sub hl [0, 1] rfl)
            · have join_92 : ∀ (S92 : sS)  (H : Heap) (locs : List Loc) (ls : Array Slot), (dX G S92) → (Fr S S92 (pl [231, 233, 234, 235, 236, 237, 239, 240, 241, 242, 276, 280, 281])) → (Fr S7 S92 (pl [281])) → (Fr S33 S92 (pl [281])) → (FF S S92 (fl [6, 61, 86])) → (FF S7 S92 (fl [])) → (FF S33 S92 (fl [])) → (∀ j, 0 ≤ j → j ≤ S.1 231 46 → NO (S92.2.1 281) (8 * j) 6) → sW G 294 S92 H → sL G locs → lv_has ls 2 [(1, .int (iv i)), (0, .ref (G.2.2.1 + 231))] → W p l e (rmk 8 0 0) s m args below meth c H locs 0 0 (MQ below (sQv G 294 (fun u => dX G u ∧ Fr S u (pl [231, 233, 234, 235, 236, 237, 239, 240, 241, 242, 276, 280, 281]) ∧ FF S u (fl [6, 61, 86]) ∧ (u.1 231 61 = 4 ∧ 0 ≤ u.1 231 86 ∧ u.1 231 86 ≤ 36000))) args s 0 0 (sF G)) (F0 m 92 ls []) := by
                intro S92  H locs ls hI92 hFm92 hFL3392 hL92_ hGm92 hGL3392 gL92_ hz92 hW hL hl
                refine lv_iinc (v := iv (i + 1)) (lv' := [(1, .int (iv (i + 1))), (0, .ref (G.2.2.1 + 231))]) hx hb dX12_ray_92 hl (k := 0) rfl ((Int32.ofInt_add _ _).symm) (by decide) rfl (fun ls hl => ?_)
                refine lv_goto (tgt := 33) hx hb dX12_ray_95 (by decide) ?_
                exact ih_33 S92 (i + 1) _ _ _ (by omega) hI92 hFm92 hFL3392 hGm92 hGL3392 (by omega) hz92 hW hL (lv_sub hl [0, 1] rfl)
              refine lv_aload_n hx hb dX12_ray_41 rfl (lv_at hl 1 rfl) ?_
              refine g_X12_112 Cx hW (k := 231) (by decide) rfl (v := .ref (G.2.2.1 + 265)) (rd_56 hI33) dX12_ray_42 ?_
              refine lv_iload_n hx hb dX12_ray_45 rfl (lv_at hl 0 rfl) ?_
              refine rIald Cx hW (k := 265) (by decide) rfl (by decide) (by omega) (by omega) dX12_ray_46 ?_
              have q_116 : (-2147483648) ≤ S.2.1 265 i ∧ S.2.1 265 i ≤ 2147483647 := hI.ai 265 i
              refine r_i (b := S.2.1 265 i) (((hL33_ 265 rfl).2.1 i).trans (((hL7_ 265 rfl).2.1 i).trans (uF_a))) ?_
              refine lv_iconst (v := iv 1) hx hb dX12_ray_47 (by decide) ?_
              refine r_icmp_lt (tgt := 92) hx hb ⟨(by omega), (by omega)⟩ ⟨(by omega), (by omega)⟩ dX12_ray_48 (by decide) (fun c_117 => ?_) (fun c_117 => ?_)
              · exact join_92 S33  _ _ _ hI33 hFm33 hL33_ (Fr.rf : Fr S33 S33 (pl [281])) hGm33 gL33_ (FF.rf : FF S33 S33 (fl [])) hz33 hW hL (lv_sub hl [0, 1] rfl)
              · refine lv_aload_n hx hb dX12_ray_51 rfl (lv_at hl 1 rfl) ?_
                refine g_X12_112 Cx hW (k := 231) (by decide) rfl (v := .ref (G.2.2.1 + 265)) (rd_56 hI33) dX12_ray_52 ?_
                refine lv_iload_n hx hb dX12_ray_55 rfl (lv_at hl 0 rfl) ?_
                refine rIald Cx hW (k := 265) (by decide) rfl (by decide) (by omega) (by omega) dX12_ray_56 ?_
                refine r_i (b := S.2.1 265 i) (((hL33_ 265 rfl).2.1 i).trans (((hL7_ 265 rfl).2.1 i).trans (uF_a))) ?_
                refine lv_aload_n hx hb dX12_ray_57 rfl (lv_at hl 1 rfl) ?_
                refine g_X12_465 Cx hW (k := 231) (by decide) rfl (v := S.1 231 46) ((gL33_ 46 rfl).trans ((gL7_ 46 rfl).trans (uF_ne (fun h => absurd h.2 (by decide))))) dX12_ray_58 ?_
                refine r_icmp_gt (tgt := 92) hx hb ⟨(by omega), (by omega)⟩ ⟨(by omega), (by omega)⟩ dX12_ray_61 (by decide) (fun c_118 => ?_) (fun c_118 => ?_)
                · exact join_92 S33  _ _ _ hI33 hFm33 hL33_ (Fr.rf : Fr S33 S33 (pl [281])) hGm33 gL33_ (FF.rf : FF S33 S33 (fl [])) hz33 hW hL (lv_sub hl [0, 1] rfl)
                · refine lv_aload_n hx hb dX12_ray_64 rfl (lv_at hl 1 rfl) ?_
                  refine g_X12_103 Cx hW (k := 231) (by decide) rfl (v := .ref (G.2.2.1 + 262)) (rd_53 hI33) dX12_ray_65 ?_
                  refine lv_aload_n hx hb dX12_ray_68 rfl (lv_at hl 1 rfl) ?_
                  refine lv_iload_n hx hb dX12_ray_69 rfl (lv_at hl 0 rfl) ?_
                  refine lv_iconst (v := iv 1) hx hb dX12_ray_70 (by decide) ?_
                  refine r_iadd hx hb dX12_ray_71 ?_
                  refine lv_iconst (v := iv 0) hx hb dX12_ray_72 (by decide) ?_
                  refine sBi (sV (As := [.int (iv (i + 1)), .int (iv 0)]) (rest := [.ref (G.2.2.1 + 262)]) (k := 231) Cx (s_X12_cell l G S33 (i := i + 1) (j := 0) (by omega) (by omega)) (c_X12_529 Cx rfl rfl (rmk_ok (by omega) (by decide))) hW (by decide) rfl rfl rfl hl.1 rfl (Nat.le_of_ble_eq_true rfl) dX12_ray_73 ⟨Nat.le_of_ble_eq_true rfl, Nat.le_of_ble_eq_true rfl⟩) hL (fun r_121 u_119 H locs k_120 hW hL => ?_)
                  obtain ⟨eu_119, xu_119⟩ := k_120
                  rw [eu_119] at hW
                  refine lv_aload_n hx hb dX12_ray_76 rfl (lv_at hl 1 rfl) ?_
                  refine g_X12_163 Cx hW (k := 231) (by decide) rfl (v := .ref (G.2.2.1 + 281)) (rd_91 hI33) dX12_ray_77 ?_
                  refine lv_bipush (v := iv 8) hx hb dX12_ray_80 (by decide) ?_
                  refine lv_aload_n hx hb dX12_ray_82 rfl (lv_at hl 1 rfl) ?_
                  refine g_X12_112 Cx hW (k := 231) (by decide) rfl (v := .ref (G.2.2.1 + 265)) (rd_56 hI33) dX12_ray_83 ?_
                  refine lv_iload_n hx hb dX12_ray_86 rfl (lv_at hl 0 rfl) ?_
                  refine rIald Cx hW (k := 265) (by decide) rfl (by decide) (by omega) (by omega) dX12_ray_87 ?_
                  refine r_i (b := S.2.1 265 i) (((hL33_ 265 rfl).2.1 i).trans (((hL7_ 265 rfl).2.1 i).trans (uF_a))) ?_
                  refine r_imul hx hb dX12_ray_88 ?_
                  refine sBv (sSt (As := [.ref (G.2.2.1 + 262), .int (iv r_121), .ref (G.2.2.1 + 281), .int (iv (8 * (S.2.1 265 i)))]) (rest := []) Cx (s_X12_copy l G S33 (ka := 262) (po := r_121) (kb := 281) (qo := 8 * (S.2.1 265 i)) (Nka := 5280) (Nkb := 104) (La := 6) hI33 ⟨rfl, by decide, by decide, by decide, rfl⟩ ⟨rfl, by decide, by decide, by decide, rfl⟩ (show (281 : Nat) ≠ 262 by decide) (by omega) (by rw [show S33.2.1 262 = S.2.1 262 from (funext fun j => ((hL33_ 262 rfl).2.1 j).trans (((hL7_ 262 rfl).2.1 j).trans (uF_a)))]; exact hD.at (i := i + 1) (j := 0) (by omega) (by omega) (by omega) (by omega))) (c_X12_233 Cx rfl rfl (rmk_ok (by omega) (by decide))) hW rfl hl.1 rfl (Nat.le_of_ble_eq_true rfl) dX12_ray_89 ⟨Nat.le_of_ble_eq_true rfl, Nat.le_of_ble_eq_true rfl⟩) hL (fun u_122 H locs k_123 hW hL => ?_)
                  obtain ⟨iu_122, fu_122, xu_122⟩ := k_123
                  have F_124 := hFm33.trans (fu_122.to (p1_sub rfl))
                  have F_125 := hL33_.trans (fu_122.to (p1_sub rfl))
                  have F_126 := (Fr.rf : Fr S33 S33 (pl [281])).trans (fu_122.to (p1_sub rfl))
                  have g_127 : FF S u_122 (fl [6, 61, 86]) := FF.fr hGm33 fu_122 rfl
                  have g_128 : FF S7 u_122 (fl []) := FF.fr gL33_ fu_122 rfl
                  have g_129 : FF S33 u_122 (fl []) := FF.fr (FF.rf : FF S33 S33 (fl [])) fu_122 rfl
                  exact join_92 u_122  _ _ _ iu_122 F_124 F_125 F_126 g_127 g_128 g_129 (fun t a b => if e : t = S.2.1 265 i then (by rw [e]; exact xu_122.1.1) else ((hz33 t a b).same (fun x x0 x1 => xu_122.2 x (c8_far e ⟨x0, x1⟩))).1) hW hL (lv_sub hl [0, 1] rfl)
        exact loop_33 (_ + 1) S7 1 _ _ _ (Nat.lt_succ_self _) hI7 hFm7 Fr.rf hGm7 FF.rf (by omega) (fun t a b => NO_z (hz7 t a (by omega)) (by omega)) hW hL (lv_sub hl [0, 1] rfl)
      · refine lv_aload_n hx hb dX12_ray_15 rfl (lv_at hl 1 rfl) ?_
        refine g_X12_163 Cx hW (k := 231) (by decide) rfl (v := .ref (G.2.2.1 + 281)) (rd_91 hI7) dX12_ray_16 ?_
        refine lv_bipush (v := iv 8) hx hb dX12_ray_19 (by decide) ?_
        refine lv_iload_n hx hb dX12_ray_21 rfl (lv_at hl 0 rfl) ?_
        refine r_imul hx hb dX12_ray_22 ?_
        refine lv_iconst (v := iv 0) hx hb dX12_ray_23 (by decide) ?_
        refine rIast Cx hW hL (k := 281) (by decide) rfl (by decide) (by omega) (by omega) dX12_ray_24 (fun H locs hW hL => ?_)
        have F_130 : Fr S (uA S7 281 (8 * j) 0) (pl [231, 233, 234, 235, 236, 237, 239, 240, 241, 242, 276, 280, 281]) := hFm7.A rfl
        have F_131 : Fr ((uF S 231 86 0)) (uA S7 281 (8 * j) 0) (pl [281]) := hL7_.A rfl
        have i_132 : dX G (uA S7 281 (8 * j) 0) := hI7.A (k := 281) (show (-2147483648) ≤ 0 ∧ 0 ≤ 2147483647 from ⟨by omega, by omega⟩)
        refine lv_iinc (v := iv (j + 1)) (lv' := [(1, .int (iv (j + 1))), (0, .ref (G.2.2.1 + 231))]) hx hb dX12_ray_25 hl (k := 0) rfl ((Int32.ofInt_add _ _).symm) (by decide) rfl (fun ls hl => ?_)
        refine lv_goto (tgt := 7) hx hb dX12_ray_28 (by decide) ?_
        exact ih_7 (uA S7 281 (8 * j) 0) (j + 1) _ _ _ (by omega) i_132 F_130 F_131 hGm7 gL7_ (by omega) (fun t a b => by rw [uA_get]; split; rfl; rename_i z; exact hz7 t a (by omega)) hW hL (lv_sub hl [0, 1] rfl)
  exact loop_7 (_ + 1) (uF S 231 86 0) 0 _ _ _ (Nat.lt_succ_self _) i_3 F_1 Fr.rf g_2 FF.rf (by omega) (fun t a b => absurd b (by omega)) hW hL (lv_sub hl [0, 1] rfl)
