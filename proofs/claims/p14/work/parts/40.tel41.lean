def ExC (l : Launch) (G : sG) (D : Nat) (dd : Int) : Prop := ∀ S : sS, cX G S 0 0 0 → SG S → TS S → Met l yX9_expression (.code yX9_expression cX9_expression 6 (some .boolean) :: tb) (rmk D 0 0) (sPc G 294 S [.ref (G.2.2.1 + 11), .int (iv dd)]) (sQi G 294 (fun r u => cX G u 0 0 0 ∧ Fr S u pV ∧ ((0 ≤ r ∧ r ≤ 1) ∧ Hd (r = 1 → TK S u)))) 0 0 (sF G)
def TeC (l : Launch) (G : sG) (D : Nat) (dd : Int) : Prop := ∀ S : sS, cX G S 0 0 0 → SG S → TS S → Met l yX9_term (.code yX9_term cX9_term 5 (some .boolean) :: tb) (rmk D 0 0) (sPc G 294 S [.ref (G.2.2.1 + 11), .int (iv dd)]) (sQi G 294 (fun r u => cX G u 0 0 0 ∧ Fr S u pV ∧ ((0 ≤ r ∧ r ≤ 1) ∧ Hd (r = 1 → TK S u)))) 0 0 (sF G)
def FaC (l : Launch) (G : sG) (D : Nat) (dd : Int) : Prop := ∀ S : sS, cX G S 0 0 0 → SG S → TS S → Met l yX9_factor (.code yX9_factor cX9_factor 4 (some .boolean) :: tb) (rmk D 0 0) (sPc G 294 S [.ref (G.2.2.1 + 11), .int (iv dd)]) (sQi G 294 (fun r u => cX G u 0 0 0 ∧ Fr S u pV ∧ ((0 ≤ r ∧ r ≤ 1) ∧ Hd (r = 1 → TK S u)))) 0 0 (sF G)
set_option maxRecDepth 100000 in
set_option maxHeartbeats 4000000 in
theorem s_X9_negated (l : Launch) (G : sG) (S : sS) {D d1 : Nat} {dd : Int} (hI : cX G S 0 0 0) (hdd : 0 ≤ dd ∧ dd ≤ 29) (h1 : d1 < D) (h4 : 8 ≤ D) (hF : FaC l G d1 (dd + 1)) (hsg : SG S) (hTS : TS S) : Met l yX9_negated (.code yX9_negated cX9_negated 2 (some .boolean) :: tb) (rmk D 0 0) (sPc G 294 S [.ref (G.2.2.1 + 11), .int (iv dd)]) (sQi G 294 (fun r u => cX G u 0 0 0 ∧ Fr S u pV ∧ ((0 ≤ r ∧ r ≤ 1) ∧ Hd (r = 1 → TK S u)))) 0 0 (sF G) := by
  refine sEnter (by decide) (Nat.le_of_ble_eq_true rfl) ?_
  intro p e s m args below meth c Cx hr hlk hnm hW ls hl
  have Cx : sC G p m c cX9_negated 2 s args RX9 := Cx
  obtain ⟨hx, hb, hml, hown, hts⟩ := id Cx.1
  have hL : sL G [] := sL_nil
  have hl : lv_has ls 2 [(0, .ref (G.2.2.1 + 11)), (1, .int (iv dd))] := hl
  have hW0 := hW
  have tk_0 : TK S S := TK.rf hTS
  have hkn : 0 ≤ S.1 11 9 ∧ S.1 11 9 ≤ 128 := hI.fi 11 9 9 (by decide) rfl
  refine lv_aload_n hx hb dX9_negated_0 rfl (lv_at hl 0 rfl) ?_
  refine lv_dup hx hb dX9_negated_1 rfl ?_
  have q_1 : (-2147483648) ≤ S.1 11 13 ∧ S.1 11 13 ≤ 2147483647 := hI.fi 11 13 9 (by decide) rfl
  refine g_X9_89 Cx hW (k := 11) (by decide) rfl (v := S.1 11 13) rfl dX9_negated_2 ?_
  refine lv_iconst (v := iv 1) hx hb dX9_negated_5 (by decide) ?_
  refine r_iadd hx hb dX9_negated_6 ?_
  obtain ⟨z_2, ez_2, hz_2, kz_2⟩ := iv_of (iv ((S.1 11 13) + 1))
  rw [ez_2]
  refine p_X9_89 Cx hW hL (k := 11) (by decide) rfl dX9_negated_7 (fun H locs hW hL => ?_)
  have F_3 : Fr S (uF S 11 13 z_2) pV := (Fr.rf : Fr S S pV).F rfl
  have i_4 : cX G (uF S 11 13 z_2) 0 0 0 := hI.F rfl rfl (show (-2147483648) ≤ z_2 ∧ z_2 ≤ 2147483647 from ⟨by omega, by omega⟩)
  have tk_5 : TK S (uF S 11 13 z_2) := tk_0.F (by decide)
  refine lv_aload_n hx hb dX9_negated_10 rfl (lv_at hl 0 rfl) ?_
  refine lv_iload_n hx hb dX9_negated_11 rfl (lv_at hl 1 rfl) ?_
  refine lv_iconst (v := iv 1) hx hb dX9_negated_12 (by decide) ?_
  refine r_iadd hx hb dX9_negated_13 ?_
  refine sBi (sV (As := [.int (iv (dd + 1))]) (rest := []) (k := 11) Cx (hF (uF S 11 13 z_2) i_4 (SG.fr F_3 rfl rfl rfl hsg) tk_5.1) (c_X9_211 Cx rfl rfl (rmk_ok (by omega) (by decide))) hW (by decide) rfl rfl rfl hl.1 rfl (Nat.le_of_ble_eq_true rfl) dX9_negated_14 ⟨Nat.le_of_ble_eq_true rfl, Nat.le_of_ble_eq_true rfl⟩) hL (fun r_8 u_6 H locs k_7 hW hL => ?_)
  obtain ⟨iu_6, fu_6, xu_6⟩ := k_7
  have F_9 := F_3.trans fu_6
  refine r_if_ne (tgt := 22) hx hb ⟨(by omega), (by omega)⟩ dX9_negated_17 (by decide) (fun c_10 => ?_) (fun c_10 => ?_)
  · refine lv_aload_n hx hb dX9_negated_22 rfl (lv_at hl 0 rfl) ?_
    refine g_X9_37 Cx hW (k := 11) (by decide) rfl (v := .ref (G.2.2.1 + 83)) (rf_11_6 iu_6) dX9_negated_23 ?_
    refine lv_iload_n hx hb dX9_negated_26 rfl (lv_at hl 1 rfl) ?_
    obtain ⟨o_11, mo_11, eo_11⟩ := r2_83 iu_6 (i := dd) (by omega) (by omega)
    refine rAald Cx hW (k := 83) (by decide) rfl (by decide) (by omega) (by omega) eo_11 dX9_negated_27 ?_
    refine lv_aload_n hx hb dX9_negated_28 rfl (lv_at hl 0 rfl) ?_
    refine g_X9_37 Cx hW (k := 11) (by decide) rfl (v := .ref (G.2.2.1 + 83)) (rf_11_6 iu_6) dX9_negated_29 ?_
    refine lv_iload_n hx hb dX9_negated_32 rfl (lv_at hl 1 rfl) ?_
    refine lv_iconst (v := iv 1) hx hb dX9_negated_33 (by decide) ?_
    refine r_iadd hx hb dX9_negated_34 ?_
    obtain ⟨o_12, mo_12, eo_12⟩ := r2_83 iu_6 (i := dd + 1) (by omega) (by omega)
    refine rAald Cx hW (k := 83) (by decide) rfl (by decide) (by omega) (by omega) eo_12 dX9_negated_35 ?_
    refine lv_iconst (v := iv (-1)) hx hb dX9_negated_36 (by decide) ?_
    have tk_13 := TK.trans tk_5 (xu_6.2 (by omega))
    refine sBv (sSt (As := [.ref (G.2.2.1 + o_11), .ref (G.2.2.1 + o_12), .int (iv ((-1)))]) (rest := []) Cx (s_X9_addTo l G u_6 (qa := o_11) (qb := o_12) (t := (-1)) iu_6 mo_11 mo_12 (by omega)) (c_X9_185 Cx rfl rfl (rmk_ok (by omega) (by decide))) hW rfl hl.1 rfl (Nat.le_of_ble_eq_true rfl) dX9_negated_37 ⟨Nat.le_of_ble_eq_true rfl, Nat.le_of_ble_eq_true rfl⟩) hL (fun u_14 H locs k_15 hW hL => ?_)
    obtain ⟨iu_14, fu_14⟩ := k_15
    have F_16 := F_9.trans (fu_14.to (p1_sub (lr_V mo_11)))
    have tk_17 := TK.fr tk_13 fu_14 (p1_no (tau_ne (rfl : tau 11 = .inl 9) mo_11.1 (fun h => by cases h))) (p1_no (tau_ne (rfl : tau 17 = .inr (.int, 768)) mo_11.1 (fun h => by cases h)))
    refine lv_iconst (v := iv 1) hx hb dX9_negated_40 (by decide) ?_
    exact sZret Cx hr hlk hW hL (by omega) ⟨iu_14, F_16, ⟨(by omega), fun _ => tk_17⟩⟩ dX9_negated_41
  · refine lv_iconst (v := iv 0) hx hb dX9_negated_20 (by decide) ?_
    exact sZret Cx hr hlk hW hL (by omega) ⟨iu_6, F_9, ⟨(by omega), fun q => absurd q (by omega)⟩⟩ dX9_negated_21

set_option maxRecDepth 100000 in
set_option maxHeartbeats 4000000 in
theorem s_X9_inner (l : Launch) (G : sG) (S : sS) {D d1 : Nat} {dd : Int} (hI : cX G S 0 0 0) (hdd : 0 ≤ dd ∧ dd ≤ 29) (h1 : d1 < D) (h4 : 8 ≤ D) (hE : ExC l G d1 (dd + 1)) (hsg : SG S) (hTS : TS S) : Met l yX9_inner (.code yX9_inner cX9_inner 2 (some .boolean) :: tb) (rmk D 0 0) (sPc G 294 S [.ref (G.2.2.1 + 11), .int (iv dd)]) (sQi G 294 (fun r u => cX G u 0 0 0 ∧ Fr S u pV ∧ ((0 ≤ r ∧ r ≤ 1) ∧ Hd (r = 1 → TK S u)))) 0 0 (sF G) := by
  refine sEnter (by decide) (Nat.le_of_ble_eq_true rfl) ?_
  intro p e s m args below meth c Cx hr hlk hnm hW ls hl
  have Cx : sC G p m c cX9_inner 2 s args RX9 := Cx
  obtain ⟨hx, hb, hml, hown, hts⟩ := id Cx.1
  have hL : sL G [] := sL_nil
  have hl : lv_has ls 2 [(0, .ref (G.2.2.1 + 11)), (1, .int (iv dd))] := hl
  have hW0 := hW
  have tk_0 : TK S S := TK.rf hTS
  have hkn : 0 ≤ S.1 11 9 ∧ S.1 11 9 ≤ 128 := hI.fi 11 9 9 (by decide) rfl
  refine lv_aload_n hx hb dX9_inner_0 rfl (lv_at hl 0 rfl) ?_
  refine lv_dup hx hb dX9_inner_1 rfl ?_
  have q_1 : (-2147483648) ≤ S.1 11 13 ∧ S.1 11 13 ≤ 2147483647 := hI.fi 11 13 9 (by decide) rfl
  refine g_X9_89 Cx hW (k := 11) (by decide) rfl (v := S.1 11 13) rfl dX9_inner_2 ?_
  refine lv_iconst (v := iv 1) hx hb dX9_inner_5 (by decide) ?_
  refine r_iadd hx hb dX9_inner_6 ?_
  obtain ⟨z_2, ez_2, hz_2, kz_2⟩ := iv_of (iv ((S.1 11 13) + 1))
  rw [ez_2]
  refine p_X9_89 Cx hW hL (k := 11) (by decide) rfl dX9_inner_7 (fun H locs hW hL => ?_)
  have F_3 : Fr S (uF S 11 13 z_2) pV := (Fr.rf : Fr S S pV).F rfl
  have i_4 : cX G (uF S 11 13 z_2) 0 0 0 := hI.F rfl rfl (show (-2147483648) ≤ z_2 ∧ z_2 ≤ 2147483647 from ⟨by omega, by omega⟩)
  have tk_5 : TK S (uF S 11 13 z_2) := tk_0.F (by decide)
  refine lv_aload_n hx hb dX9_inner_10 rfl (lv_at hl 0 rfl) ?_
  refine lv_iload_n hx hb dX9_inner_11 rfl (lv_at hl 1 rfl) ?_
  refine lv_iconst (v := iv 1) hx hb dX9_inner_12 (by decide) ?_
  refine r_iadd hx hb dX9_inner_13 ?_
  refine sBi (sV (As := [.int (iv (dd + 1))]) (rest := []) (k := 11) Cx (hE (uF S 11 13 z_2) i_4 (SG.fr F_3 rfl rfl rfl hsg) tk_5.1) (c_X9_166 Cx rfl rfl (rmk_ok (by omega) (by decide))) hW (by decide) rfl rfl rfl hl.1 rfl (Nat.le_of_ble_eq_true rfl) dX9_inner_14 ⟨Nat.le_of_ble_eq_true rfl, Nat.le_of_ble_eq_true rfl⟩) hL (fun r_8 u_6 H locs k_7 hW hL => ?_)
  obtain ⟨iu_6, fu_6, xu_6⟩ := k_7
  have F_9 := F_3.trans fu_6
  refine r_if_ne (tgt := 22) hx hb ⟨(by omega), (by omega)⟩ dX9_inner_17 (by decide) (fun c_10 => ?_) (fun c_10 => ?_)
  · refine lv_aload_n hx hb dX9_inner_22 rfl (lv_at hl 0 rfl) ?_
    refine g_X9_37 Cx hW (k := 11) (by decide) rfl (v := .ref (G.2.2.1 + 83)) (rf_11_6 iu_6) dX9_inner_23 ?_
    refine lv_iload_n hx hb dX9_inner_26 rfl (lv_at hl 1 rfl) ?_
    obtain ⟨o_11, mo_11, eo_11⟩ := r2_83 iu_6 (i := dd) (by omega) (by omega)
    refine rAald Cx hW (k := 83) (by decide) rfl (by decide) (by omega) (by omega) eo_11 dX9_inner_27 ?_
    refine lv_aload_n hx hb dX9_inner_28 rfl (lv_at hl 0 rfl) ?_
    refine g_X9_31 Cx hW (k := 11) (by decide) rfl (v := .ref (G.2.2.1 + 19)) (rf_11_4 iu_6) dX9_inner_29 ?_
    refine lv_iload_n hx hb dX9_inner_32 rfl (lv_at hl 1 rfl) ?_
    refine lv_iconst (v := iv 1) hx hb dX9_inner_33 (by decide) ?_
    refine r_iadd hx hb dX9_inner_34 ?_
    obtain ⟨o_12, mo_12, eo_12⟩ := r2_19 iu_6 (i := dd + 1) (by omega) (by omega)
    refine rAald Cx hW (k := 19) (by decide) rfl (by decide) (by omega) (by omega) eo_12 dX9_inner_35 ?_
    refine lv_iconst (v := iv 1) hx hb dX9_inner_36 (by decide) ?_
    have tk_13 := TK.trans tk_5 (xu_6.2 (by omega))
    refine sBv (sSt (As := [.ref (G.2.2.1 + o_11), .ref (G.2.2.1 + o_12), .int (iv 1)]) (rest := []) Cx (s_X9_addTo l G u_6 (qa := o_11) (qb := o_12) (t := 1) iu_6 mo_11 mo_12 (by omega)) (c_X9_185 Cx rfl rfl (rmk_ok (by omega) (by decide))) hW rfl hl.1 rfl (Nat.le_of_ble_eq_true rfl) dX9_inner_37 ⟨Nat.le_of_ble_eq_true rfl, Nat.le_of_ble_eq_true rfl⟩) hL (fun u_14 H locs k_15 hW hL => ?_)
    obtain ⟨iu_14, fu_14⟩ := k_15
    have F_16 := F_9.trans (fu_14.to (p1_sub (lr_V mo_11)))
    have tk_17 := TK.fr tk_13 fu_14 (p1_no (tau_ne (rfl : tau 11 = .inl 9) mo_11.1 (fun h => by cases h))) (p1_no (tau_ne (rfl : tau 17 = .inr (.int, 768)) mo_11.1 (fun h => by cases h)))
    refine lv_aload_n hx hb dX9_inner_40 rfl (lv_at hl 0 rfl) ?_
    refine lv_dup hx hb dX9_inner_41 rfl ?_
    have q_18 : (-2147483648) ≤ u_6.1 11 13 ∧ u_6.1 11 13 ≤ 2147483647 := iu_6.fi 11 13 9 (by decide) rfl
    refine g_X9_89 Cx hW (k := 11) (by decide) rfl (v := u_6.1 11 13) ((fu_14 11 (p1_no (tau_ne (rfl : tau 11 = .inl 9) mo_11.1 (fun h => by cases h)))).1 13) dX9_inner_42 ?_
    refine lv_iconst (v := iv 1) hx hb dX9_inner_45 (by decide) ?_
    refine r_iadd hx hb dX9_inner_46 ?_
    obtain ⟨z_19, ez_19, hz_19, kz_19⟩ := iv_of (iv ((u_6.1 11 13) + 1))
    rw [ez_19]
    refine p_X9_89 Cx hW hL (k := 11) (by decide) rfl dX9_inner_47 (fun H locs hW hL => ?_)
    have F_20 : Fr S (uF u_14 11 13 z_19) pV := F_16.F rfl
    have i_21 : cX G (uF u_14 11 13 z_19) 0 0 0 := iu_14.F rfl rfl (show (-2147483648) ≤ z_19 ∧ z_19 ≤ 2147483647 from ⟨by omega, by omega⟩)
    have tk_22 : TK S (uF u_14 11 13 z_19) := tk_17.F (by decide)
    refine lv_iconst (v := iv 1) hx hb dX9_inner_50 (by decide) ?_
    exact sZret Cx hr hlk hW hL (by omega) ⟨i_21, F_20, ⟨(by omega), fun _ => tk_22⟩⟩ dX9_inner_51
  · refine lv_iconst (v := iv 0) hx hb dX9_inner_20 (by decide) ?_
    exact sZret Cx hr hlk hW hL (by omega) ⟨iu_6, F_9, ⟨(by omega), fun q => absurd q (by omega)⟩⟩ dX9_inner_21

set_option maxRecDepth 100000 in
set_option maxHeartbeats 4000000 in
theorem s_X9_summed (l : Launch) (G : sG) (S : sS) {D d1 : Nat} {dd : Int} (hI : cX G S 0 0 0) (hdd : 0 ≤ dd ∧ dd ≤ 29) (h1 : d1 < D) (h4 : 8 ≤ D) (hE : ExC l G d1 (dd + 1)) (hsg : SG S) (hTS : TS S) : Met l yX9_summed (.code yX9_summed cX9_summed 7 (some .boolean) :: tb) (rmk D 0 0) (sPc G 294 S [.ref (G.2.2.1 + 11), .int (iv dd)]) (sQi G 294 (fun r u => cX G u 0 0 0 ∧ Fr S u pV ∧ ((0 ≤ r ∧ r ≤ 1) ∧ Hd (r = 1 → TK S u)))) 0 0 (sF G) := by
  refine sEnter (by decide) (Nat.le_of_ble_eq_true rfl) ?_
  intro p e s m args below meth c Cx hr hlk hnm hW ls hl
  have Cx : sC G p m c cX9_summed 7 s args RX9 := Cx
  obtain ⟨hx, hb, hml, hown, hts⟩ := id Cx.1
  have hL : sL G [] := sL_nil
  have hl : lv_has ls 7 [(0, .ref (G.2.2.1 + 11)), (1, .int (iv dd))] := hl
  have hW0 := hW
  have tk_0 : TK S S := TK.rf hTS
  have hkn : 0 ≤ S.1 11 9 ∧ S.1 11 9 ≤ 128 := hI.fi 11 9 9 (by decide) rfl
  refine lv_aload_n hx hb dX9_summed_0 rfl (lv_at hl 0 rfl) ?_
  have q_1 : (-2147483648) ≤ S.1 11 13 ∧ S.1 11 13 ≤ 2147483647 := hI.fi 11 13 9 (by decide) rfl
  refine g_X9_89 Cx hW (k := 11) (by decide) rfl (v := S.1 11 13) rfl dX9_summed_1 ?_
  refine lv_istore_n (lv' := [(2, .int (iv (S.1 11 13))), (0, .ref (G.2.2.1 + 11)), (1, .int (iv dd))]) hx hb dX9_summed_4 rfl hl (by decide) rfl (fun ls hl => ?_)
  refine lv_aload_n hx hb dX9_summed_5 rfl (lv_at hl 1 rfl) ?_
  refine lv_aload_n hx hb dX9_summed_6 rfl (lv_at hl 1 rfl) ?_
  refine g_X9_14 Cx hW (k := 11) (by decide) rfl (v := .ref (G.2.2.1 + 12)) (rf_11_0 hI) dX9_summed_7 ?_
  refine lv_aload_n hx hb dX9_summed_10 rfl (lv_at hl 1 rfl) ?_
  refine g_X9_89 Cx hW (k := 11) (by decide) rfl (v := S.1 11 13) rfl dX9_summed_11 ?_
  refine lv_iconst (v := iv 3) hx hb dX9_summed_14 (by decide) ?_
  refine r_iadd hx hb dX9_summed_15 ?_
  obtain ⟨z_2, ez_2, hz_2, kz_2⟩ := iv_of (iv ((S.1 11 13) + 3))
  rw [ez_2]
  refine sBl (sV (As := [.int (iv z_2)]) (rest := [.ref (G.2.2.1 + 11)]) (k := 12) Cx (s_X8_value l G S (k := z_2) hI (by omega)) (c_X9_124 Cx rfl rfl (rmk_ok (by omega) (by decide))) hW (by decide) rfl rfl rfl hl.1 rfl (Nat.le_of_ble_eq_true rfl) dX9_summed_16 ⟨Nat.le_of_ble_eq_true rfl, Nat.le_of_ble_eq_true rfl⟩) hL (fun r_5 u_3 H locs k_4 hW hL => ?_)
  obtain ⟨eu_3, xu_3⟩ := k_4
  rw [eu_3] at hW
  have q_6 : 0 ≤ S.1 11 9 ∧ S.1 11 9 ≤ 128 := hI.fi 11 9 9 (by decide) rfl
  refine sBi (sV (As := [.long (jv r_5)]) (rest := []) (k := 11) Cx (s_X9_find l G S (nm := r_5) hI (by omega)) (c_X9_128 Cx rfl rfl (rmk_ok (by omega) (by decide))) hW (by decide) rfl rfl rfl hl.1 rfl (Nat.le_of_ble_eq_true rfl) dX9_summed_19 ⟨Nat.le_of_ble_eq_true rfl, Nat.le_of_ble_eq_true rfl⟩) hL (fun r_9 u_7 H locs k_8 hW hL => ?_)
  obtain ⟨eu_7, xu_7⟩ := k_8
  rw [eu_7] at hW
  refine lv_istore_n (lv' := [(3, .int (iv r_9)), (2, .int (iv (S.1 11 13))), (0, .ref (G.2.2.1 + 11)), (1, .int (iv dd))]) hx hb dX9_summed_22 rfl hl (by decide) rfl (fun ls hl => ?_)
  refine lv_aload_n hx hb dX9_summed_23 rfl (lv_at hl 2 rfl) ?_
  refine lv_aload_n hx hb dX9_summed_24 rfl (lv_at hl 2 rfl) ?_
  refine g_X9_89 Cx hW (k := 11) (by decide) rfl (v := S.1 11 13) rfl dX9_summed_25 ?_
  refine lv_iconst (v := iv 1) hx hb dX9_summed_28 (by decide) ?_
  refine r_iadd hx hb dX9_summed_29 ?_
  obtain ⟨z_10, ez_10, hz_10, kz_10⟩ := iv_of (iv ((S.1 11 13) + 1))
  rw [ez_10]
  refine lv_iconst (v := iv 2) hx hb dX9_summed_30 (by decide) ?_
  refine sBi (sV (As := [.int (iv z_10), .int (iv 2)]) (rest := []) (k := 11) Cx (s_X9_learn l G S (tk := z_10) (so := 2) hI (by omega) (by omega)) (c_X9_140 Cx rfl rfl (rmk_ok (by omega) (by decide))) hW (by decide) rfl rfl rfl hl.1 rfl (Nat.le_of_ble_eq_true rfl) dX9_summed_31 ⟨Nat.le_of_ble_eq_true rfl, Nat.le_of_ble_eq_true rfl⟩) hL (fun r_13 u_11 H locs k_12 hW hL => ?_)
  obtain ⟨iu_11, fu_11, xu_11⟩ := k_12
  have F_14 := (Fr.rf : Fr S S pV).trans (fu_11.to (fun k h => pU_V k (pT_U k h)))
  refine lv_istore (lv' := [(4, .int (iv r_13)), (3, .int (iv r_9)), (2, .int (iv (S.1 11 13))), (0, .ref (G.2.2.1 + 11)), (1, .int (iv dd))]) hx hb dX9_summed_34 hl (by decide) rfl (fun ls hl => ?_)
  refine lv_iload hx hb dX9_summed_36 (lv_at hl 0 rfl) ?_
  refine r_if_ge (tgt := 43) hx hb ⟨(by omega), (by omega)⟩ dX9_summed_38 (by decide) (fun c_15 => ?_) (fun c_15 => ?_)
  · have hr0 := xu_11.2.1 (by omega)
    have hln : LN S u_11 (S.1 11 9) 2 := by have z := xu_11.2.2 (by omega); rw [hr0.1] at z; exact z
    have tk_1 : TK u_11 u_11 := TK.rf (hTS.learn hkn.1 hr0.2 hln (by decide))
    have hn6 : fc u_11 (S.1 11 9) 0 ≠ 6 := by rw [hln _ 0 (by omega) (by omega), if_pos rfl, if_pos rfl]; decide
    refine lv_aload_n hx hb dX9_summed_43 rfl (lv_at hl 3 rfl) ?_
    refine lv_iload_n hx hb dX9_summed_44 rfl (lv_at hl 1 rfl) ?_
    refine lv_bipush (v := iv 6) hx hb dX9_summed_45 (by decide) ?_
    refine sBi (sV (As := [.int (iv r_9), .int (iv 6)]) (rest := []) (k := 11) Cx (s_X9_isSort l G u_11 (s0 := r_9) (k := 6) iu_11 (by omega) (by omega)) (c_X9_146 Cx rfl rfl (rmk_ok (by omega) (by decide))) hW (by decide) rfl rfl rfl hl.1 rfl (Nat.le_of_ble_eq_true rfl) dX9_summed_47 ⟨Nat.le_of_ble_eq_true rfl, Nat.le_of_ble_eq_true rfl⟩) hL (fun r_18 u_16 H locs k_17 hW hL => ?_)
    obtain ⟨eu_16, xu_16⟩ := k_17
    rw [eu_16] at hW
    refine r_if_ne (tgt := 65) hx hb ⟨(by omega), (by omega)⟩ dX9_summed_50 (by decide) (fun c_19 => ?_) (fun c_19 => ?_)
    · refine lv_aload_n hx hb dX9_summed_65 rfl (lv_at hl 3 rfl) ?_
      refine lv_iload_n hx hb dX9_summed_66 rfl (lv_at hl 1 rfl) ?_
      refine lv_iconst (v := iv 2) hx hb dX9_summed_67 (by decide) ?_
      refine sBi (sV (As := [.int (iv r_9), .int (iv 2)]) (rest := []) (k := 11) Cx (s_X9_fact l G u_11 (s0 := r_9) (q := 2) iu_11 (by omega) (by omega)) (c_X9_120 Cx rfl rfl (rmk_ok (by omega) (by decide))) hW (by decide) rfl rfl rfl hl.1 rfl (Nat.le_of_ble_eq_true rfl) dX9_summed_68 ⟨Nat.le_of_ble_eq_true rfl, Nat.le_of_ble_eq_true rfl⟩) hL (fun r_22 u_20 H locs k_21 hW hL => ?_)
      obtain ⟨eu_20, xu_20⟩ := k_21
      rw [eu_20] at hW
      have yu_20 := xu_20.2
      unfold fr8 at yu_20
      refine lv_istore (lv' := [(5, .int (iv r_22)), (4, .int (iv r_13)), (3, .int (iv r_9)), (2, .int (iv (S.1 11 13))), (0, .ref (G.2.2.1 + 11)), (1, .int (iv dd))]) hx hb dX9_summed_71 hl (by decide) rfl (fun ls hl => ?_)
      refine lv_aload_n hx hb dX9_summed_73 rfl (lv_at hl 4 rfl) ?_
      refine lv_iload_n hx hb dX9_summed_74 rfl (lv_at hl 2 rfl) ?_
      refine lv_iconst (v := iv 1) hx hb dX9_summed_75 (by decide) ?_
      refine sBi (sV (As := [.int (iv r_9), .int (iv 1)]) (rest := []) (k := 11) Cx (s_X9_fact l G u_11 (s0 := r_9) (q := 1) iu_11 (by omega) (by omega)) (c_X9_120 Cx rfl rfl (rmk_ok (by omega) (by decide))) hW (by decide) rfl rfl rfl hl.1 rfl (Nat.le_of_ble_eq_true rfl) dX9_summed_76 ⟨Nat.le_of_ble_eq_true rfl, Nat.le_of_ble_eq_true rfl⟩) hL (fun r_25 u_23 H locs k_24 hW hL => ?_)
      obtain ⟨eu_23, xu_23⟩ := k_24
      rw [eu_23] at hW
      have yu_23 := xu_23.2
      unfold fr8 at yu_23
      refine lv_istore (lv' := [(6, .int (iv r_25)), (5, .int (iv r_22)), (4, .int (iv r_13)), (3, .int (iv r_9)), (2, .int (iv (S.1 11 13))), (0, .ref (G.2.2.1 + 11)), (1, .int (iv dd))]) hx hb dX9_summed_79 hl (by decide) rfl (fun ls hl => ?_)
      have loop_81 : ∀ (fuel : Nat) (S81 : sS) (va : Int) (H : Heap) (locs : List Loc) (ls : Array Slot), (r_22 + 1 - va).toNat < fuel → (cX G S81 0 0 0) → (Fr S S81 pV) → (Fr u_11 S81 pV) → (0 ≤ va ∧ va ≤ 2054847099) → (TK u_11 S81) → sW G 294 S81 H → sL G locs → lv_has ls 7 [(6, .int (iv va)), (5, .int (iv r_22)), (4, .int (iv r_13)), (3, .int (iv r_9)), (2, .int (iv (S.1 11 13))), (0, .ref (G.2.2.1 + 11)), (1, .int (iv dd))] → W p l e (rmk D 0 0) s m args below meth c H locs 0 0 (MQ below (sQi G 294 (fun r u => cX G u 0 0 0 ∧ Fr S u pV ∧ ((0 ≤ r ∧ r ≤ 1) ∧ Hd (r = 1 → TK S u)))) args s 0 0 (sF G)) (F0 m 81 ls []) := by
        intro fuel
        induction fuel with
        | zero => intro S81 va H locs ls hmeas hI81 hFm81 hL81_ hva hTK81 hW hL hl; exact absurd hmeas (Nat.not_lt_zero _)
        | succ fuel ih_81 =>
          intro S81 va H locs ls hmeas hI81 hFm81 hL81_ hva hTK81 hW hL hl
          refine lv_iload hx hb dX9_summed_81 (lv_at hl 0 rfl) ?_
          refine lv_iload hx hb dX9_summed_83 (lv_at hl 1 rfl) ?_
          refine r_icmp_gt (tgt := 160) hx hb ⟨(by omega), (by omega)⟩ ⟨(by omega), (by omega)⟩ dX9_summed_85 (by decide) (fun c_26 => ?_) (fun c_26 => ?_)
          · have hk81 : S81.1 11 9 = u_11.1 11 9 := hTK81.2.1
            refine lv_aload_n hx hb dX9_summed_160 rfl (lv_at hl 5 rfl) ?_
            have q_27 : 0 ≤ S81.1 11 9 ∧ S81.1 11 9 ≤ 128 := hI81.fi 11 9 9 (by decide) rfl
            refine sBv (sV (As := []) (rest := []) (k := 11) Cx (s_X9_forgetLast l G S81  hI81 (by omega)) (c_X9_176 Cx rfl rfl (rmk_ok (by omega) (by decide))) hW (by decide) rfl rfl rfl hl.1 rfl (Nat.le_of_ble_eq_true rfl) dX9_summed_161 ⟨Nat.le_of_ble_eq_true rfl, Nat.le_of_ble_eq_true rfl⟩) hL (fun u_28 H locs k_29 hW hL => ?_)
            obtain ⟨iu_28, fu_28, xu_28⟩ := k_29
            have F_30 := hFm81.trans (fu_28.to (fun k h => pU_V k ((fun k h => pT_U k (p11_T k h)) k h)))
            have F_31 := hL81_.trans (fu_28.to (fun k h => pU_V k ((fun k h => pT_U k (p11_T k h)) k h)))
            have tk_32 := TK.pop hTK81 hln rfl hkn.1 hr0.2 xu_28
            refine lv_aload_n hx hb dX9_summed_164 rfl (lv_at hl 5 rfl) ?_
            refine lv_dup hx hb dX9_summed_165 rfl ?_
            have q_33 : (-2147483648) ≤ u_28.1 11 13 ∧ u_28.1 11 13 ≤ 2147483647 := iu_28.fi 11 13 9 (by decide) rfl
            refine g_X9_89 Cx hW (k := 11) (by decide) rfl (v := u_28.1 11 13) rfl dX9_summed_166 ?_
            refine lv_iconst (v := iv 1) hx hb dX9_summed_169 (by decide) ?_
            refine r_iadd hx hb dX9_summed_170 ?_
            obtain ⟨z_34, ez_34, hz_34, kz_34⟩ := iv_of (iv ((u_28.1 11 13) + 1))
            rw [ez_34]
            refine p_X9_89 Cx hW hL (k := 11) (by decide) rfl dX9_summed_171 (fun H locs hW hL => ?_)
            have F_35 : Fr S (uF u_28 11 13 z_34) pV := F_30.F rfl
            have F_36 : Fr u_11 (uF u_28 11 13 z_34) pV := F_31.F rfl
            have i_37 : cX G (uF u_28 11 13 z_34) 0 0 0 := iu_28.F rfl rfl (show (-2147483648) ≤ z_34 ∧ z_34 ≤ 2147483647 from ⟨by omega, by omega⟩)
            have tk_38 : TK S (uF u_28 11 13 z_34) := tk_32.F (by decide)
            refine lv_iconst (v := iv 1) hx hb dX9_summed_174 (by decide) ?_
            exact sZret Cx hr hlk hW hL (by omega) ⟨i_37, F_35, ⟨(by omega), fun _ => tk_38⟩⟩ dX9_summed_175
          · refine lv_aload_n hx hb dX9_summed_88 rfl (lv_at hl 5 rfl) ?_
            refine lv_iload hx hb dX9_summed_89 (lv_at hl 2 rfl) ?_
            refine lv_iconst (v := iv 1) hx hb dX9_summed_91 (by decide) ?_
            refine lv_iload hx hb dX9_summed_92 (lv_at hl 0 rfl) ?_
            refine sBv (sV (As := [.int (iv r_13), .int (iv 1), .int (iv va)]) (rest := []) (k := 11) Cx (s_X9_setFact l G S81 (s0 := r_13) (q := 1) (v := va) hI81 (by omega) (by omega) (by unfold fr8; omega) (by omega)) (c_X9_136 Cx rfl rfl (rmk_ok (by omega) (by decide))) hW (by decide) rfl rfl rfl hl.1 rfl (Nat.le_of_ble_eq_true rfl) dX9_summed_94 ⟨Nat.le_of_ble_eq_true rfl, Nat.le_of_ble_eq_true rfl⟩) hL (fun u_39 H locs k_40 hW hL => ?_)
            obtain ⟨iu_39, fu_39, xu_39⟩ := k_40
            have F_41 := hFm81.trans (fu_39.to (fun k h => pU_V k ((fun k h => pT_U k (p17_T k h)) k h)))
            have F_42 := hL81_.trans (fu_39.to (fun k h => pU_V k ((fun k h => pT_U k (p17_T k h)) k h)))
            have tk_43 := TK.low hTK81 (s := S.1 11 9) (u := u_39) ⟨(by omega), (by omega)⟩ hn6 (by rw [← hr0.1]; exact xu_39)
            refine lv_aload_n hx hb dX9_summed_97 rfl (lv_at hl 5 rfl) ?_
            refine lv_iload_n hx hb dX9_summed_98 rfl (lv_at hl 4 rfl) ?_
            refine lv_iconst (v := iv 5) hx hb dX9_summed_99 (by decide) ?_
            refine r_iadd hx hb dX9_summed_100 ?_
            obtain ⟨z_44, ez_44, hz_44, kz_44⟩ := iv_of (iv ((S.1 11 13) + 5))
            rw [ez_44]
            refine p_X9_89 Cx hW hL (k := 11) (by decide) rfl dX9_summed_101 (fun H locs hW hL => ?_)
            have F_45 : Fr S (uF u_39 11 13 z_44) pV := F_41.F rfl
            have F_46 : Fr u_11 (uF u_39 11 13 z_44) pV := F_42.F rfl
            have i_47 : cX G (uF u_39 11 13 z_44) 0 0 0 := iu_39.F rfl rfl (show (-2147483648) ≤ z_44 ∧ z_44 ≤ 2147483647 from ⟨by omega, by omega⟩)
            have tk_48 : TK u_11 (uF u_39 11 13 z_44) := tk_43.F (by decide)
            refine lv_aload_n hx hb dX9_summed_104 rfl (lv_at hl 5 rfl) ?_
            refine lv_iload_n hx hb dX9_summed_105 rfl (lv_at hl 6 rfl) ?_
            refine lv_iconst (v := iv 1) hx hb dX9_summed_106 (by decide) ?_
            refine r_iadd hx hb dX9_summed_107 ?_
            refine sBi (sV (As := [.int (iv (dd + 1))]) (rest := []) (k := 11) Cx (hE (uF u_39 11 13 z_44) i_47 (SG.fr F_45 rfl rfl rfl hsg) tk_48.1) (c_X9_166 Cx rfl rfl (rmk_ok (by omega) (by decide))) hW (by decide) rfl rfl rfl hl.1 rfl (Nat.le_of_ble_eq_true rfl) dX9_summed_108 ⟨Nat.le_of_ble_eq_true rfl, Nat.le_of_ble_eq_true rfl⟩) hL (fun r_51 u_49 H locs k_50 hW hL => ?_)
            obtain ⟨iu_49, fu_49, xu_49⟩ := k_50
            have F_52 := F_45.trans fu_49
            have F_53 := F_46.trans fu_49
            refine r_if_ne (tgt := 116) hx hb ⟨(by omega), (by omega)⟩ dX9_summed_111 (by decide) (fun c_54 => ?_) (fun c_54 => ?_)
            · refine lv_aload_n hx hb dX9_summed_116 rfl (lv_at hl 5 rfl) ?_
              refine g_X9_37 Cx hW (k := 11) (by decide) rfl (v := .ref (G.2.2.1 + 83)) (rf_11_6 iu_49) dX9_summed_117 ?_
              refine lv_iload_n hx hb dX9_summed_120 rfl (lv_at hl 6 rfl) ?_
              obtain ⟨o_55, mo_55, eo_55⟩ := r2_83 iu_49 (i := dd) (by omega) (by omega)
              refine rAald Cx hW (k := 83) (by decide) rfl (by decide) (by omega) (by omega) eo_55 dX9_summed_121 ?_
              refine lv_aload_n hx hb dX9_summed_122 rfl (lv_at hl 5 rfl) ?_
              refine g_X9_31 Cx hW (k := 11) (by decide) rfl (v := .ref (G.2.2.1 + 19)) (rf_11_4 iu_49) dX9_summed_123 ?_
              refine lv_iload_n hx hb dX9_summed_126 rfl (lv_at hl 6 rfl) ?_
              refine lv_iconst (v := iv 1) hx hb dX9_summed_127 (by decide) ?_
              refine r_iadd hx hb dX9_summed_128 ?_
              obtain ⟨o_56, mo_56, eo_56⟩ := r2_19 iu_49 (i := dd + 1) (by omega) (by omega)
              refine rAald Cx hW (k := 19) (by decide) rfl (by decide) (by omega) (by omega) eo_56 dX9_summed_129 ?_
              refine lv_iconst (v := iv 1) hx hb dX9_summed_130 (by decide) ?_
              have tk_57 := TK.trans tk_48 (xu_49.2 (by omega))
              refine sBv (sSt (As := [.ref (G.2.2.1 + o_55), .ref (G.2.2.1 + o_56), .int (iv 1)]) (rest := []) Cx (s_X9_addTo l G u_49 (qa := o_55) (qb := o_56) (t := 1) iu_49 mo_55 mo_56 (by omega)) (c_X9_185 Cx rfl rfl (rmk_ok (by omega) (by decide))) hW rfl hl.1 rfl (Nat.le_of_ble_eq_true rfl) dX9_summed_131 ⟨Nat.le_of_ble_eq_true rfl, Nat.le_of_ble_eq_true rfl⟩) hL (fun u_58 H locs k_59 hW hL => ?_)
              obtain ⟨iu_58, fu_58⟩ := k_59
              have F_60 := F_52.trans (fu_58.to (p1_sub (lr_V mo_55)))
              have F_61 := F_53.trans (fu_58.to (p1_sub (lr_V mo_55)))
              have tk_62 := TK.fr tk_57 fu_58 (p1_no (tau_ne (rfl : tau 11 = .inl 9) mo_55.1 (fun h => by cases h))) (p1_no (tau_ne (rfl : tau 17 = .inr (.int, 768)) mo_55.1 (fun h => by cases h)))
              refine lv_aload_n hx hb dX9_summed_134 rfl (lv_at hl 5 rfl) ?_
              refine g_X9_37 Cx hW (k := 11) (by decide) rfl (v := .ref (G.2.2.1 + 83)) (rf_11_6 iu_58) dX9_summed_135 ?_
              refine lv_iload_n hx hb dX9_summed_138 rfl (lv_at hl 6 rfl) ?_
              obtain ⟨o_63, mo_63, eo_63⟩ := r2_83 iu_58 (i := dd) (by omega) (by omega)
              refine rAald Cx hW (k := 83) (by decide) rfl (by decide) (by omega) (by omega) eo_63 dX9_summed_139 ?_
              refine sBi (sSt (As := [.ref (G.2.2.1 + o_63)]) (rest := []) Cx (s_X9_isGreat l G u_58 (qa := o_63) iu_58 mo_63) (c_X9_189 Cx rfl rfl (rmk_ok (by omega) (by decide))) hW rfl hl.1 rfl (Nat.le_of_ble_eq_true rfl) dX9_summed_140 ⟨Nat.le_of_ble_eq_true rfl, Nat.le_of_ble_eq_true rfl⟩) hL (fun r_66 u_64 H locs k_65 hW hL => ?_)
              obtain ⟨eu_64, xu_64⟩ := k_65
              rw [eu_64] at hW
              refine r_if_eq (tgt := 154) hx hb ⟨(by omega), (by omega)⟩ dX9_summed_143 (by decide) (fun c_67 => ?_) (fun c_67 => ?_)
              · refine lv_iinc (v := iv (va + 1)) (lv' := [(6, .int (iv (va + 1))), (5, .int (iv r_22)), (4, .int (iv r_13)), (3, .int (iv r_9)), (2, .int (iv (S.1 11 13))), (0, .ref (G.2.2.1 + 11)), (1, .int (iv dd))]) hx hb dX9_summed_154 hl (k := 0) rfl ((Int32.ofInt_add _ _).symm) (by decide) rfl (fun ls hl => ?_)
                refine lv_goto (tgt := 81) hx hb dX9_summed_157 (by decide) ?_
                exact ih_81 u_58 (va + 1) _ _ _ (by omega) iu_58 F_60 F_61 (by omega) tk_62 hW hL (lv_sub hl [0, 1, 2, 3, 4, 5, 6] rfl)
              · refine lv_aload_n hx hb dX9_summed_146 rfl (lv_at hl 5 rfl) ?_
                refine lv_bipush (v := iv 6) hx hb dX9_summed_147 (by decide) ?_
                refine lv_iload_n hx hb dX9_summed_149 rfl (lv_at hl 4 rfl) ?_
                have q_68 : 0 ≤ u_49.1 11 9 ∧ u_49.1 11 9 ≤ 128 := iu_49.fi 11 9 9 (by decide) rfl
                have lk_69 : u_58.1 11 9 = u_49.1 11 9 := (fu_58 11 (p1_no (tau_ne (rfl : tau 11 = .inl 9) mo_55.1 (fun h => by cases h)))).1 9
                refine sBi (sV (As := [.int (iv 6), .int (iv (S.1 11 13))]) (rest := []) (k := 11) Cx (s_X9_fail l G u_58 (k := 6) (tk := S.1 11 13) iu_58 (by omega) (by omega)) (c_X9_132 Cx rfl rfl (rmk_ok (by omega) (by decide))) hW (by decide) rfl rfl rfl hl.1 rfl (Nat.le_of_ble_eq_true rfl) dX9_summed_150 ⟨Nat.le_of_ble_eq_true rfl, Nat.le_of_ble_eq_true rfl⟩) hL (fun r_72 u_70 H locs k_71 hW hL => ?_)
                obtain ⟨iu_70, fu_70, xu_70⟩ := k_71
                have F_73 := F_60.trans (fu_70.to (fun k h => pU_V k ((fun k h => pT_U k (p11_T k h)) k h)))
                have F_74 := F_61.trans (fu_70.to (fun k h => pU_V k ((fun k h => pT_U k (p11_T k h)) k h)))
                have tk_75 := TK.of tk_62 (u := u_70) (by omega) (fun j => (fu_70 17 rfl).2.1 j)
                exact sZret Cx hr hlk hW hL (by omega) ⟨iu_70, F_73, ⟨(by omega), fun q => absurd q (by omega)⟩⟩ dX9_summed_153
            · refine lv_iconst (v := iv 0) hx hb dX9_summed_114 (by decide) ?_
              exact sZret Cx hr hlk hW hL (by omega) ⟨iu_49, F_52, ⟨(by omega), fun q => absurd q (by omega)⟩⟩ dX9_summed_115
      exact loop_81 (_ + 1) u_11 r_25 _ _ _ (Nat.lt_succ_self _) iu_11 F_14 Fr.rf (by omega) tk_1 hW hL (lv_sub hl [0, 1, 2, 3, 4, 5, 6] rfl)
    · refine lv_aload_n hx hb dX9_summed_53 rfl (lv_at hl 3 rfl) ?_
      refine lv_iconst (v := iv 2) hx hb dX9_summed_54 (by decide) ?_
      refine lv_aload_n hx hb dX9_summed_55 rfl (lv_at hl 3 rfl) ?_
      have q_76 : (-2147483648) ≤ u_11.1 11 13 ∧ u_11.1 11 13 ≤ 2147483647 := iu_11.fi 11 13 9 (by decide) rfl
      refine g_X9_89 Cx hW (k := 11) (by decide) rfl (v := u_11.1 11 13) rfl dX9_summed_56 ?_
      refine lv_iconst (v := iv 3) hx hb dX9_summed_59 (by decide) ?_
      refine r_iadd hx hb dX9_summed_60 ?_
      obtain ⟨z_77, ez_77, hz_77, kz_77⟩ := iv_of (iv ((u_11.1 11 13) + 3))
      rw [ez_77]
      have q_78 : 0 ≤ u_11.1 11 9 ∧ u_11.1 11 9 ≤ 128 := iu_11.fi 11 9 9 (by decide) rfl
      refine sBi (sV (As := [.int (iv 2), .int (iv z_77)]) (rest := []) (k := 11) Cx (s_X9_fail l G u_11 (k := 2) (tk := z_77) iu_11 (by omega) (by omega)) (c_X9_132 Cx rfl rfl (rmk_ok (by omega) (by decide))) hW (by decide) rfl rfl rfl hl.1 rfl (Nat.le_of_ble_eq_true rfl) dX9_summed_61 ⟨Nat.le_of_ble_eq_true rfl, Nat.le_of_ble_eq_true rfl⟩) hL (fun r_81 u_79 H locs k_80 hW hL => ?_)
      obtain ⟨iu_79, fu_79, xu_79⟩ := k_80
      have F_82 := F_14.trans (fu_79.to (fun k h => pU_V k ((fun k h => pT_U k (p11_T k h)) k h)))
      have tk_83 := TK.of tk_1 (u := u_79) (by omega) (fun j => (fu_79 17 rfl).2.1 j)
      exact sZret Cx hr hlk hW hL (by omega) ⟨iu_79, F_82, ⟨(by omega), fun q => absurd q (by omega)⟩⟩ dX9_summed_64
  · refine lv_iconst (v := iv 0) hx hb dX9_summed_41 (by decide) ?_
    exact sZret Cx hr hlk hW hL (by omega) ⟨iu_11, F_14, ⟨(by omega), fun q => absurd q (by omega)⟩⟩ dX9_summed_42

set_option maxRecDepth 100000 in
set_option maxHeartbeats 4000000 in
theorem s_X9_factor (l : Launch) (G : sG) (S : sS) {D dm d1 d2 : Nat} {dd : Int} (hI : cX G S 0 0 0) (hdd : 0 ≤ dd ∧ dd ≤ 30) (h1 : d1 < dm) (h2 : d2 < dm) (hm : dm < D) (h8 : 8 ≤ dm) (hE : dd < 30 → ExC l G d1 (dd + 1)) (hF : dd < 30 → FaC l G d2 (dd + 1)) (hsg : SG S) (hTS : TS S) : Met l yX9_factor (.code yX9_factor cX9_factor 4 (some .boolean) :: tb) (rmk D 0 0) (sPc G 294 S [.ref (G.2.2.1 + 11), .int (iv dd)]) (sQi G 294 (fun r u => cX G u 0 0 0 ∧ Fr S u pV ∧ ((0 ≤ r ∧ r ≤ 1) ∧ Hd (r = 1 → TK S u)))) 0 0 (sF G) := by
  refine sEnter (by decide) (Nat.le_of_ble_eq_true rfl) ?_
  intro p e s m args below meth c Cx hr hlk hnm hW ls hl
  have Cx : sC G p m c cX9_factor 4 s args RX9 := Cx
  obtain ⟨hx, hb, hml, hown, hts⟩ := id Cx.1
  have hL : sL G [] := sL_nil
  have hl : lv_has ls 4 [(0, .ref (G.2.2.1 + 11)), (1, .int (iv dd))] := hl
  have hW0 := hW
  have tk_0 : TK S S := TK.rf hTS
  have hkn : 0 ≤ S.1 11 9 ∧ S.1 11 9 ≤ 128 := hI.fi 11 9 9 (by decide) rfl
  refine lv_iload_n hx hb dX9_factor_0 rfl (lv_at hl 1 rfl) ?_
  refine lv_bipush (v := iv 30) hx hb dX9_factor_1 (by decide) ?_
  refine r_icmp_lt (tgt := 16) hx hb ⟨(by omega), (by omega)⟩ ⟨(by omega), (by omega)⟩ dX9_factor_3 (by decide) (fun c_1 => ?_) (fun c_1 => ?_)
  · refine lv_aload_n hx hb dX9_factor_16 rfl (lv_at hl 0 rfl) ?_
    refine g_X9_14 Cx hW (k := 11) (by decide) rfl (v := .ref (G.2.2.1 + 12)) (rf_11_0 hI) dX9_factor_17 ?_
    refine lv_aload_n hx hb dX9_factor_20 rfl (lv_at hl 0 rfl) ?_
    have q_2 : (-2147483648) ≤ S.1 11 13 ∧ S.1 11 13 ≤ 2147483647 := hI.fi 11 13 9 (by decide) rfl
    refine g_X9_89 Cx hW (k := 11) (by decide) rfl (v := S.1 11 13) rfl dX9_factor_21 ?_
    refine sBi (sV (As := [.int (iv (S.1 11 13))]) (rest := []) (k := 12) Cx (s_X8_kind l G S (k := S.1 11 13) hI (by omega)) (c_X9_95 Cx rfl rfl (rmk_ok (by omega) (by decide))) hW (by decide) rfl rfl rfl hl.1 rfl (Nat.le_of_ble_eq_true rfl) dX9_factor_24 ⟨Nat.le_of_ble_eq_true rfl, Nat.le_of_ble_eq_true rfl⟩) hL (fun r_5 u_3 H locs k_4 hW hL => ?_)
    obtain ⟨eu_3, xu_3⟩ := k_4
    rw [eu_3] at hW
    refine lv_istore_n (lv' := [(2, .int (iv r_5)), (0, .ref (G.2.2.1 + 11)), (1, .int (iv dd))]) hx hb dX9_factor_27 rfl hl (by decide) rfl (fun ls hl => ?_)
    refine lv_iconst (v := iv (-1)) hx hb dX9_factor_28 (by decide) ?_
    refine lv_istore_n (lv' := [(3, .int (iv ((-1)))), (2, .int (iv r_5)), (0, .ref (G.2.2.1 + 11)), (1, .int (iv dd))]) hx hb dX9_factor_29 rfl hl (by decide) rfl (fun ls hl => ?_)
    have join_69 : ∀ (sy : Int) (H : Heap) (locs : List Loc) (ls : Array Slot), (-1 ≤ sy ∧ sy ≤ 127) → (r_5 = 2 → 0 ≤ sy) → sW G 294 S H → sL G locs → lv_has ls 4 [(3, .int (iv sy)), (2, .int (iv r_5)), (0, .ref (G.2.2.1 + 11)), (1, .int (iv dd))] → W p l e (rmk D 0 0) s m args below meth c H locs 0 0 (MQ below (sQi G 294 (fun r u => cX G u 0 0 0 ∧ Fr S u pV ∧ ((0 ≤ r ∧ r ≤ 1) ∧ Hd (r = 1 → TK S u)))) args s 0 0 (sF G)) (F0 m 69 ls []) := by
      intro sy H locs ls hsy hsk hW hL hl
      refine lv_aload_n hx hb dX9_factor_69 rfl (lv_at hl 2 rfl) ?_
      refine lv_dup hx hb dX9_factor_70 rfl ?_
      have q_6 : (-2147483648) ≤ S.1 11 12 ∧ S.1 11 12 ≤ 2147483647 := hI.fi 11 12 9 (by decide) rfl
      refine g_X9_86 Cx hW (k := 11) (by decide) rfl (v := S.1 11 12) rfl dX9_factor_71 ?_
      refine lv_iconst (v := iv 1) hx hb dX9_factor_74 (by decide) ?_
      refine r_iadd hx hb dX9_factor_75 ?_
      obtain ⟨z_7, ez_7, hz_7, kz_7⟩ := iv_of (iv ((S.1 11 12) + 1))
      rw [ez_7]
      refine p_X9_86 Cx hW hL (k := 11) (by decide) rfl dX9_factor_76 (fun H locs hW hL => ?_)
      have F_8 : Fr S (uF S 11 12 z_7) pV := (Fr.rf : Fr S S pV).F rfl
      have i_9 : cX G (uF S 11 12 z_7) 0 0 0 := hI.F rfl rfl (show (-2147483648) ≤ z_7 ∧ z_7 ≤ 2147483647 from ⟨by omega, by omega⟩)
      have tk_10 : TK S (uF S 11 12 z_7) := tk_0.F (by decide)
      refine lv_aload_n hx hb dX9_factor_79 rfl (lv_at hl 2 rfl) ?_
      refine g_X9_86 Cx hW (k := 11) (by decide) rfl (v := z_7) uF_on dX9_factor_80 ?_
      refine lv_sipush (v := iv 20000) hx hb dX9_factor_83 (by decide) ?_
      refine r_icmp_le (tgt := 100) hx hb ⟨(by omega), (by omega)⟩ ⟨(by omega), (by omega)⟩ dX9_factor_86 (by decide) (fun c_11 => ?_) (fun c_11 => ?_)
      · refine lv_aload_n hx hb dX9_factor_100 rfl (lv_at hl 2 rfl) ?_
        refine g_X9_37 Cx hW (k := 11) (by decide) rfl (v := .ref (G.2.2.1 + 83)) (rf_11_6 i_9) dX9_factor_101 ?_
        refine lv_iload_n hx hb dX9_factor_104 rfl (lv_at hl 3 rfl) ?_
        obtain ⟨o_12, mo_12, eo_12⟩ := r2_83 i_9 (i := dd) (by omega) (by omega)
        refine rAald Cx hW (k := 83) (by decide) rfl (by decide) (by omega) (by omega) eo_12 dX9_factor_105 ?_
        refine lv_lconst (v := jv 0) hx hb dX9_factor_106 (by decide) ?_
        refine sBv (sSt (As := [.ref (G.2.2.1 + o_12), .long (jv 0)]) (rest := []) Cx (s_J7_fill_d0a16 l G (uF S 11 12 z_7) (qa := o_12) i_9 mo_12) (c_X9_224 Cx rfl rfl (rmk_ok (by omega) (by decide))) hW rfl hl.1 rfl (Nat.le_of_ble_eq_true rfl) dX9_factor_107 ⟨Nat.le_of_ble_eq_true rfl, Nat.le_of_ble_eq_true rfl⟩) hL (fun u_13 H locs k_14 hW hL => ?_)
        obtain ⟨iu_13, fu_13⟩ := k_14
        have F_15 := F_8.trans (fu_13.to (p1_sub (lr_V mo_12)))
        have tk_16 := TK.fr tk_10 fu_13 (p1_no (tau_ne (rfl : tau 11 = .inl 9) mo_12.1 (fun h => by cases h))) (p1_no (tau_ne (rfl : tau 17 = .inr (.int, 768)) mo_12.1 (fun h => by cases h)))
        refine lv_iload_n hx hb dX9_factor_110 rfl (lv_at hl 1 rfl) ?_
        by_cases c_17 : r_5 = 2
        · refine lv_lookup (off := 41) (tgt := 152) hx hb dX9_factor_111 (by decide) (by rw [c_17]; decide) (by decide) ?_
          refine lv_aload_n hx hb dX9_factor_152 rfl (lv_at hl 2 rfl) ?_
          refine lv_iload_n hx hb dX9_factor_153 rfl (lv_at hl 3 rfl) ?_
          refine lv_iload_n hx hb dX9_factor_154 rfl (lv_at hl 0 rfl) ?_
          refine sBi (sV (As := [.int (iv dd), .int (iv sy)]) (rest := []) (k := 11) Cx (s_X9_named l G u_13 (dd := dd) (s0 := sy) iu_13 (by omega) (by omega) (SG.fr F_15 rfl rfl rfl hsg) tk_16.1) (c_X9_230 Cx rfl rfl (rmk_ok (by omega) (by decide))) hW (by decide) rfl rfl rfl hl.1 rfl (Nat.le_of_ble_eq_true rfl) dX9_factor_155 ⟨Nat.le_of_ble_eq_true rfl, Nat.le_of_ble_eq_true rfl⟩) hL (fun r_20 u_18 H locs k_19 hW hL => ?_)
          obtain ⟨iu_18, fu_18, xu_18⟩ := k_19
          have F_21 := F_15.trans fu_18
          exact sZret Cx hr hlk hW hL (by omega) ⟨iu_18, F_21, ⟨(by omega), fun q => TK.trans tk_16 (xu_18.2 q)⟩⟩ dX9_factor_158
        by_cases c_22 : r_5 = 11
        · refine lv_lookup (off := 60) (tgt := 171) hx hb dX9_factor_111 (by decide) (by rw [c_22]; decide) (by decide) ?_
          refine lv_aload_n hx hb dX9_factor_171 rfl (lv_at hl 2 rfl) ?_
          refine lv_iload_n hx hb dX9_factor_172 rfl (lv_at hl 3 rfl) ?_
          refine sBi (sV (As := [.int (iv dd)]) (rest := []) (k := 11) Cx (s_X9_summed l G u_13 (D := dm) (d1 := d1) (dd := dd) iu_13 (by omega) (by omega) (by omega) (hE (by omega)) (SG.fr F_15 rfl rfl rfl hsg) tk_16.1) (c_X9_239 Cx rfl rfl (rmk_ok (by omega) (by decide))) hW (by decide) rfl rfl rfl hl.1 rfl (Nat.le_of_ble_eq_true rfl) dX9_factor_173 ⟨Nat.le_of_ble_eq_true rfl, Nat.le_of_ble_eq_true rfl⟩) hL (fun r_25 u_23 H locs k_24 hW hL => ?_)
          obtain ⟨iu_23, fu_23, xu_23⟩ := k_24
          have F_26 := F_15.trans fu_23
          exact sZret Cx hr hlk hW hL (by omega) ⟨iu_23, F_26, ⟨(by omega), fun q => TK.trans tk_16 (xu_23.2 q)⟩⟩ dX9_factor_176
        by_cases c_27 : r_5 = 19
        · refine lv_lookup (off := 54) (tgt := 165) hx hb dX9_factor_111 (by decide) (by rw [c_27]; decide) (by decide) ?_
          refine lv_aload_n hx hb dX9_factor_165 rfl (lv_at hl 2 rfl) ?_
          refine lv_iload_n hx hb dX9_factor_166 rfl (lv_at hl 3 rfl) ?_
          refine sBi (sV (As := [.int (iv dd)]) (rest := []) (k := 11) Cx (s_X9_inner l G u_13 (D := dm) (d1 := d1) (dd := dd) iu_13 (by omega) (by omega) (by omega) (hE (by omega)) (SG.fr F_15 rfl rfl rfl hsg) tk_16.1) (c_X9_236 Cx rfl rfl (rmk_ok (by omega) (by decide))) hW (by decide) rfl rfl rfl hl.1 rfl (Nat.le_of_ble_eq_true rfl) dX9_factor_167 ⟨Nat.le_of_ble_eq_true rfl, Nat.le_of_ble_eq_true rfl⟩) hL (fun r_30 u_28 H locs k_29 hW hL => ?_)
          obtain ⟨iu_28, fu_28, xu_28⟩ := k_29
          have F_31 := F_15.trans fu_28
          exact sZret Cx hr hlk hW hL (by omega) ⟨iu_28, F_31, ⟨(by omega), fun q => TK.trans tk_16 (xu_28.2 q)⟩⟩ dX9_factor_170
        by_cases c_32 : r_5 = 22
        · refine lv_lookup (off := 48) (tgt := 159) hx hb dX9_factor_111 (by decide) (by rw [c_32]; decide) (by decide) ?_
          refine lv_aload_n hx hb dX9_factor_159 rfl (lv_at hl 2 rfl) ?_
          refine lv_iload_n hx hb dX9_factor_160 rfl (lv_at hl 3 rfl) ?_
          refine sBi (sV (As := [.int (iv dd)]) (rest := []) (k := 11) Cx (s_X9_negated l G u_13 (D := dm) (d1 := d2) (dd := dd) iu_13 (by omega) (by omega) (by omega) (hF (by omega)) (SG.fr F_15 rfl rfl rfl hsg) tk_16.1) (c_X9_233 Cx rfl rfl (rmk_ok (by omega) (by decide))) hW (by decide) rfl rfl rfl hl.1 rfl (Nat.le_of_ble_eq_true rfl) dX9_factor_161 ⟨Nat.le_of_ble_eq_true rfl, Nat.le_of_ble_eq_true rfl⟩) hL (fun r_35 u_33 H locs k_34 hW hL => ?_)
          obtain ⟨iu_33, fu_33, xu_33⟩ := k_34
          have F_36 := F_15.trans fu_33
          exact sZret Cx hr hlk hW hL (by omega) ⟨iu_33, F_36, ⟨(by omega), fun q => TK.trans tk_16 (xu_33.2 q)⟩⟩ dX9_factor_164
        refine lv_lookup (off := 66) (tgt := 177) hx hb dX9_factor_111 (by decide) (by rw [iv_toInt ⟨(by omega), (by omega)⟩]; exact lk_out (by simp [List.forall_mem_cons]; omega)) (by decide) ?_
        refine lv_aload_n hx hb dX9_factor_177 rfl (lv_at hl 2 rfl) ?_
        refine g_X9_37 Cx hW (k := 11) (by decide) rfl (v := .ref (G.2.2.1 + 83)) (rf_11_6 iu_13) dX9_factor_178 ?_
        refine lv_iload_n hx hb dX9_factor_181 rfl (lv_at hl 3 rfl) ?_
        obtain ⟨o_37, mo_37, eo_37⟩ := r2_83 iu_13 (i := dd) (by omega) (by omega)
        refine rAald Cx hW (k := 83) (by decide) rfl (by decide) (by omega) (by omega) eo_37 dX9_factor_182 ?_
        refine lv_iconst (v := iv 0) hx hb dX9_factor_183 (by decide) ?_
        refine lv_aload_n hx hb dX9_factor_184 rfl (lv_at hl 2 rfl) ?_
        refine lv_aload_n hx hb dX9_factor_185 rfl (lv_at hl 2 rfl) ?_
        refine g_X9_89 Cx hW (k := 11) (by decide) rfl (v := S.1 11 13) (((fu_13 11 (p1_no (tau_ne (rfl : tau 11 = .inl 9) mo_12.1 (fun h => by cases h)))).1 13).trans (uF_ne (fun h => absurd h.2 (by decide)))) dX9_factor_186 ?_
        refine sBi (sV (As := [.int (iv (S.1 11 13))]) (rest := [.int (iv 0), .ref (G.2.2.1 + o_37)]) (k := 11) Cx (s_X9_number l G u_13 (tk := S.1 11 13) iu_13 (by omega) (SG.fr F_15 rfl rfl rfl hsg)) (c_X9_143 Cx rfl rfl (rmk_ok (by omega) (by decide))) hW (by decide) rfl rfl rfl hl.1 rfl (Nat.le_of_ble_eq_true rfl) dX9_factor_189 ⟨Nat.le_of_ble_eq_true rfl, Nat.le_of_ble_eq_true rfl⟩) hL (fun r_40 u_38 H locs k_39 hW hL => ?_)
        obtain ⟨eu_38, xu_38⟩ := k_39
        rw [eu_38] at hW
        refine r_i2l hx hb ⟨(by omega), (by omega)⟩ dX9_factor_192 ?_
        refine rLast Cx hW hL (k := o_37) (lr_l mo_37) mo_37.1 (by decide) (by omega) (by omega) dX9_factor_193 (fun H locs hW hL => ?_)
        have F_41 : Fr S (uL u_13 o_37 0 r_40) pV := F_15.L (lr_V mo_37)
        have i_42 : cX G (uL u_13 o_37 0 r_40) 0 0 0 := iu_13.L ⟨by omega, by omega⟩
        have tk_43 : TK S (uL u_13 o_37 0 r_40) := tk_16.of rfl (fun _ => rfl)
        refine lv_aload_n hx hb dX9_factor_194 rfl (lv_at hl 2 rfl) ?_
        refine lv_dup hx hb dX9_factor_195 rfl ?_
        refine g_X9_89 Cx hW (k := 11) (by decide) rfl (v := S.1 11 13) ((uL_f).trans (((fu_13 11 (p1_no (tau_ne (rfl : tau 11 = .inl 9) mo_12.1 (fun h => by cases h)))).1 13).trans (uF_ne (fun h => absurd h.2 (by decide))))) dX9_factor_196 ?_
        refine lv_iconst (v := iv 1) hx hb dX9_factor_199 (by decide) ?_
        refine r_iadd hx hb dX9_factor_200 ?_
        obtain ⟨z_44, ez_44, hz_44, kz_44⟩ := iv_of (iv ((S.1 11 13) + 1))
        rw [ez_44]
        refine p_X9_89 Cx hW hL (k := 11) (by decide) rfl dX9_factor_201 (fun H locs hW hL => ?_)
        have F_45 : Fr S (uF (uL u_13 o_37 0 r_40) 11 13 z_44) pV := F_41.F rfl
        have i_46 : cX G (uF (uL u_13 o_37 0 r_40) 11 13 z_44) 0 0 0 := i_42.F rfl rfl (show (-2147483648) ≤ z_44 ∧ z_44 ≤ 2147483647 from ⟨by omega, by omega⟩)
        have tk_47 : TK S (uF (uL u_13 o_37 0 r_40) 11 13 z_44) := tk_43.F (by decide)
        refine lv_iconst (v := iv 1) hx hb dX9_factor_204 (by decide) ?_
        exact sZret Cx hr hlk hW hL (by omega) ⟨i_46, F_45, ⟨(by omega), fun _ => tk_47⟩⟩ dX9_factor_205
      · refine lv_aload_n hx hb dX9_factor_89 rfl (lv_at hl 2 rfl) ?_
        refine lv_bipush (v := iv 7) hx hb dX9_factor_90 (by decide) ?_
        refine lv_aload_n hx hb dX9_factor_92 rfl (lv_at hl 2 rfl) ?_
        refine g_X9_89 Cx hW (k := 11) (by decide) rfl (v := S.1 11 13) (uF_ne (fun h => absurd h.2 (by decide))) dX9_factor_93 ?_
        have q_48 : 0 ≤ S.1 11 9 ∧ S.1 11 9 ≤ 128 := hI.fi 11 9 9 (by decide) rfl
        have lk_49 : (uF S 11 12 z_7).1 11 9 = S.1 11 9 := uF_ne (fun h => absurd h.2 (by decide))
        refine sBi (sV (As := [.int (iv 7), .int (iv (S.1 11 13))]) (rest := []) (k := 11) Cx (s_X9_fail l G (uF S 11 12 z_7) (k := 7) (tk := S.1 11 13) i_9 (by omega) (by omega)) (c_X9_132 Cx rfl rfl (rmk_ok (by omega) (by decide))) hW (by decide) rfl rfl rfl hl.1 rfl (Nat.le_of_ble_eq_true rfl) dX9_factor_96 ⟨Nat.le_of_ble_eq_true rfl, Nat.le_of_ble_eq_true rfl⟩) hL (fun r_52 u_50 H locs k_51 hW hL => ?_)
        obtain ⟨iu_50, fu_50, xu_50⟩ := k_51
        have F_53 := F_8.trans (fu_50.to (fun k h => pU_V k ((fun k h => pT_U k (p11_T k h)) k h)))
        have tk_54 := TK.of tk_10 (u := u_50) (by omega) (fun j => (fu_50 17 rfl).2.1 j)
        exact sZret Cx hr hlk hW hL (by omega) ⟨iu_50, F_53, ⟨(by omega), fun q => absurd q (by omega)⟩⟩ dX9_factor_99
    refine lv_iload_n hx hb dX9_factor_30 rfl (lv_at hl 1 rfl) ?_
    refine lv_iconst (v := iv 2) hx hb dX9_factor_31 (by decide) ?_
    refine r_icmp_ne (tgt := 69) hx hb ⟨(by omega), (by omega)⟩ ⟨(by omega), (by omega)⟩ dX9_factor_32 (by decide) (fun c_55 => ?_) (fun c_55 => ?_)
    · exact join_69 ((-1)) _ _ _ (by omega) (by omega) hW hL (lv_sub hl [0, 1, 2, 3] rfl)
    · refine lv_aload_n hx hb dX9_factor_35 rfl (lv_at hl 2 rfl) ?_
      refine lv_aload_n hx hb dX9_factor_36 rfl (lv_at hl 2 rfl) ?_
      refine g_X9_14 Cx hW (k := 11) (by decide) rfl (v := .ref (G.2.2.1 + 12)) (rf_11_0 hI) dX9_factor_37 ?_
      refine lv_aload_n hx hb dX9_factor_40 rfl (lv_at hl 2 rfl) ?_
      refine g_X9_89 Cx hW (k := 11) (by decide) rfl (v := S.1 11 13) rfl dX9_factor_41 ?_
      refine sBl (sV (As := [.int (iv (S.1 11 13))]) (rest := [.ref (G.2.2.1 + 11)]) (k := 12) Cx (s_X8_value l G S (k := S.1 11 13) hI (by omega)) (c_X9_124 Cx rfl rfl (rmk_ok (by omega) (by decide))) hW (by decide) rfl rfl rfl hl.1 rfl (Nat.le_of_ble_eq_true rfl) dX9_factor_44 ⟨Nat.le_of_ble_eq_true rfl, Nat.le_of_ble_eq_true rfl⟩) hL (fun r_58 u_56 H locs k_57 hW hL => ?_)
      obtain ⟨eu_56, xu_56⟩ := k_57
      rw [eu_56] at hW
      have q_59 : 0 ≤ S.1 11 9 ∧ S.1 11 9 ≤ 128 := hI.fi 11 9 9 (by decide) rfl
      refine sBi (sV (As := [.long (jv r_58)]) (rest := []) (k := 11) Cx (s_X9_find l G S (nm := r_58) hI (by omega)) (c_X9_128 Cx rfl rfl (rmk_ok (by omega) (by decide))) hW (by decide) rfl rfl rfl hl.1 rfl (Nat.le_of_ble_eq_true rfl) dX9_factor_47 ⟨Nat.le_of_ble_eq_true rfl, Nat.le_of_ble_eq_true rfl⟩) hL (fun r_62 u_60 H locs k_61 hW hL => ?_)
      obtain ⟨eu_60, xu_60⟩ := k_61
      rw [eu_60] at hW
      refine lv_istore_n (lv' := [(3, .int (iv r_62)), (2, .int (iv r_5)), (0, .ref (G.2.2.1 + 11)), (1, .int (iv dd))]) hx hb dX9_factor_50 rfl hl (by decide) rfl (fun ls hl => ?_)
      refine lv_aload_n hx hb dX9_factor_51 rfl (lv_at hl 2 rfl) ?_
      refine lv_iload_n hx hb dX9_factor_52 rfl (lv_at hl 0 rfl) ?_
      refine sBi (sV (As := [.int (iv r_62)]) (rest := []) (k := 11) Cx (s_X9_canBeFactor l G S (s0 := r_62) hI (by omega)) (c_X9_221 Cx rfl rfl (rmk_ok (by omega) (by decide))) hW (by decide) rfl rfl rfl hl.1 rfl (Nat.le_of_ble_eq_true rfl) dX9_factor_53 ⟨Nat.le_of_ble_eq_true rfl, Nat.le_of_ble_eq_true rfl⟩) hL (fun r_65 u_63 H locs k_64 hW hL => ?_)
      obtain ⟨eu_63, xu_63⟩ := k_64
      rw [eu_63] at hW
      refine r_if_ne (tgt := 69) hx hb ⟨(by omega), (by omega)⟩ dX9_factor_56 (by decide) (fun c_66 => ?_) (fun c_66 => ?_)
      · exact join_69 r_62 _ _ _ (by omega) (by omega) hW hL (lv_sub hl [0, 1, 2, 3] rfl)
      · refine lv_aload_n hx hb dX9_factor_59 rfl (lv_at hl 2 rfl) ?_
        refine lv_iconst (v := iv 2) hx hb dX9_factor_60 (by decide) ?_
        refine lv_aload_n hx hb dX9_factor_61 rfl (lv_at hl 2 rfl) ?_
        refine g_X9_89 Cx hW (k := 11) (by decide) rfl (v := S.1 11 13) rfl dX9_factor_62 ?_
        refine sBi (sV (As := [.int (iv 2), .int (iv (S.1 11 13))]) (rest := []) (k := 11) Cx (s_X9_fail l G S (k := 2) (tk := S.1 11 13) hI (by omega) (by omega)) (c_X9_132 Cx rfl rfl (rmk_ok (by omega) (by decide))) hW (by decide) rfl rfl rfl hl.1 rfl (Nat.le_of_ble_eq_true rfl) dX9_factor_65 ⟨Nat.le_of_ble_eq_true rfl, Nat.le_of_ble_eq_true rfl⟩) hL (fun r_69 u_67 H locs k_68 hW hL => ?_)
        obtain ⟨iu_67, fu_67, xu_67⟩ := k_68
        have F_70 := (Fr.rf : Fr S S pV).trans (fu_67.to (fun k h => pU_V k ((fun k h => pT_U k (p11_T k h)) k h)))
        have tk_71 := TK.of tk_0 (u := u_67) (by omega) (fun j => (fu_67 17 rfl).2.1 j)
        exact sZret Cx hr hlk hW hL (by omega) ⟨iu_67, F_70, ⟨(by omega), fun q => absurd q (by omega)⟩⟩ dX9_factor_68
  · refine lv_aload_n hx hb dX9_factor_6 rfl (lv_at hl 0 rfl) ?_
    refine lv_iconst (v := iv 1) hx hb dX9_factor_7 (by decide) ?_
    refine lv_aload_n hx hb dX9_factor_8 rfl (lv_at hl 0 rfl) ?_
    have q_72 : (-2147483648) ≤ S.1 11 13 ∧ S.1 11 13 ≤ 2147483647 := hI.fi 11 13 9 (by decide) rfl
    refine g_X9_89 Cx hW (k := 11) (by decide) rfl (v := S.1 11 13) rfl dX9_factor_9 ?_
    have q_73 : 0 ≤ S.1 11 9 ∧ S.1 11 9 ≤ 128 := hI.fi 11 9 9 (by decide) rfl
    refine sBi (sV (As := [.int (iv 1), .int (iv (S.1 11 13))]) (rest := []) (k := 11) Cx (s_X9_fail l G S (k := 1) (tk := S.1 11 13) hI (by omega) (by omega)) (c_X9_132 Cx rfl rfl (rmk_ok (by omega) (by decide))) hW (by decide) rfl rfl rfl hl.1 rfl (Nat.le_of_ble_eq_true rfl) dX9_factor_12 ⟨Nat.le_of_ble_eq_true rfl, Nat.le_of_ble_eq_true rfl⟩) hL (fun r_76 u_74 H locs k_75 hW hL => ?_)
    obtain ⟨iu_74, fu_74, xu_74⟩ := k_75
    have F_77 := (Fr.rf : Fr S S pV).trans (fu_74.to (fun k h => pU_V k ((fun k h => pT_U k (p11_T k h)) k h)))
    have tk_78 := TK.of tk_0 (u := u_74) (by omega) (fun j => (fu_74 17 rfl).2.1 j)
    exact sZret Cx hr hlk hW hL (by omega) ⟨iu_74, F_77, ⟨(by omega), fun q => absurd q (by omega)⟩⟩ dX9_factor_15

set_option maxRecDepth 100000 in
set_option maxHeartbeats 4000000 in
theorem s_X9_term (l : Launch) (G : sG) (S : sS) {D d1 : Nat} {dd : Int} (hI : cX G S 0 0 0) (hdd : 0 ≤ dd ∧ dd ≤ 30) (h1 : d1 < D) (h4 : 8 ≤ D) (hF : FaC l G d1 dd) (hsg : SG S) (hTS : TS S) : Met l yX9_term (.code yX9_term cX9_term 5 (some .boolean) :: tb) (rmk D 0 0) (sPc G 294 S [.ref (G.2.2.1 + 11), .int (iv dd)]) (sQi G 294 (fun r u => cX G u 0 0 0 ∧ Fr S u pV ∧ ((0 ≤ r ∧ r ≤ 1) ∧ Hd (r = 1 → TK S u)))) 0 0 (sF G) := by
  refine sEnter (by decide) (Nat.le_of_ble_eq_true rfl) ?_
  intro p e s m args below meth c Cx hr hlk hnm hW ls hl
  have Cx : sC G p m c cX9_term 5 s args RX9 := Cx
  obtain ⟨hx, hb, hml, hown, hts⟩ := id Cx.1
  have hL : sL G [] := sL_nil
  have hl : lv_has ls 5 [(0, .ref (G.2.2.1 + 11)), (1, .int (iv dd))] := hl
  have hW0 := hW
  have tk_0 : TK S S := TK.rf hTS
  have hkn : 0 ≤ S.1 11 9 ∧ S.1 11 9 ≤ 128 := hI.fi 11 9 9 (by decide) rfl
  refine lv_aload_n hx hb dX9_term_0 rfl (lv_at hl 0 rfl) ?_
  refine lv_iload_n hx hb dX9_term_1 rfl (lv_at hl 1 rfl) ?_
  refine sBi (sV (As := [.int (iv dd)]) (rest := []) (k := 11) Cx (hF S hI hsg tk_0.1) (c_X9_211 Cx rfl rfl (rmk_ok (by omega) (by decide))) hW (by decide) rfl rfl rfl hl.1 rfl (Nat.le_of_ble_eq_true rfl) dX9_term_2 ⟨Nat.le_of_ble_eq_true rfl, Nat.le_of_ble_eq_true rfl⟩) hL (fun r_3 u_1 H locs k_2 hW hL => ?_)
  obtain ⟨iu_1, fu_1, xu_1⟩ := k_2
  have F_4 := (Fr.rf : Fr S S pV).trans fu_1
  refine r_if_ne (tgt := 10) hx hb ⟨(by omega), (by omega)⟩ dX9_term_5 (by decide) (fun c_5 => ?_) (fun c_5 => ?_)
  · refine lv_aload_n hx hb dX9_term_10 rfl (lv_at hl 0 rfl) ?_
    refine g_X9_34 Cx hW (k := 11) (by decide) rfl (v := .ref (G.2.2.1 + 51)) (rf_11_5 iu_1) dX9_term_11 ?_
    refine lv_iload_n hx hb dX9_term_14 rfl (lv_at hl 1 rfl) ?_
    obtain ⟨o_6, mo_6, eo_6⟩ := r2_51 iu_1 (i := dd) (by omega) (by omega)
    refine rAald Cx hW (k := 51) (by decide) rfl (by decide) (by omega) (by omega) eo_6 dX9_term_15 ?_
    refine lv_astore_n (lv' := [(2, .ref (G.2.2.1 + o_6)), (0, .ref (G.2.2.1 + 11)), (1, .int (iv dd))]) hx hb dX9_term_16 rfl hl (by decide) rfl (fun ls hl => ?_)
    refine lv_aload_n hx hb dX9_term_17 rfl (lv_at hl 1 rfl) ?_
    refine g_X9_37 Cx hW (k := 11) (by decide) rfl (v := .ref (G.2.2.1 + 83)) (rf_11_6 iu_1) dX9_term_18 ?_
    refine lv_iload_n hx hb dX9_term_21 rfl (lv_at hl 2 rfl) ?_
    obtain ⟨o_7, mo_7, eo_7⟩ := r2_83 iu_1 (i := dd) (by omega) (by omega)
    refine rAald Cx hW (k := 83) (by decide) rfl (by decide) (by omega) (by omega) eo_7 dX9_term_22 ?_
    refine lv_iconst (v := iv 0) hx hb dX9_term_23 (by decide) ?_
    refine lv_aload_n hx hb dX9_term_24 rfl (lv_at hl 0 rfl) ?_
    refine lv_iconst (v := iv 0) hx hb dX9_term_25 (by decide) ?_
    refine lv_bipush (v := iv 13) hx hb dX9_term_26 (by decide) ?_
    refine rCopyL Cx hW hL (hml.trans hl.1.symm) w_1087 w_1089 w_1088 w_224 (k0 := o_7) (k1 := o_6) (lr_l mo_7) mo_7.1 (lr_l mo_6) mo_6.1 (by decide) (by decide) (by omega) (by omega) (by omega) (by omega) (by omega) (rmk_f (by omega)) (rmk_l (by omega) (by decide)) dX9_term_28 (fun H locs hW hL => ?_)
    have tk_8 := TK.trans tk_0 (xu_1.2 (by omega))
    have F_9 : Fr S (uD u_1 o_7 0 o_6 0 13) pV := F_4.D (lr_V mo_6)
    have i_10 : cX G (uD u_1 o_7 0 o_6 0 13) 0 0 0 := iu_1.D (lr_k mo_7)
    have tk_11 : TK S (uD u_1 o_7 0 o_6 0 13) := tk_8.of rfl (fun _ => rfl)
    refine lv_iconst (v := iv 0) hx hb dX9_term_31 (by decide) ?_
    refine lv_istore_n (lv' := [(3, .int (iv 0)), (2, .ref (G.2.2.1 + o_6)), (0, .ref (G.2.2.1 + 11)), (1, .int (iv dd))]) hx hb dX9_term_32 rfl hl (by decide) rfl (fun ls hl => ?_)
    have loop_33 : ∀ (fuel : Nat) (S33 : sS) (i : Int) (H : Heap) (locs : List Loc) (ls : Array Slot), (2001 - i).toNat < fuel → (cX G S33 0 0 0) → (Fr S S33 pV) → (Fr ((uD u_1 o_7 0 o_6 0 13)) S33 pV) → (0 ≤ i ∧ i ≤ 2001) → (TK S S33) → sW G 294 S33 H → sL G locs → lv_has ls 5 [(3, .int (iv i)), (2, .ref (G.2.2.1 + o_6)), (0, .ref (G.2.2.1 + 11)), (1, .int (iv dd))] → W p l e (rmk D 0 0) s m args below meth c H locs 0 0 (MQ below (sQi G 294 (fun r u => cX G u 0 0 0 ∧ Fr S u pV ∧ ((0 ≤ r ∧ r ≤ 1) ∧ Hd (r = 1 → TK S u)))) args s 0 0 (sF G)) (F0 m 33 ls []) := by
      intro fuel
      induction fuel with
      | zero => intro S33 i H locs ls hmeas hI33 hFm33 hL33_ hi hTK33 hW hL hl; exact absurd hmeas (Nat.not_lt_zero _)
      | succ fuel ih_33 =>
        intro S33 i H locs ls hmeas hI33 hFm33 hL33_ hi hTK33 hW hL hl
        refine lv_iload_n hx hb dX9_term_33 rfl (lv_at hl 0 rfl) ?_
        refine lv_aload_n hx hb dX9_term_34 rfl (lv_at hl 2 rfl) ?_
        refine g_X9_14 Cx hW (k := 11) (by decide) rfl (v := .ref (G.2.2.1 + 12)) (rf_11_0 hI33) dX9_term_35 ?_
        have q_12 : 0 ≤ S.1 12 3 ∧ S.1 12 3 ≤ 2001 := hI.fi 12 3 8 (by decide) rfl
        have lk_13 : S33.1 12 3 = S.1 12 3 := ((hL33_ 12 rfl).1 3).trans ((uD_f).trans ((fu_1 12 rfl).1 3))
        refine sBi (sV (As := []) (rest := [.int (iv i)]) (k := 12) Cx (s_X8_tokenCount l G S33  hI33) (c_X9_92 Cx rfl rfl (rmk_ok (by omega) (by decide))) hW (by decide) rfl rfl rfl hl.1 rfl (Nat.le_of_ble_eq_true rfl) dX9_term_38 ⟨Nat.le_of_ble_eq_true rfl, Nat.le_of_ble_eq_true rfl⟩) hL (fun r_16 u_14 H locs k_15 hW hL => ?_)
        obtain ⟨eu_14, xu_14⟩ := k_15
        rw [eu_14] at hW
        refine r_icmp_ge (tgt := 145) hx hb ⟨(by omega), (by omega)⟩ ⟨(by omega), (by omega)⟩ dX9_term_41 (by decide) (fun c_17 => ?_) (fun c_17 => ?_)
        · refine lv_iconst (v := iv 1) hx hb dX9_term_145 (by decide) ?_
          exact sZret Cx hr hlk hW hL (by omega) ⟨hI33, hFm33, ⟨(by omega), fun _ => hTK33⟩⟩ dX9_term_146
        · refine lv_aload_n hx hb dX9_term_44 rfl (lv_at hl 2 rfl) ?_
          refine g_X9_14 Cx hW (k := 11) (by decide) rfl (v := .ref (G.2.2.1 + 12)) (rf_11_0 hI33) dX9_term_45 ?_
          refine lv_aload_n hx hb dX9_term_48 rfl (lv_at hl 2 rfl) ?_
          have q_18 : (-2147483648) ≤ S33.1 11 13 ∧ S33.1 11 13 ≤ 2147483647 := hI33.fi 11 13 9 (by decide) rfl
          refine g_X9_89 Cx hW (k := 11) (by decide) rfl (v := S33.1 11 13) rfl dX9_term_49 ?_
          refine sBi (sV (As := [.int (iv (S33.1 11 13))]) (rest := []) (k := 12) Cx (s_X8_kind l G S33 (k := S33.1 11 13) hI33 (by omega)) (c_X9_95 Cx rfl rfl (rmk_ok (by omega) (by decide))) hW (by decide) rfl rfl rfl hl.1 rfl (Nat.le_of_ble_eq_true rfl) dX9_term_52 ⟨Nat.le_of_ble_eq_true rfl, Nat.le_of_ble_eq_true rfl⟩) hL (fun r_21 u_19 H locs k_20 hW hL => ?_)
          obtain ⟨eu_19, xu_19⟩ := k_20
          rw [eu_19] at hW
          refine lv_bipush (v := iv 23) hx hb dX9_term_55 (by decide) ?_
          refine r_icmp_ne (tgt := 145) hx hb ⟨(by omega), (by omega)⟩ ⟨(by omega), (by omega)⟩ dX9_term_57 (by decide) (fun c_22 => ?_) (fun c_22 => ?_)
          · refine lv_iconst (v := iv 1) hx hb dX9_term_145 (by decide) ?_
            exact sZret Cx hr hlk hW hL (by omega) ⟨hI33, hFm33, ⟨(by omega), fun _ => hTK33⟩⟩ dX9_term_146
          · refine lv_aload_n hx hb dX9_term_60 rfl (lv_at hl 2 rfl) ?_
            refine g_X9_89 Cx hW (k := 11) (by decide) rfl (v := S33.1 11 13) rfl dX9_term_61 ?_
            refine lv_istore (lv' := [(4, .int (iv (S33.1 11 13))), (3, .int (iv i)), (2, .ref (G.2.2.1 + o_6)), (0, .ref (G.2.2.1 + 11)), (1, .int (iv dd))]) hx hb dX9_term_64 hl (by decide) rfl (fun ls hl => ?_)
            refine lv_aload_n hx hb dX9_term_66 rfl (lv_at hl 3 rfl) ?_
            refine lv_dup hx hb dX9_term_67 rfl ?_
            refine g_X9_89 Cx hW (k := 11) (by decide) rfl (v := S33.1 11 13) rfl dX9_term_68 ?_
            refine lv_iconst (v := iv 1) hx hb dX9_term_71 (by decide) ?_
            refine r_iadd hx hb dX9_term_72 ?_
            obtain ⟨z_23, ez_23, hz_23, kz_23⟩ := iv_of (iv ((S33.1 11 13) + 1))
            rw [ez_23]
            refine p_X9_89 Cx hW hL (k := 11) (by decide) rfl dX9_term_73 (fun H locs hW hL => ?_)
            have F_24 : Fr S (uF S33 11 13 z_23) pV := hFm33.F rfl
            have F_25 : Fr ((uD u_1 o_7 0 o_6 0 13)) (uF S33 11 13 z_23) pV := hL33_.F rfl
            have i_26 : cX G (uF S33 11 13 z_23) 0 0 0 := hI33.F rfl rfl (show (-2147483648) ≤ z_23 ∧ z_23 ≤ 2147483647 from ⟨by omega, by omega⟩)
            have tk_27 : TK S (uF S33 11 13 z_23) := hTK33.F (by decide)
            refine lv_aload_n hx hb dX9_term_76 rfl (lv_at hl 3 rfl) ?_
            refine lv_iload_n hx hb dX9_term_77 rfl (lv_at hl 4 rfl) ?_
            refine sBi (sV (As := [.int (iv dd)]) (rest := []) (k := 11) Cx (hF (uF S33 11 13 z_23) i_26 (SG.fr F_24 rfl rfl rfl hsg) tk_27.1) (c_X9_211 Cx rfl rfl (rmk_ok (by omega) (by decide))) hW (by decide) rfl rfl rfl hl.1 rfl (Nat.le_of_ble_eq_true rfl) dX9_term_78 ⟨Nat.le_of_ble_eq_true rfl, Nat.le_of_ble_eq_true rfl⟩) hL (fun r_30 u_28 H locs k_29 hW hL => ?_)
            obtain ⟨iu_28, fu_28, xu_28⟩ := k_29
            have F_31 := F_24.trans fu_28
            have F_32 := F_25.trans fu_28
            refine r_if_ne (tgt := 86) hx hb ⟨(by omega), (by omega)⟩ dX9_term_81 (by decide) (fun c_33 => ?_) (fun c_33 => ?_)
            · have join_113 : ∀  (H : Heap) (locs : List Loc) (ls : Array Slot), sW G 294 u_28 H → sL G locs → lv_has ls 5 [(4, .int (iv (S33.1 11 13))), (3, .int (iv i)), (2, .ref (G.2.2.1 + o_6)), (0, .ref (G.2.2.1 + 11)), (1, .int (iv dd))] → W p l e (rmk D 0 0) s m args below meth c H locs 0 0 (MQ below (sQi G 294 (fun r u => cX G u 0 0 0 ∧ Fr S u pV ∧ ((0 ≤ r ∧ r ≤ 1) ∧ Hd (r = 1 → TK S u)))) args s 0 0 (sF G)) (F0 m 113 ls []) := by
                intro  H locs ls  hW hL hl
                refine lv_aload_n hx hb dX9_term_113 rfl (lv_at hl 2 rfl) ?_
                refine lv_aload_n hx hb dX9_term_114 rfl (lv_at hl 3 rfl) ?_
                refine g_X9_37 Cx hW (k := 11) (by decide) rfl (v := .ref (G.2.2.1 + 83)) (rf_11_6 iu_28) dX9_term_115 ?_
                refine lv_iload_n hx hb dX9_term_118 rfl (lv_at hl 4 rfl) ?_
                obtain ⟨o_34, mo_34, eo_34⟩ := r2_83 iu_28 (i := dd) (by omega) (by omega)
                refine rAald Cx hW (k := 83) (by decide) rfl (by decide) (by omega) (by omega) eo_34 dX9_term_119 ?_
                have tk_35 := TK.trans tk_27 (xu_28.2 (by omega))
                refine sBv (sSt (As := [.ref (G.2.2.1 + o_6), .ref (G.2.2.1 + o_34)]) (rest := []) Cx (s_X9_multiply l G u_28 (qa := o_6) (qb := o_34) iu_28 mo_6 mo_34) (c_X9_217 Cx rfl rfl (rmk_ok (by omega) (by decide))) hW rfl hl.1 rfl (Nat.le_of_ble_eq_true rfl) dX9_term_120 ⟨Nat.le_of_ble_eq_true rfl, Nat.le_of_ble_eq_true rfl⟩) hL (fun u_36 H locs k_37 hW hL => ?_)
                obtain ⟨iu_36, fu_36⟩ := k_37
                have F_38 := F_31.trans (fu_36.to (p1_sub (lr_V mo_6)))
                have F_39 := F_32.trans (fu_36.to (p1_sub (lr_V mo_6)))
                have tk_40 := TK.fr tk_35 fu_36 (p1_no (tau_ne (rfl : tau 11 = .inl 9) mo_6.1 (fun h => by cases h))) (p1_no (tau_ne (rfl : tau 17 = .inr (.int, 768)) mo_6.1 (fun h => by cases h)))
                refine lv_aload_n hx hb dX9_term_123 rfl (lv_at hl 2 rfl) ?_
                refine sBi (sSt (As := [.ref (G.2.2.1 + o_6)]) (rest := []) Cx (s_X9_isGreat l G u_36 (qa := o_6) iu_36 mo_6) (c_X9_189 Cx rfl rfl (rmk_ok (by omega) (by decide))) hW rfl hl.1 rfl (Nat.le_of_ble_eq_true rfl) dX9_term_124 ⟨Nat.le_of_ble_eq_true rfl, Nat.le_of_ble_eq_true rfl⟩) hL (fun r_43 u_41 H locs k_42 hW hL => ?_)
                obtain ⟨eu_41, xu_41⟩ := k_42
                rw [eu_41] at hW
                refine r_if_eq (tgt := 139) hx hb ⟨(by omega), (by omega)⟩ dX9_term_127 (by decide) (fun c_44 => ?_) (fun c_44 => ?_)
                · refine lv_iinc (v := iv (i + 1)) (lv' := [(3, .int (iv (i + 1))), (4, .int (iv (S33.1 11 13))), (2, .ref (G.2.2.1 + o_6)), (0, .ref (G.2.2.1 + 11)), (1, .int (iv dd))]) hx hb dX9_term_139 hl (k := 1) rfl ((Int32.ofInt_add _ _).symm) (by decide) rfl (fun ls hl => ?_)
                  refine lv_goto (tgt := 33) hx hb dX9_term_142 (by decide) ?_
                  exact ih_33 u_36 (i + 1) _ _ _ (by omega) iu_36 F_38 F_39 (by omega) tk_40 hW hL (lv_sub hl [0, 2, 3, 4] rfl)
                · refine lv_aload_n hx hb dX9_term_130 rfl (lv_at hl 3 rfl) ?_
                  refine lv_bipush (v := iv 6) hx hb dX9_term_131 (by decide) ?_
                  refine lv_iload hx hb dX9_term_133 (lv_at hl 0 rfl) ?_
                  have q_45 : 0 ≤ u_28.1 11 9 ∧ u_28.1 11 9 ≤ 128 := iu_28.fi 11 9 9 (by decide) rfl
                  have lk_46 : u_36.1 11 9 = u_28.1 11 9 := (fu_36 11 (p1_no (tau_ne (rfl : tau 11 = .inl 9) mo_6.1 (fun h => by cases h)))).1 9
                  refine sBi (sV (As := [.int (iv 6), .int (iv (S33.1 11 13))]) (rest := []) (k := 11) Cx (s_X9_fail l G u_36 (k := 6) (tk := S33.1 11 13) iu_36 (by omega) (by omega)) (c_X9_132 Cx rfl rfl (rmk_ok (by omega) (by decide))) hW (by decide) rfl rfl rfl hl.1 rfl (Nat.le_of_ble_eq_true rfl) dX9_term_135 ⟨Nat.le_of_ble_eq_true rfl, Nat.le_of_ble_eq_true rfl⟩) hL (fun r_49 u_47 H locs k_48 hW hL => ?_)
                  obtain ⟨iu_47, fu_47, xu_47⟩ := k_48
                  have F_50 := F_38.trans (fu_47.to (fun k h => pU_V k ((fun k h => pT_U k (p11_T k h)) k h)))
                  have F_51 := F_39.trans (fu_47.to (fun k h => pU_V k ((fun k h => pT_U k (p11_T k h)) k h)))
                  have tk_52 := TK.of tk_40 (u := u_47) (by omega) (fun j => (fu_47 17 rfl).2.1 j)
                  exact sZret Cx hr hlk hW hL (by omega) ⟨iu_47, F_50, ⟨(by omega), fun q => absurd q (by omega)⟩⟩ dX9_term_138
              refine lv_aload_n hx hb dX9_term_86 rfl (lv_at hl 2 rfl) ?_
              have tk_53 := TK.trans tk_27 (xu_28.2 (by omega))
              refine sBi (sSt (As := [.ref (G.2.2.1 + o_6)]) (rest := []) Cx (s_X9_hasCoefficient l G u_28 (qa := o_6) iu_28 mo_6) (c_X9_214 Cx rfl rfl (rmk_ok (by omega) (by decide))) hW rfl hl.1 rfl (Nat.le_of_ble_eq_true rfl) dX9_term_87 ⟨Nat.le_of_ble_eq_true rfl, Nat.le_of_ble_eq_true rfl⟩) hL (fun r_56 u_54 H locs k_55 hW hL => ?_)
              obtain ⟨eu_54, xu_54⟩ := k_55
              rw [eu_54] at hW
              refine r_if_eq (tgt := 113) hx hb ⟨(by omega), (by omega)⟩ dX9_term_90 (by decide) (fun c_57 => ?_) (fun c_57 => ?_)
              · exact join_113  _ _ _  hW hL (lv_sub hl [0, 1, 2, 3, 4] rfl)
              · refine lv_aload_n hx hb dX9_term_93 rfl (lv_at hl 3 rfl) ?_
                refine g_X9_37 Cx hW (k := 11) (by decide) rfl (v := .ref (G.2.2.1 + 83)) (rf_11_6 iu_28) dX9_term_94 ?_
                refine lv_iload_n hx hb dX9_term_97 rfl (lv_at hl 4 rfl) ?_
                obtain ⟨o_58, mo_58, eo_58⟩ := r2_83 iu_28 (i := dd) (by omega) (by omega)
                refine rAald Cx hW (k := 83) (by decide) rfl (by decide) (by omega) (by omega) eo_58 dX9_term_98 ?_
                refine sBi (sSt (As := [.ref (G.2.2.1 + o_58)]) (rest := []) Cx (s_X9_hasCoefficient l G u_28 (qa := o_58) iu_28 mo_58) (c_X9_214 Cx rfl rfl (rmk_ok (by omega) (by decide))) hW rfl hl.1 rfl (Nat.le_of_ble_eq_true rfl) dX9_term_99 ⟨Nat.le_of_ble_eq_true rfl, Nat.le_of_ble_eq_true rfl⟩) hL (fun r_61 u_59 H locs k_60 hW hL => ?_)
                obtain ⟨eu_59, xu_59⟩ := k_60
                rw [eu_59] at hW
                refine r_if_eq (tgt := 113) hx hb ⟨(by omega), (by omega)⟩ dX9_term_102 (by decide) (fun c_62 => ?_) (fun c_62 => ?_)
                · exact join_113  _ _ _  hW hL (lv_sub hl [0, 1, 2, 3, 4] rfl)
                · refine lv_aload_n hx hb dX9_term_105 rfl (lv_at hl 3 rfl) ?_
                  refine lv_iconst (v := iv 4) hx hb dX9_term_106 (by decide) ?_
                  refine lv_iload hx hb dX9_term_107 (lv_at hl 0 rfl) ?_
                  have q_63 : 0 ≤ u_28.1 11 9 ∧ u_28.1 11 9 ≤ 128 := iu_28.fi 11 9 9 (by decide) rfl
                  refine sBi (sV (As := [.int (iv 4), .int (iv (S33.1 11 13))]) (rest := []) (k := 11) Cx (s_X9_fail l G u_28 (k := 4) (tk := S33.1 11 13) iu_28 (by omega) (by omega)) (c_X9_132 Cx rfl rfl (rmk_ok (by omega) (by decide))) hW (by decide) rfl rfl rfl hl.1 rfl (Nat.le_of_ble_eq_true rfl) dX9_term_109 ⟨Nat.le_of_ble_eq_true rfl, Nat.le_of_ble_eq_true rfl⟩) hL (fun r_66 u_64 H locs k_65 hW hL => ?_)
                  obtain ⟨iu_64, fu_64, xu_64⟩ := k_65
                  have F_67 := F_31.trans (fu_64.to (fun k h => pU_V k ((fun k h => pT_U k (p11_T k h)) k h)))
                  have F_68 := F_32.trans (fu_64.to (fun k h => pU_V k ((fun k h => pT_U k (p11_T k h)) k h)))
                  have tk_69 := TK.of tk_53 (u := u_64) (by omega) (fun j => (fu_64 17 rfl).2.1 j)
                  exact sZret Cx hr hlk hW hL (by omega) ⟨iu_64, F_67, ⟨(by omega), fun q => absurd q (by omega)⟩⟩ dX9_term_112
            · refine lv_iconst (v := iv 0) hx hb dX9_term_84 (by decide) ?_
              exact sZret Cx hr hlk hW hL (by omega) ⟨iu_28, F_31, ⟨(by omega), fun q => absurd q (by omega)⟩⟩ dX9_term_85
    exact loop_33 (_ + 1) (uD u_1 o_7 0 o_6 0 13) 0 _ _ _ (Nat.lt_succ_self _) i_10 F_9 Fr.rf (by omega) tk_11 hW hL (lv_sub hl [0, 1, 2, 3] rfl)
  · refine lv_iconst (v := iv 0) hx hb dX9_term_8 (by decide) ?_
    exact sZret Cx hr hlk hW hL (by omega) ⟨iu_1, F_4, ⟨(by omega), fun q => absurd q (by omega)⟩⟩ dX9_term_9

set_option maxRecDepth 100000 in
set_option maxHeartbeats 4000000 in
theorem s_X9_expression (l : Launch) (G : sG) (S : sS) {D d1 : Nat} {dd : Int} (hI : cX G S 0 0 0) (hdd : 0 ≤ dd ∧ dd ≤ 30) (h1 : d1 < D) (h4 : 8 ≤ D) (hT : TeC l G d1 dd) (hsg : SG S) (hTS : TS S) : Met l yX9_expression (.code yX9_expression cX9_expression 6 (some .boolean) :: tb) (rmk D 0 0) (sPc G 294 S [.ref (G.2.2.1 + 11), .int (iv dd)]) (sQi G 294 (fun r u => cX G u 0 0 0 ∧ Fr S u pV ∧ ((0 ≤ r ∧ r ≤ 1) ∧ Hd (r = 1 → TK S u)))) 0 0 (sF G) := by
  refine sEnter (by decide) (Nat.le_of_ble_eq_true rfl) ?_
  intro p e s m args below meth c Cx hr hlk hnm hW ls hl
  have Cx : sC G p m c cX9_expression 6 s args RX9 := Cx
  obtain ⟨hx, hb, hml, hown, hts⟩ := id Cx.1
  have hL : sL G [] := sL_nil
  have hl : lv_has ls 6 [(0, .ref (G.2.2.1 + 11)), (1, .int (iv dd))] := hl
  have hW0 := hW
  have tk_0 : TK S S := TK.rf hTS
  have hkn : 0 ≤ S.1 11 9 ∧ S.1 11 9 ≤ 128 := hI.fi 11 9 9 (by decide) rfl
  refine lv_iload_n hx hb dX9_expression_0 rfl (lv_at hl 1 rfl) ?_
  refine lv_bipush (v := iv 30) hx hb dX9_expression_1 (by decide) ?_
  refine r_icmp_lt (tgt := 16) hx hb ⟨(by omega), (by omega)⟩ ⟨(by omega), (by omega)⟩ dX9_expression_3 (by decide) (fun c_1 => ?_) (fun c_1 => ?_)
  · refine lv_aload_n hx hb dX9_expression_16 rfl (lv_at hl 0 rfl) ?_
    refine lv_iload_n hx hb dX9_expression_17 rfl (lv_at hl 1 rfl) ?_
    refine sBi (sV (As := [.int (iv dd)]) (rest := []) (k := 11) Cx (hT S hI hsg tk_0.1) (c_X9_208 Cx rfl rfl (rmk_ok (by omega) (by decide))) hW (by decide) rfl rfl rfl hl.1 rfl (Nat.le_of_ble_eq_true rfl) dX9_expression_18 ⟨Nat.le_of_ble_eq_true rfl, Nat.le_of_ble_eq_true rfl⟩) hL (fun r_4 u_2 H locs k_3 hW hL => ?_)
    obtain ⟨iu_2, fu_2, xu_2⟩ := k_3
    have F_5 := (Fr.rf : Fr S S pV).trans fu_2
    refine r_if_ne (tgt := 26) hx hb ⟨(by omega), (by omega)⟩ dX9_expression_21 (by decide) (fun c_6 => ?_) (fun c_6 => ?_)
    · refine lv_aload_n hx hb dX9_expression_26 rfl (lv_at hl 0 rfl) ?_
      refine g_X9_31 Cx hW (k := 11) (by decide) rfl (v := .ref (G.2.2.1 + 19)) (rf_11_4 iu_2) dX9_expression_27 ?_
      refine lv_iload_n hx hb dX9_expression_30 rfl (lv_at hl 1 rfl) ?_
      obtain ⟨o_7, mo_7, eo_7⟩ := r2_19 iu_2 (i := dd) (by omega) (by omega)
      refine rAald Cx hW (k := 19) (by decide) rfl (by decide) (by omega) (by omega) eo_7 dX9_expression_31 ?_
      refine lv_astore_n (lv' := [(2, .ref (G.2.2.1 + o_7)), (0, .ref (G.2.2.1 + 11)), (1, .int (iv dd))]) hx hb dX9_expression_32 rfl hl (by decide) rfl (fun ls hl => ?_)
      refine lv_aload_n hx hb dX9_expression_33 rfl (lv_at hl 1 rfl) ?_
      refine g_X9_34 Cx hW (k := 11) (by decide) rfl (v := .ref (G.2.2.1 + 51)) (rf_11_5 iu_2) dX9_expression_34 ?_
      refine lv_iload_n hx hb dX9_expression_37 rfl (lv_at hl 2 rfl) ?_
      obtain ⟨o_8, mo_8, eo_8⟩ := r2_51 iu_2 (i := dd) (by omega) (by omega)
      refine rAald Cx hW (k := 51) (by decide) rfl (by decide) (by omega) (by omega) eo_8 dX9_expression_38 ?_
      refine lv_iconst (v := iv 0) hx hb dX9_expression_39 (by decide) ?_
      refine lv_aload_n hx hb dX9_expression_40 rfl (lv_at hl 0 rfl) ?_
      refine lv_iconst (v := iv 0) hx hb dX9_expression_41 (by decide) ?_
      refine lv_bipush (v := iv 13) hx hb dX9_expression_42 (by decide) ?_
      refine rCopyL Cx hW hL (hml.trans hl.1.symm) w_1087 w_1089 w_1088 w_224 (k0 := o_8) (k1 := o_7) (lr_l mo_8) mo_8.1 (lr_l mo_7) mo_7.1 (by decide) (by decide) (by omega) (by omega) (by omega) (by omega) (by omega) (rmk_f (by omega)) (rmk_l (by omega) (by decide)) dX9_expression_44 (fun H locs hW hL => ?_)
      have tk_9 := TK.trans tk_0 (xu_2.2 (by omega))
      have F_10 : Fr S (uD u_2 o_8 0 o_7 0 13) pV := F_5.D (lr_V mo_7)
      have i_11 : cX G (uD u_2 o_8 0 o_7 0 13) 0 0 0 := iu_2.D (lr_k mo_8)
      have tk_12 : TK S (uD u_2 o_8 0 o_7 0 13) := tk_9.of rfl (fun _ => rfl)
      refine lv_iconst (v := iv 0) hx hb dX9_expression_47 (by decide) ?_
      refine lv_istore_n (lv' := [(3, .int (iv 0)), (2, .ref (G.2.2.1 + o_7)), (0, .ref (G.2.2.1 + 11)), (1, .int (iv dd))]) hx hb dX9_expression_48 rfl hl (by decide) rfl (fun ls hl => ?_)
      have loop_49 : ∀ (fuel : Nat) (S49 : sS) (i : Int) (H : Heap) (locs : List Loc) (ls : Array Slot), (2001 - i).toNat < fuel → (cX G S49 0 0 0) → (Fr S S49 pV) → (Fr ((uD u_2 o_8 0 o_7 0 13)) S49 pV) → (0 ≤ i ∧ i ≤ 2001) → (TK S S49) → sW G 294 S49 H → sL G locs → lv_has ls 6 [(3, .int (iv i)), (2, .ref (G.2.2.1 + o_7)), (0, .ref (G.2.2.1 + 11)), (1, .int (iv dd))] → W p l e (rmk D 0 0) s m args below meth c H locs 0 0 (MQ below (sQi G 294 (fun r u => cX G u 0 0 0 ∧ Fr S u pV ∧ ((0 ≤ r ∧ r ≤ 1) ∧ Hd (r = 1 → TK S u)))) args s 0 0 (sF G)) (F0 m 49 ls []) := by
        intro fuel
        induction fuel with
        | zero => intro S49 i H locs ls hmeas hI49 hFm49 hL49_ hi hTK49 hW hL hl; exact absurd hmeas (Nat.not_lt_zero _)
        | succ fuel ih_49 =>
          intro S49 i H locs ls hmeas hI49 hFm49 hL49_ hi hTK49 hW hL hl
          refine lv_iload_n hx hb dX9_expression_49 rfl (lv_at hl 0 rfl) ?_
          refine lv_aload_n hx hb dX9_expression_50 rfl (lv_at hl 2 rfl) ?_
          refine g_X9_14 Cx hW (k := 11) (by decide) rfl (v := .ref (G.2.2.1 + 12)) (rf_11_0 hI49) dX9_expression_51 ?_
          have q_13 : 0 ≤ S.1 12 3 ∧ S.1 12 3 ≤ 2001 := hI.fi 12 3 8 (by decide) rfl
          have lk_14 : S49.1 12 3 = S.1 12 3 := ((hL49_ 12 rfl).1 3).trans ((uD_f).trans ((fu_2 12 rfl).1 3))
          refine sBi (sV (As := []) (rest := [.int (iv i)]) (k := 12) Cx (s_X8_tokenCount l G S49  hI49) (c_X9_92 Cx rfl rfl (rmk_ok (by omega) (by decide))) hW (by decide) rfl rfl rfl hl.1 rfl (Nat.le_of_ble_eq_true rfl) dX9_expression_54 ⟨Nat.le_of_ble_eq_true rfl, Nat.le_of_ble_eq_true rfl⟩) hL (fun r_17 u_15 H locs k_16 hW hL => ?_)
          obtain ⟨eu_15, xu_15⟩ := k_16
          rw [eu_15] at hW
          refine r_icmp_ge (tgt := 157) hx hb ⟨(by omega), (by omega)⟩ ⟨(by omega), (by omega)⟩ dX9_expression_57 (by decide) (fun c_18 => ?_) (fun c_18 => ?_)
          · refine lv_iconst (v := iv 1) hx hb dX9_expression_157 (by decide) ?_
            exact sZret Cx hr hlk hW hL (by omega) ⟨hI49, hFm49, ⟨(by omega), fun _ => hTK49⟩⟩ dX9_expression_158
          · refine lv_aload_n hx hb dX9_expression_60 rfl (lv_at hl 2 rfl) ?_
            have q_19 : (-2147483648) ≤ S49.1 11 13 ∧ S49.1 11 13 ≤ 2147483647 := hI49.fi 11 13 9 (by decide) rfl
            refine g_X9_89 Cx hW (k := 11) (by decide) rfl (v := S49.1 11 13) rfl dX9_expression_61 ?_
            refine lv_istore (lv' := [(4, .int (iv (S49.1 11 13))), (3, .int (iv i)), (2, .ref (G.2.2.1 + o_7)), (0, .ref (G.2.2.1 + 11)), (1, .int (iv dd))]) hx hb dX9_expression_64 hl (by decide) rfl (fun ls hl => ?_)
            refine lv_aload_n hx hb dX9_expression_66 rfl (lv_at hl 3 rfl) ?_
            refine g_X9_14 Cx hW (k := 11) (by decide) rfl (v := .ref (G.2.2.1 + 12)) (rf_11_0 hI49) dX9_expression_67 ?_
            refine lv_iload hx hb dX9_expression_70 (lv_at hl 0 rfl) ?_
            refine sBi (sV (As := [.int (iv (S49.1 11 13))]) (rest := []) (k := 12) Cx (s_X8_kind l G S49 (k := S49.1 11 13) hI49 (by omega)) (c_X9_95 Cx rfl rfl (rmk_ok (by omega) (by decide))) hW (by decide) rfl rfl rfl hl.1 rfl (Nat.le_of_ble_eq_true rfl) dX9_expression_72 ⟨Nat.le_of_ble_eq_true rfl, Nat.le_of_ble_eq_true rfl⟩) hL (fun r_22 u_20 H locs k_21 hW hL => ?_)
            obtain ⟨eu_20, xu_20⟩ := k_21
            rw [eu_20] at hW
            refine lv_istore (lv' := [(5, .int (iv r_22)), (4, .int (iv (S49.1 11 13))), (3, .int (iv i)), (2, .ref (G.2.2.1 + o_7)), (0, .ref (G.2.2.1 + 11)), (1, .int (iv dd))]) hx hb dX9_expression_75 hl (by decide) rfl (fun ls hl => ?_)
            have join_93 : ∀  (H : Heap) (locs : List Loc) (ls : Array Slot), sW G 294 S49 H → sL G locs → lv_has ls 6 [(5, .int (iv r_22)), (4, .int (iv (S49.1 11 13))), (3, .int (iv i)), (2, .ref (G.2.2.1 + o_7)), (0, .ref (G.2.2.1 + 11)), (1, .int (iv dd))] → W p l e (rmk D 0 0) s m args below meth c H locs 0 0 (MQ below (sQi G 294 (fun r u => cX G u 0 0 0 ∧ Fr S u pV ∧ ((0 ≤ r ∧ r ≤ 1) ∧ Hd (r = 1 → TK S u)))) args s 0 0 (sF G)) (F0 m 93 ls []) := by
              intro  H locs ls  hW hL hl
              refine lv_aload_n hx hb dX9_expression_93 rfl (lv_at hl 4 rfl) ?_
              refine lv_dup hx hb dX9_expression_94 rfl ?_
              refine g_X9_89 Cx hW (k := 11) (by decide) rfl (v := S49.1 11 13) rfl dX9_expression_95 ?_
              refine lv_iconst (v := iv 1) hx hb dX9_expression_98 (by decide) ?_
              refine r_iadd hx hb dX9_expression_99 ?_
              obtain ⟨z_23, ez_23, hz_23, kz_23⟩ := iv_of (iv ((S49.1 11 13) + 1))
              rw [ez_23]
              refine p_X9_89 Cx hW hL (k := 11) (by decide) rfl dX9_expression_100 (fun H locs hW hL => ?_)
              have F_24 : Fr S (uF S49 11 13 z_23) pV := hFm49.F rfl
              have F_25 : Fr ((uD u_2 o_8 0 o_7 0 13)) (uF S49 11 13 z_23) pV := hL49_.F rfl
              have i_26 : cX G (uF S49 11 13 z_23) 0 0 0 := hI49.F rfl rfl (show (-2147483648) ≤ z_23 ∧ z_23 ≤ 2147483647 from ⟨by omega, by omega⟩)
              have tk_27 : TK S (uF S49 11 13 z_23) := hTK49.F (by decide)
              refine lv_aload_n hx hb dX9_expression_103 rfl (lv_at hl 4 rfl) ?_
              refine lv_iload_n hx hb dX9_expression_104 rfl (lv_at hl 5 rfl) ?_
              refine sBi (sV (As := [.int (iv dd)]) (rest := []) (k := 11) Cx (hT (uF S49 11 13 z_23) i_26 (SG.fr F_24 rfl rfl rfl hsg) tk_27.1) (c_X9_208 Cx rfl rfl (rmk_ok (by omega) (by decide))) hW (by decide) rfl rfl rfl hl.1 rfl (Nat.le_of_ble_eq_true rfl) dX9_expression_105 ⟨Nat.le_of_ble_eq_true rfl, Nat.le_of_ble_eq_true rfl⟩) hL (fun r_30 u_28 H locs k_29 hW hL => ?_)
              obtain ⟨iu_28, fu_28, xu_28⟩ := k_29
              have F_31 := F_24.trans fu_28
              have F_32 := F_25.trans fu_28
              refine r_if_ne (tgt := 113) hx hb ⟨(by omega), (by omega)⟩ dX9_expression_108 (by decide) (fun c_33 => ?_) (fun c_33 => ?_)
              · refine lv_aload_n hx hb dX9_expression_113 rfl (lv_at hl 3 rfl) ?_
                refine lv_aload_n hx hb dX9_expression_114 rfl (lv_at hl 4 rfl) ?_
                refine g_X9_34 Cx hW (k := 11) (by decide) rfl (v := .ref (G.2.2.1 + 51)) (rf_11_5 iu_28) dX9_expression_115 ?_
                refine lv_iload_n hx hb dX9_expression_118 rfl (lv_at hl 5 rfl) ?_
                obtain ⟨o_34, mo_34, eo_34⟩ := r2_51 iu_28 (i := dd) (by omega) (by omega)
                refine rAald Cx hW (k := 51) (by decide) rfl (by decide) (by omega) (by omega) eo_34 dX9_expression_119 ?_
                have join_132 : ∀ (sg1 : Int) (H : Heap) (locs : List Loc) (ls : Array Slot), (-1 ≤ sg1 ∧ sg1 ≤ 1) → sW G 294 u_28 H → sL G locs → lv_has ls 6 [(5, .int (iv r_22)), (4, .int (iv (S49.1 11 13))), (3, .int (iv i)), (2, .ref (G.2.2.1 + o_7)), (0, .ref (G.2.2.1 + 11)), (1, .int (iv dd))] → W p l e (rmk D 0 0) s m args below meth c H locs 0 0 (MQ below (sQi G 294 (fun r u => cX G u 0 0 0 ∧ Fr S u pV ∧ ((0 ≤ r ∧ r ≤ 1) ∧ Hd (r = 1 → TK S u)))) args s 0 0 (sF G)) (F0 m 132 ls [.int (iv sg1), .ref (G.2.2.1 + o_34), .ref (G.2.2.1 + o_7)]) := by
                  intro sg1 H locs ls hsg1 hW hL hl
                  have tk_35 := TK.trans tk_27 (xu_28.2 (by omega))
                  refine sBv (sSt (As := [.ref (G.2.2.1 + o_7), .ref (G.2.2.1 + o_34), .int (iv sg1)]) (rest := []) Cx (s_X9_addTo l G u_28 (qa := o_7) (qb := o_34) (t := sg1) iu_28 mo_7 mo_34 (by omega)) (c_X9_185 Cx rfl rfl (rmk_ok (by omega) (by decide))) hW rfl hl.1 rfl (Nat.le_of_ble_eq_true rfl) dX9_expression_132 ⟨Nat.le_of_ble_eq_true rfl, Nat.le_of_ble_eq_true rfl⟩) hL (fun u_36 H locs k_37 hW hL => ?_)
                  obtain ⟨iu_36, fu_36⟩ := k_37
                  have F_38 := F_31.trans (fu_36.to (p1_sub (lr_V mo_7)))
                  have F_39 := F_32.trans (fu_36.to (p1_sub (lr_V mo_7)))
                  have tk_40 := TK.fr tk_35 fu_36 (p1_no (tau_ne (rfl : tau 11 = .inl 9) mo_7.1 (fun h => by cases h))) (p1_no (tau_ne (rfl : tau 17 = .inr (.int, 768)) mo_7.1 (fun h => by cases h)))
                  refine lv_aload_n hx hb dX9_expression_135 rfl (lv_at hl 3 rfl) ?_
                  refine sBi (sSt (As := [.ref (G.2.2.1 + o_7)]) (rest := []) Cx (s_X9_isGreat l G u_36 (qa := o_7) iu_36 mo_7) (c_X9_189 Cx rfl rfl (rmk_ok (by omega) (by decide))) hW rfl hl.1 rfl (Nat.le_of_ble_eq_true rfl) dX9_expression_136 ⟨Nat.le_of_ble_eq_true rfl, Nat.le_of_ble_eq_true rfl⟩) hL (fun r_43 u_41 H locs k_42 hW hL => ?_)
                  obtain ⟨eu_41, xu_41⟩ := k_42
                  rw [eu_41] at hW
                  refine r_if_eq (tgt := 151) hx hb ⟨(by omega), (by omega)⟩ dX9_expression_139 (by decide) (fun c_44 => ?_) (fun c_44 => ?_)
                  · refine lv_iinc (v := iv (i + 1)) (lv' := [(3, .int (iv (i + 1))), (5, .int (iv r_22)), (4, .int (iv (S49.1 11 13))), (2, .ref (G.2.2.1 + o_7)), (0, .ref (G.2.2.1 + 11)), (1, .int (iv dd))]) hx hb dX9_expression_151 hl (k := 2) rfl ((Int32.ofInt_add _ _).symm) (by decide) rfl (fun ls hl => ?_)
                    refine lv_goto (tgt := 49) hx hb dX9_expression_154 (by decide) ?_
                    exact ih_49 u_36 (i + 1) _ _ _ (by omega) iu_36 F_38 F_39 (by omega) tk_40 hW hL (lv_sub hl [0, 3, 4, 5] rfl)
                  · refine lv_aload_n hx hb dX9_expression_142 rfl (lv_at hl 4 rfl) ?_
                    refine lv_bipush (v := iv 6) hx hb dX9_expression_143 (by decide) ?_
                    refine lv_iload hx hb dX9_expression_145 (lv_at hl 1 rfl) ?_
                    have q_45 : 0 ≤ u_28.1 11 9 ∧ u_28.1 11 9 ≤ 128 := iu_28.fi 11 9 9 (by decide) rfl
                    have lk_46 : u_36.1 11 9 = u_28.1 11 9 := (fu_36 11 (p1_no (tau_ne (rfl : tau 11 = .inl 9) mo_7.1 (fun h => by cases h)))).1 9
                    refine sBi (sV (As := [.int (iv 6), .int (iv (S49.1 11 13))]) (rest := []) (k := 11) Cx (s_X9_fail l G u_36 (k := 6) (tk := S49.1 11 13) iu_36 (by omega) (by omega)) (c_X9_132 Cx rfl rfl (rmk_ok (by omega) (by decide))) hW (by decide) rfl rfl rfl hl.1 rfl (Nat.le_of_ble_eq_true rfl) dX9_expression_147 ⟨Nat.le_of_ble_eq_true rfl, Nat.le_of_ble_eq_true rfl⟩) hL (fun r_49 u_47 H locs k_48 hW hL => ?_)
                    obtain ⟨iu_47, fu_47, xu_47⟩ := k_48
                    have F_50 := F_38.trans (fu_47.to (fun k h => pU_V k ((fun k h => pT_U k (p11_T k h)) k h)))
                    have F_51 := F_39.trans (fu_47.to (fun k h => pU_V k ((fun k h => pT_U k (p11_T k h)) k h)))
                    have tk_52 := TK.of tk_40 (u := u_47) (by omega) (fun j => (fu_47 17 rfl).2.1 j)
                    exact sZret Cx hr hlk hW hL (by omega) ⟨iu_47, F_50, ⟨(by omega), fun q => absurd q (by omega)⟩⟩ dX9_expression_150
                refine lv_iload hx hb dX9_expression_120 (lv_at hl 0 rfl) ?_
                refine lv_bipush (v := iv 21) hx hb dX9_expression_122 (by decide) ?_
                refine r_icmp_ne (tgt := 131) hx hb ⟨(by omega), (by omega)⟩ ⟨(by omega), (by omega)⟩ dX9_expression_124 (by decide) (fun c_53 => ?_) (fun c_53 => ?_)
                · refine lv_iconst (v := iv (-1)) hx hb dX9_expression_131 (by decide) ?_
                  exact join_132 ((-1)) _ _ _ (by omega) hW hL (lv_sub hl [0, 1, 2, 3, 4, 5] rfl)
                · refine lv_iconst (v := iv 1) hx hb dX9_expression_127 (by decide) ?_
                  refine lv_goto (tgt := 132) hx hb dX9_expression_128 (by decide) ?_
                  exact join_132 1 _ _ _ (by omega) hW hL (lv_sub hl [0, 1, 2, 3, 4, 5] rfl)
              · refine lv_iconst (v := iv 0) hx hb dX9_expression_111 (by decide) ?_
                exact sZret Cx hr hlk hW hL (by omega) ⟨iu_28, F_31, ⟨(by omega), fun q => absurd q (by omega)⟩⟩ dX9_expression_112
            refine lv_iload hx hb dX9_expression_77 (lv_at hl 0 rfl) ?_
            refine lv_bipush (v := iv 21) hx hb dX9_expression_79 (by decide) ?_
            refine r_icmp_eq (tgt := 93) hx hb ⟨(by omega), (by omega)⟩ ⟨(by omega), (by omega)⟩ dX9_expression_81 (by decide) (fun c_54 => ?_) (fun c_54 => ?_)
            · exact join_93  _ _ _  hW hL (lv_sub hl [0, 1, 2, 3, 4, 5] rfl)
            · refine lv_iload hx hb dX9_expression_84 (lv_at hl 0 rfl) ?_
              refine lv_bipush (v := iv 22) hx hb dX9_expression_86 (by decide) ?_
              refine r_icmp_eq (tgt := 93) hx hb ⟨(by omega), (by omega)⟩ ⟨(by omega), (by omega)⟩ dX9_expression_88 (by decide) (fun c_55 => ?_) (fun c_55 => ?_)
              · exact join_93  _ _ _  hW hL (lv_sub hl [0, 1, 2, 3, 4, 5] rfl)
              · refine lv_iconst (v := iv 1) hx hb dX9_expression_91 (by decide) ?_
                exact sZret Cx hr hlk hW hL (by omega) ⟨hI49, hFm49, ⟨(by omega), fun _ => hTK49⟩⟩ dX9_expression_92
      exact loop_49 (_ + 1) (uD u_2 o_8 0 o_7 0 13) 0 _ _ _ (Nat.lt_succ_self _) i_11 F_10 Fr.rf (by omega) tk_12 hW hL (lv_sub hl [0, 1, 2, 3] rfl)
    · refine lv_iconst (v := iv 0) hx hb dX9_expression_24 (by decide) ?_
      exact sZret Cx hr hlk hW hL (by omega) ⟨iu_2, F_5, ⟨(by omega), fun q => absurd q (by omega)⟩⟩ dX9_expression_25
  · refine lv_aload_n hx hb dX9_expression_6 rfl (lv_at hl 0 rfl) ?_
    refine lv_iconst (v := iv 1) hx hb dX9_expression_7 (by decide) ?_
    refine lv_aload_n hx hb dX9_expression_8 rfl (lv_at hl 0 rfl) ?_
    have q_56 : (-2147483648) ≤ S.1 11 13 ∧ S.1 11 13 ≤ 2147483647 := hI.fi 11 13 9 (by decide) rfl
    refine g_X9_89 Cx hW (k := 11) (by decide) rfl (v := S.1 11 13) rfl dX9_expression_9 ?_
    have q_57 : 0 ≤ S.1 11 9 ∧ S.1 11 9 ≤ 128 := hI.fi 11 9 9 (by decide) rfl
    refine sBi (sV (As := [.int (iv 1), .int (iv (S.1 11 13))]) (rest := []) (k := 11) Cx (s_X9_fail l G S (k := 1) (tk := S.1 11 13) hI (by omega) (by omega)) (c_X9_132 Cx rfl rfl (rmk_ok (by omega) (by decide))) hW (by decide) rfl rfl rfl hl.1 rfl (Nat.le_of_ble_eq_true rfl) dX9_expression_12 ⟨Nat.le_of_ble_eq_true rfl, Nat.le_of_ble_eq_true rfl⟩) hL (fun r_60 u_58 H locs k_59 hW hL => ?_)
    obtain ⟨iu_58, fu_58, xu_58⟩ := k_59
    have F_61 := (Fr.rf : Fr S S pV).trans (fu_58.to (fun k h => pU_V k ((fun k h => pT_U k (p11_T k h)) k h)))
    have tk_62 := TK.of tk_0 (u := u_58) (by omega) (fun j => (fu_58 17 rfl).2.1 j)
    exact sZret Cx hr hlk hW hL (by omega) ⟨iu_58, F_61, ⟨(by omega), fun q => absurd q (by omega)⟩⟩ dX9_expression_15

theorem tel_all (l : Launch) (G : sG) : ∀ (n : Nat) (dd : Int), 0 ≤ dd → dd ≤ 30 → 30 - dd ≤ n → FaC l G (4 * n + 10) dd ∧ TeC l G (4 * n + 11) dd ∧ ExC l G (4 * n + 12) dd := by
  intro n
  have fin : ∀ (n : Nat) (dd : Int), 0 ≤ dd → dd ≤ 30 → FaC l G (4 * n + 10) dd → FaC l G (4 * n + 10) dd ∧ TeC l G (4 * n + 11) dd ∧ ExC l G (4 * n + 12) dd := fun n dd h0 h1 hF =>
    have hT : TeC l G (4 * n + 11) dd := fun S hI hsg hTS => s_X9_term l G S hI ⟨h0, h1⟩ (d1 := 4 * n + 10) (by omega) (by omega) hF hsg hTS
    ⟨hF, hT, fun S hI hsg hTS => s_X9_expression l G S hI ⟨h0, h1⟩ (d1 := 4 * n + 11) (by omega) (by omega) hT hsg hTS⟩
  induction n with
  | zero =>
    intro dd h0 h1 h2
    exact fin 0 dd h0 h1 (fun S hI hsg hTS => s_X9_factor l G S hI ⟨h0, h1⟩ (dm := 9) (d1 := 0) (d2 := 0) (by omega) (by omega) (by omega) (by omega) (fun h => absurd h (by omega)) (fun h => absurd h (by omega)) hsg hTS)
  | succ n ih =>
    intro dd h0 h1 h2
    exact fin (n + 1) dd h0 h1 (fun S hI hsg hTS => s_X9_factor l G S hI ⟨h0, h1⟩ (dm := 4 * n + 13) (d1 := 4 * n + 12) (d2 := 4 * n + 10) (by omega) (by omega) (by omega) (by omega) (fun h => (ih (dd + 1) (by omega) (by omega) (by omega)).2.2) (fun h => (ih (dd + 1) (by omega) (by omega) (by omega)).1) hsg hTS)
theorem tel_expr (l : Launch) (G : sG) : ExC l G 132 0 := (tel_all l G 30 0 (by decide) (by decide) (by decide)).2.2
