set_option maxRecDepth 100000 in
set_option maxHeartbeats 4000000 in
theorem e_X10_put (l : Launch) (G : sG) (S : sS) {o N : Nat} {k : Int} (hI : cX G S 0 0 0) (ht : txt o N) (hk : -2147483648 ≤ k ∧ k ≤ 2147483647) (hlt : S.1 o 1 < N) : Met l yX10_put (.code yX10_put cX10_put 2 none :: tb) (rmk 1 0 0) (sPc G 294 S [.ref (G.2.2.1 + o), .int (iv k)]) (sQv G 294 (fun u => cX G u 0 0 0 ∧ Fr S u (pB o) ∧ (u.1 o 1 = S.1 o 1 + 1 ∧ (∀ j, j ≠ S.1 o 1 → u.2.1 (o + 1) j = S.2.1 (o + 1) j) ∧ u.2.1 (o + 1) (S.1 o 1) = (k + 128) % 256 - 128))) 0 0 (sF G) := by
  refine sEnter (by decide) (Nat.le_of_ble_eq_true rfl) ?_
  intro p e s m args below meth c Cx hr hlk hnm hW ls hl
  have Cx : sC G p m c cX10_put 2 s args RX10 := Cx
  obtain ⟨hx, hb, hml, hown, hts⟩ := id Cx.1
  have hL : sL G [] := sL_nil
  have hl : lv_has ls 2 [(0, .ref (G.2.2.1 + o)), (1, .int (iv k))] := hl
  have hW0 := hW
  have hN3 := ht.2.2.2.2.2
  refine lv_aload_n hx hb dX10_put_0 rfl (lv_at hl 0 rfl) ?_
  have q_1 : 0 ≤ S.1 o 1 ∧ S.1 o 1 ≤ (N : Int) := txt_len ht hI
  refine g_X10_21 Cx hW (k := o) (Nat.lt_trans ht.1 (by decide)) ht.2.1 (v := S.1 o 1) rfl dX10_put_1 ?_
  refine lv_aload_n hx hb dX10_put_4 rfl (lv_at hl 0 rfl) ?_
  refine g_X10_15 Cx hW (k := o) (Nat.lt_trans ht.1 (by decide)) ht.2.1 (v := .ref (G.2.2.1 + (o + 1))) (hI.rq.2.1 o ht.1 ht.2.1) dX10_put_5 ?_
  refine sAlen Cx hW (k := o + 1) (txt_l1 ht) ht.2.2.1 2 rfl dX10_put_8 ?_
  refine r_icmp_lt (tgt := 18) hx hb ⟨(by omega), (by omega)⟩ ⟨(by omega), (by omega)⟩ dX10_put_9 (by decide) (fun _ => ?_) (fun c => absurd (by omega) c)
  refine lv_aload_n hx hb dX10_put_18 rfl (lv_at hl 0 rfl) ?_
  refine g_X10_15 Cx hW (k := o) (Nat.lt_trans ht.1 (by decide)) ht.2.1 (v := .ref (G.2.2.1 + (o + 1))) (hI.rq.2.1 o ht.1 ht.2.1) dX10_put_19 ?_
  refine lv_aload_n hx hb dX10_put_22 rfl (lv_at hl 0 rfl) ?_
  refine g_X10_21 Cx hW (k := o) (Nat.lt_trans ht.1 (by decide)) ht.2.1 (v := S.1 o 1) rfl dX10_put_23 ?_
  refine lv_iload_n hx hb dX10_put_26 rfl (lv_at hl 1 rfl) ?_
  refine r_i2bE hx hb ⟨(by omega), (by omega)⟩ dX10_put_27 (fun z_2 hz_2 kz_2 ez_2 => ?_)
  refine rBast Cx hW hL (k := o + 1) (txt_l1 ht) ht.2.2.1 (by omega) (by omega) (by omega) (nar_b (by omega) (by omega)) dX10_put_28 (fun H locs hW hL => ?_)
  have F_3 : Fr S (uA S (o + 1) (S.1 o 1) z_2) (pB o) := (Fr.rf : Fr S S (pB o)).A pB_1
  have i_4 : cX G (uA S (o + 1) (S.1 o 1) z_2) 0 0 0 := hI.byt ht ⟨by omega, by omega⟩
  refine lv_aload_n hx hb dX10_put_29 rfl (lv_at hl 0 rfl) ?_
  refine lv_dup hx hb dX10_put_30 rfl ?_
  refine g_X10_21 Cx hW (k := o) (Nat.lt_trans ht.1 (by decide)) ht.2.1 (v := S.1 o 1) uA_f dX10_put_31 ?_
  refine lv_iconst (v := iv 1) hx hb dX10_put_34 (by decide) ?_
  refine r_iadd hx hb dX10_put_35 ?_
  refine p_X10_21 Cx hW hL (k := o) (Nat.lt_trans ht.1 (by decide)) ht.2.1 dX10_put_36 (fun H locs hW hL => ?_)
  have F_5 : Fr S (uF (uA S (o + 1) (S.1 o 1) z_2) o 1 ((S.1 o 1) + 1)) (pB o) := F_3.F pB_0
  have i_6 : cX G (uF (uA S (o + 1) (S.1 o 1) z_2) o 1 ((S.1 o 1) + 1)) 0 0 0 := i_4.len ht ⟨by omega, by omega⟩
  have lk_7 : (uF (uA S (o + 1) (S.1 o 1) z_2) o 1 ((S.1 o 1) + 1)).1 o 1 = (S.1 o 1) + 1 := uF_on
  exact sVret Cx hr hlk hW hL ⟨i_6, F_5, ⟨(by omega), ⟨(fun j a => (uF_a).trans (uA_ne (fun h => a h.2))), ((uF_a).trans (uA_on)).trans (show z_2 = _ by omega)⟩⟩⟩ dX10_put_39

set_option maxRecDepth 100000 in
set_option maxHeartbeats 4000000 in
theorem e_X10_putFour (l : Launch) (G : sG) (S : sS) {o N : Nat} {k : Int} (hI : cX G S 0 0 0) (ht : txt o N) (hk : -2147483648 ≤ k ∧ k ≤ 2147483647) (hlt : S.1 o 1 + 4 ≤ N) : Met l yX10_putFour (.code yX10_putFour cX10_putFour 2 none :: tb) (rmk 2 0 0) (sPc G 294 S [.ref (G.2.2.1 + o), .int (iv k)]) (sQv G 294 (fun u => cX G u 0 0 0 ∧ Fr S u (pB o) ∧ (u.1 o 1 = S.1 o 1 + 4 ∧ LYb (S.2.1 (o + 1)) (u.2.1 (o + 1)) (S.1 o 1) k))) 0 0 (sF G) := by
  refine sEnter (by decide) (Nat.le_of_ble_eq_true rfl) ?_
  intro p e s m args below meth c Cx hr hlk hnm hW ls hl
  have Cx : sC G p m c cX10_putFour 2 s args RX10 := Cx
  obtain ⟨hx, hb, hml, hown, hts⟩ := id Cx.1
  have hL : sL G [] := sL_nil
  have hl : lv_has ls 2 [(0, .ref (G.2.2.1 + o)), (1, .int (iv k))] := hl
  have hW0 := hW
  have hN3 := ht.2.2.2.2.2
  refine lv_aload_n hx hb dX10_putFour_0 rfl (lv_at hl 0 rfl) ?_
  refine lv_iload_n hx hb dX10_putFour_1 rfl (lv_at hl 1 rfl) ?_
  refine lv_bipush (v := iv 24) hx hb dX10_putFour_2 (by decide) ?_
  refine r_iushrX hx hb (n := 24) (D := 16777216) ⟨(by omega), (by omega)⟩ (by decide) rfl (by decide) dX10_putFour_4 (fun z_1 hz_1 kz_1 ez_1 => ?_)
  have q_2 : 0 ≤ S.1 o 1 ∧ S.1 o 1 ≤ (N : Int) := txt_len ht hI
  refine sBv (sV (As := [.int (iv z_1)]) (rest := []) (k := o) Cx (e_X10_put l G S (o := o) (k := z_1) (N := N) hI ht (by omega) (by omega)) (c_X10_29 Cx rfl rfl (rmk_ok (by omega) (by decide))) hW (Nat.lt_trans ht.1 (by decide)) ht.2.1 rfl rfl hl.1 rfl (Nat.le_of_ble_eq_true rfl) dX10_putFour_5 ⟨Nat.le_of_ble_eq_true rfl, Nat.le_of_ble_eq_true rfl⟩) hL (fun u_3 H locs k_4 hW hL => ?_)
  obtain ⟨iu_3, fu_3, xu_3⟩ := k_4
  have F_5 := (Fr.rf : Fr S S (pB o)).trans fu_3
  refine lv_aload_n hx hb dX10_putFour_8 rfl (lv_at hl 0 rfl) ?_
  refine lv_iload_n hx hb dX10_putFour_9 rfl (lv_at hl 1 rfl) ?_
  refine lv_bipush (v := iv 16) hx hb dX10_putFour_10 (by decide) ?_
  refine r_iushrX hx hb (n := 16) (D := 65536) ⟨(by omega), (by omega)⟩ (by decide) rfl (by decide) dX10_putFour_12 (fun z_6 hz_6 kz_6 ez_6 => ?_)
  have q_7 : 0 ≤ u_3.1 o 1 ∧ u_3.1 o 1 ≤ (N : Int) := txt_len ht iu_3
  refine sBv (sV (As := [.int (iv z_6)]) (rest := []) (k := o) Cx (e_X10_put l G u_3 (o := o) (k := z_6) (N := N) iu_3 ht (by omega) (by omega)) (c_X10_29 Cx rfl rfl (rmk_ok (by omega) (by decide))) hW (Nat.lt_trans ht.1 (by decide)) ht.2.1 rfl rfl hl.1 rfl (Nat.le_of_ble_eq_true rfl) dX10_putFour_13 ⟨Nat.le_of_ble_eq_true rfl, Nat.le_of_ble_eq_true rfl⟩) hL (fun u_8 H locs k_9 hW hL => ?_)
  obtain ⟨iu_8, fu_8, xu_8⟩ := k_9
  have F_10 := F_5.trans fu_8
  refine lv_aload_n hx hb dX10_putFour_16 rfl (lv_at hl 0 rfl) ?_
  refine lv_iload_n hx hb dX10_putFour_17 rfl (lv_at hl 1 rfl) ?_
  refine lv_bipush (v := iv 8) hx hb dX10_putFour_18 (by decide) ?_
  refine r_iushrX hx hb (n := 8) (D := 256) ⟨(by omega), (by omega)⟩ (by decide) rfl (by decide) dX10_putFour_20 (fun z_11 hz_11 kz_11 ez_11 => ?_)
  have q_12 : 0 ≤ u_8.1 o 1 ∧ u_8.1 o 1 ≤ (N : Int) := txt_len ht iu_8
  refine sBv (sV (As := [.int (iv z_11)]) (rest := []) (k := o) Cx (e_X10_put l G u_8 (o := o) (k := z_11) (N := N) iu_8 ht (by omega) (by omega)) (c_X10_29 Cx rfl rfl (rmk_ok (by omega) (by decide))) hW (Nat.lt_trans ht.1 (by decide)) ht.2.1 rfl rfl hl.1 rfl (Nat.le_of_ble_eq_true rfl) dX10_putFour_21 ⟨Nat.le_of_ble_eq_true rfl, Nat.le_of_ble_eq_true rfl⟩) hL (fun u_13 H locs k_14 hW hL => ?_)
  obtain ⟨iu_13, fu_13, xu_13⟩ := k_14
  have F_15 := F_10.trans fu_13
  refine lv_aload_n hx hb dX10_putFour_24 rfl (lv_at hl 0 rfl) ?_
  refine lv_iload_n hx hb dX10_putFour_25 rfl (lv_at hl 1 rfl) ?_
  have q_16 : 0 ≤ u_13.1 o 1 ∧ u_13.1 o 1 ≤ (N : Int) := txt_len ht iu_13
  refine sBv (sV (As := [.int (iv k)]) (rest := []) (k := o) Cx (e_X10_put l G u_13 (o := o) (k := k) (N := N) iu_13 ht (by omega) (by omega)) (c_X10_29 Cx rfl rfl (rmk_ok (by omega) (by decide))) hW (Nat.lt_trans ht.1 (by decide)) ht.2.1 rfl rfl hl.1 rfl (Nat.le_of_ble_eq_true rfl) dX10_putFour_26 ⟨Nat.le_of_ble_eq_true rfl, Nat.le_of_ble_eq_true rfl⟩) hL (fun u_17 H locs k_18 hW hL => ?_)
  obtain ⟨iu_17, fu_17, xu_17⟩ := k_18
  have F_19 := F_15.trans fu_17
  have q_20 : 0 ≤ u_17.1 o 1 ∧ u_17.1 o 1 ≤ (N : Int) := txt_len ht iu_17
  exact sVret Cx hr hlk hW hL ⟨iu_17, F_19, ⟨(by omega), LYb.mk (z1 := _) (z2 := _) (z3 := _) (z4 := _) xu_3.2 (by have y := xu_8.2; rw [show u_3.1 o 1 = S.1 o 1 + 1 by omega] at y; exact y) (by have y := xu_13.2; rw [show u_8.1 o 1 = S.1 o 1 + 2 by omega] at y; exact y) (by have y := xu_17.2; rw [show u_13.1 o 1 = S.1 o 1 + 3 by omega] at y; exact y) (by unfold bys; omega) (by unfold bys; omega) (by unfold bys; omega) (by unfold bys; omega)⟩⟩ dX10_putFour_29

set_option maxRecDepth 100000 in
set_option maxHeartbeats 4000000 in
theorem e_X10_shorten (l : Launch) (G : sG) (S : sS) {o N : Nat} {k : Int} (hI : cX G S 0 0 0) (ht : txt o N) (hk : -2147483648 ≤ k ∧ k ≤ 2147483647) : Met l yX10_shorten (.code yX10_shorten cX10_shorten 2 (some .boolean) :: tb) (rmk 1 0 0) (sPc G 294 S [.ref (G.2.2.1 + o), .int (iv k)]) (sQi G 294 (fun r u => cX G u 0 0 0 ∧ Fr S u (pB o) ∧ (((0 ≤ k ∧ k ≤ S.1 o 1 → r = 1 ∧ u.1 o 1 = k) ∧ (¬ (0 ≤ k ∧ k ≤ S.1 o 1) → r = 0 ∧ u.1 o 1 = S.1 o 1)) ∧ u.2.1 (o + 1) = S.2.1 (o + 1)))) 0 0 (sF G) := by
  refine sEnter (by decide) (Nat.le_of_ble_eq_true rfl) ?_
  intro p e s m args below meth c Cx hr hlk hnm hW ls hl
  have Cx : sC G p m c cX10_shorten 2 s args RX10 := Cx
  obtain ⟨hx, hb, hml, hown, hts⟩ := id Cx.1
  have hL : sL G [] := sL_nil
  have hl : lv_has ls 2 [(0, .ref (G.2.2.1 + o)), (1, .int (iv k))] := hl
  have hW0 := hW
  have hN3 := ht.2.2.2.2.2
  refine lv_iload_n hx hb dX10_shorten_0 rfl (lv_at hl 1 rfl) ?_
  refine r_if_lt (tgt := 12) hx hb ⟨(by omega), (by omega)⟩ dX10_shorten_1 (by decide) (fun c_1 => ?_) (fun c_1 => ?_)
  · refine lv_iconst (v := iv 0) hx hb dX10_shorten_12 (by decide) ?_
    have q_2 : 0 ≤ S.1 o 1 ∧ S.1 o 1 ≤ (N : Int) := txt_len ht hI
    have q_3 : 0 ≤ S.1 o 2 ∧ S.1 o 2 ≤ 1 := hI.fi o 2 10 ht.1 ht.2.1
    exact sZret Cx hr hlk hW hL (by omega) ⟨hI, (Fr.rf : Fr S S (pB o)), ⟨(by omega), rfl⟩⟩ dX10_shorten_13
  · refine lv_iload_n hx hb dX10_shorten_4 rfl (lv_at hl 1 rfl) ?_
    refine lv_aload_n hx hb dX10_shorten_5 rfl (lv_at hl 0 rfl) ?_
    have q_4 : 0 ≤ S.1 o 1 ∧ S.1 o 1 ≤ (N : Int) := txt_len ht hI
    refine g_X10_21 Cx hW (k := o) (Nat.lt_trans ht.1 (by decide)) ht.2.1 (v := S.1 o 1) rfl dX10_shorten_6 ?_
    refine r_icmp_le (tgt := 14) hx hb ⟨(by omega), (by omega)⟩ ⟨(by omega), (by omega)⟩ dX10_shorten_9 (by decide) (fun c_5 => ?_) (fun c_5 => ?_)
    · refine lv_aload_n hx hb dX10_shorten_14 rfl (lv_at hl 0 rfl) ?_
      refine lv_iload_n hx hb dX10_shorten_15 rfl (lv_at hl 1 rfl) ?_
      refine p_X10_21 Cx hW hL (k := o) (Nat.lt_trans ht.1 (by decide)) ht.2.1 dX10_shorten_16 (fun H locs hW hL => ?_)
      have F_6 : Fr S (uF S o 1 k) (pB o) := (Fr.rf : Fr S S (pB o)).F pB_0
      have i_7 : cX G (uF S o 1 k) 0 0 0 := hI.len ht ⟨by omega, by omega⟩
      refine lv_iconst (v := iv 1) hx hb dX10_shorten_19 (by decide) ?_
      have lk_8 : (uF S o 1 k).1 o 1 = k := uF_on
      have q_9 : 0 ≤ S.1 o 2 ∧ S.1 o 2 ≤ 1 := hI.fi o 2 10 ht.1 ht.2.1
      have lk_10 : (uF S o 1 k).1 o 2 = S.1 o 2 := uF_ne (fun h => absurd h.2 (by decide))
      exact sZret Cx hr hlk hW hL (by omega) ⟨i_7, F_6, ⟨(by omega), rfl⟩⟩ dX10_shorten_20
    · refine lv_iconst (v := iv 0) hx hb dX10_shorten_12 (by decide) ?_
      have q_11 : 0 ≤ S.1 o 2 ∧ S.1 o 2 ≤ 1 := hI.fi o 2 10 ht.1 ht.2.1
      exact sZret Cx hr hlk hW hL (by omega) ⟨hI, (Fr.rf : Fr S S (pB o)), ⟨(by omega), rfl⟩⟩ dX10_shorten_13

set_option maxRecDepth 100000 in
set_option maxHeartbeats 4000000 in
theorem e_X11_feed (l : Launch) (G : sG) (S : sS) {a b c1 d1 e1 : Int} (hI : cX G S 0 0 0) (ha : -2147483648 ≤ a ∧ a ≤ 2147483647) (hb : -2147483648 ≤ b ∧ b ≤ 2147483647) (hc1 : -2147483648 ≤ c1 ∧ c1 ≤ 2147483647) (hd1 : -2147483648 ≤ d1 ∧ d1 ≤ 2147483647) (he1 : -2147483648 ≤ e1 ∧ e1 ≤ 2147483647) : Met l yX11_feed (.code yX11_feed cX11_feed 6 (some .int) :: tb) (rmk 3 0 0) (sPc G 294 S [.ref (G.2.2.1 + 0), .int (iv a), .int (iv b), .int (iv c1), .int (iv d1), .int (iv e1)]) (sQi G 294 (fun r u => cX G u 0 0 0 ∧ Fr S u (pB 1) ∧ (((S.1 1 1 + 20 ≤ 30000 → r = S.1 1 1 + 20 ∧ u.1 1 1 = S.1 1 1 + 20) ∧ (30000 < S.1 1 1 + 20 → r = -1 ∧ u.1 1 1 = S.1 1 1)) ∧ Hd (30000 < S.1 1 1 + 20 → u.2.1 2 = S.2.1 2) ∧ Hd (S.1 1 1 + 20 ≤ 30000 → FDb (S.2.1 2) (u.2.1 2) (S.1 1 1) a b c1 d1 e1)))) 0 0 (sF G) := by
  refine sEnter (by decide) (Nat.le_of_ble_eq_true rfl) ?_
  intro p e s m args below meth c Cx hr hlk hnm hW ls hl
  have Cx : sC G p m c cX11_feed 6 s args RX11 := Cx
  obtain ⟨hx, hb, hml, hown, hts⟩ := id Cx.1
  have hL : sL G [] := sL_nil
  have hl : lv_has ls 6 [(0, .ref (G.2.2.1 + 0)), (1, .int (iv a)), (2, .int (iv b)), (3, .int (iv c1)), (4, .int (iv d1)), (5, .int (iv e1))] := hl
  have hW0 := hW
  refine lv_aload_n hx hb dX11_feed_0 rfl (lv_at hl 0 rfl) ?_
  refine g_X11_14 Cx hW (k := 0) (by decide) rfl (v := .ref (G.2.2.1 + 1)) (rf_0_0 hI) dX11_feed_1 ?_
  have q_1 : 0 ≤ S.1 1 1 ∧ S.1 1 1 ≤ 30000 := hI.fi 1 1 10 (by decide) rfl
  refine sBi (sV (As := []) (rest := []) (k := 1) Cx (s_X10_length l G S (o := 1) (N := 30000) hI ⟨by decide, rfl, rfl, rfl, rfl, by decide⟩) (c_X11_56 Cx rfl rfl (rmk_ok (by omega) (by decide))) hW (by decide) rfl rfl rfl hl.1 rfl (Nat.le_of_ble_eq_true rfl) dX11_feed_4 ⟨Nat.le_of_ble_eq_true rfl, Nat.le_of_ble_eq_true rfl⟩) hL (fun r_4 u_2 H locs k_3 hW hL => ?_)
  obtain ⟨eu_2, xu_2⟩ := k_3
  rw [eu_2] at hW
  refine lv_bipush (v := iv 20) hx hb dX11_feed_7 (by decide) ?_
  refine r_iadd hx hb dX11_feed_9 ?_
  refine lv_sipush (v := iv 30000) hx hb dX11_feed_10 (by decide) ?_
  refine r_icmp_le (tgt := 18) hx hb ⟨(by omega), (by omega)⟩ ⟨(by omega), (by omega)⟩ dX11_feed_13 (by decide) (fun c_5 => ?_) (fun c_5 => ?_)
  · refine lv_aload_n hx hb dX11_feed_18 rfl (lv_at hl 0 rfl) ?_
    refine g_X11_14 Cx hW (k := 0) (by decide) rfl (v := .ref (G.2.2.1 + 1)) (rf_0_0 hI) dX11_feed_19 ?_
    refine lv_iload_n hx hb dX11_feed_22 rfl (lv_at hl 1 rfl) ?_
    refine sBv (sV (As := [.int (iv a)]) (rest := []) (k := 1) Cx (e_X10_putFour l G S (o := 1) (k := a) (N := 30000) hI ⟨by decide, rfl, rfl, rfl, rfl, by decide⟩ (by omega) (by omega)) (c_X11_60 Cx rfl rfl (rmk_ok (by omega) (by decide))) hW (by decide) rfl rfl rfl hl.1 rfl (Nat.le_of_ble_eq_true rfl) dX11_feed_23 ⟨Nat.le_of_ble_eq_true rfl, Nat.le_of_ble_eq_true rfl⟩) hL (fun u_6 H locs k_7 hW hL => ?_)
    obtain ⟨iu_6, fu_6, xu_6⟩ := k_7
    have F_8 := (Fr.rf : Fr S S (pB 1)).trans fu_6
    refine lv_aload_n hx hb dX11_feed_26 rfl (lv_at hl 0 rfl) ?_
    refine g_X11_14 Cx hW (k := 0) (by decide) rfl (v := .ref (G.2.2.1 + 1)) (rf_0_0 iu_6) dX11_feed_27 ?_
    refine lv_iload_n hx hb dX11_feed_30 rfl (lv_at hl 2 rfl) ?_
    have q_9 : 0 ≤ u_6.1 1 1 ∧ u_6.1 1 1 ≤ 30000 := iu_6.fi 1 1 10 (by decide) rfl
    refine sBv (sV (As := [.int (iv b)]) (rest := []) (k := 1) Cx (e_X10_putFour l G u_6 (o := 1) (k := b) (N := 30000) iu_6 ⟨by decide, rfl, rfl, rfl, rfl, by decide⟩ (by omega) (by omega)) (c_X11_60 Cx rfl rfl (rmk_ok (by omega) (by decide))) hW (by decide) rfl rfl rfl hl.1 rfl (Nat.le_of_ble_eq_true rfl) dX11_feed_31 ⟨Nat.le_of_ble_eq_true rfl, Nat.le_of_ble_eq_true rfl⟩) hL (fun u_10 H locs k_11 hW hL => ?_)
    obtain ⟨iu_10, fu_10, xu_10⟩ := k_11
    have F_12 := F_8.trans fu_10
    refine lv_aload_n hx hb dX11_feed_34 rfl (lv_at hl 0 rfl) ?_
    refine g_X11_14 Cx hW (k := 0) (by decide) rfl (v := .ref (G.2.2.1 + 1)) (rf_0_0 iu_10) dX11_feed_35 ?_
    refine lv_iload_n hx hb dX11_feed_38 rfl (lv_at hl 3 rfl) ?_
    have q_13 : 0 ≤ u_10.1 1 1 ∧ u_10.1 1 1 ≤ 30000 := iu_10.fi 1 1 10 (by decide) rfl
    refine sBv (sV (As := [.int (iv c1)]) (rest := []) (k := 1) Cx (e_X10_putFour l G u_10 (o := 1) (k := c1) (N := 30000) iu_10 ⟨by decide, rfl, rfl, rfl, rfl, by decide⟩ (by omega) (by omega)) (c_X11_60 Cx rfl rfl (rmk_ok (by omega) (by decide))) hW (by decide) rfl rfl rfl hl.1 rfl (Nat.le_of_ble_eq_true rfl) dX11_feed_39 ⟨Nat.le_of_ble_eq_true rfl, Nat.le_of_ble_eq_true rfl⟩) hL (fun u_14 H locs k_15 hW hL => ?_)
    obtain ⟨iu_14, fu_14, xu_14⟩ := k_15
    have F_16 := F_12.trans fu_14
    refine lv_aload_n hx hb dX11_feed_42 rfl (lv_at hl 0 rfl) ?_
    refine g_X11_14 Cx hW (k := 0) (by decide) rfl (v := .ref (G.2.2.1 + 1)) (rf_0_0 iu_14) dX11_feed_43 ?_
    refine lv_iload hx hb dX11_feed_46 (lv_at hl 4 rfl) ?_
    have q_17 : 0 ≤ u_14.1 1 1 ∧ u_14.1 1 1 ≤ 30000 := iu_14.fi 1 1 10 (by decide) rfl
    refine sBv (sV (As := [.int (iv d1)]) (rest := []) (k := 1) Cx (e_X10_putFour l G u_14 (o := 1) (k := d1) (N := 30000) iu_14 ⟨by decide, rfl, rfl, rfl, rfl, by decide⟩ (by omega) (by omega)) (c_X11_60 Cx rfl rfl (rmk_ok (by omega) (by decide))) hW (by decide) rfl rfl rfl hl.1 rfl (Nat.le_of_ble_eq_true rfl) dX11_feed_48 ⟨Nat.le_of_ble_eq_true rfl, Nat.le_of_ble_eq_true rfl⟩) hL (fun u_18 H locs k_19 hW hL => ?_)
    obtain ⟨iu_18, fu_18, xu_18⟩ := k_19
    have F_20 := F_16.trans fu_18
    refine lv_aload_n hx hb dX11_feed_51 rfl (lv_at hl 0 rfl) ?_
    refine g_X11_14 Cx hW (k := 0) (by decide) rfl (v := .ref (G.2.2.1 + 1)) (rf_0_0 iu_18) dX11_feed_52 ?_
    refine lv_iload hx hb dX11_feed_55 (lv_at hl 5 rfl) ?_
    have q_21 : 0 ≤ u_18.1 1 1 ∧ u_18.1 1 1 ≤ 30000 := iu_18.fi 1 1 10 (by decide) rfl
    refine sBv (sV (As := [.int (iv e1)]) (rest := []) (k := 1) Cx (e_X10_putFour l G u_18 (o := 1) (k := e1) (N := 30000) iu_18 ⟨by decide, rfl, rfl, rfl, rfl, by decide⟩ (by omega) (by omega)) (c_X11_60 Cx rfl rfl (rmk_ok (by omega) (by decide))) hW (by decide) rfl rfl rfl hl.1 rfl (Nat.le_of_ble_eq_true rfl) dX11_feed_57 ⟨Nat.le_of_ble_eq_true rfl, Nat.le_of_ble_eq_true rfl⟩) hL (fun u_22 H locs k_23 hW hL => ?_)
    obtain ⟨iu_22, fu_22, xu_22⟩ := k_23
    have F_24 := F_20.trans fu_22
    refine lv_aload_n hx hb dX11_feed_60 rfl (lv_at hl 0 rfl) ?_
    refine g_X11_14 Cx hW (k := 0) (by decide) rfl (v := .ref (G.2.2.1 + 1)) (rf_0_0 iu_22) dX11_feed_61 ?_
    have q_25 : 0 ≤ u_22.1 1 1 ∧ u_22.1 1 1 ≤ 30000 := iu_22.fi 1 1 10 (by decide) rfl
    refine sBi (sV (As := []) (rest := []) (k := 1) Cx (s_X10_length l G u_22 (o := 1) (N := 30000) iu_22 ⟨by decide, rfl, rfl, rfl, rfl, by decide⟩) (c_X11_56 Cx rfl rfl (rmk_ok (by omega) (by decide))) hW (by decide) rfl rfl rfl hl.1 rfl (Nat.le_of_ble_eq_true rfl) dX11_feed_64 ⟨Nat.le_of_ble_eq_true rfl, Nat.le_of_ble_eq_true rfl⟩) hL (fun r_28 u_26 H locs k_27 hW hL => ?_)
    obtain ⟨eu_26, xu_26⟩ := k_27
    rw [eu_26] at hW
    exact sIret Cx hr hlk hW hL ⟨iu_22, F_24, ⟨(by omega), (fun h => absurd h (by omega)), (fun _ => ⟨_, _, _, _, xu_6.2, (by have y := xu_10.2; rw [show u_6.1 1 1 = S.1 1 1 + 4 by omega] at y; exact y), (by have y := xu_14.2; rw [show u_10.1 1 1 = S.1 1 1 + 8 by omega] at y; exact y), (by have y := xu_18.2; rw [show u_14.1 1 1 = S.1 1 1 + 12 by omega] at y; exact y), (by have y := xu_22.2; rw [show u_18.1 1 1 = S.1 1 1 + 16 by omega] at y; exact y)⟩)⟩⟩ dX11_feed_67
  · refine lv_iconst (v := iv (-1)) hx hb dX11_feed_16 (by decide) ?_
    exact sIret Cx hr hlk hW hL ⟨hI, (Fr.rf : Fr S S (pB 1)), ⟨(by omega), (fun _ => rfl), (fun h => absurd h (by omega))⟩⟩ dX11_feed_17

set_option maxRecDepth 100000 in
set_option maxHeartbeats 4000000 in
theorem e_X11_end (l : Launch) (G : sG) (S : sS) {n : Int} (hI : cX G S 0 0 0) (hn : -2147483648 ≤ n ∧ n ≤ 2147483647) : Met l yX11_end (.code yX11_end cX11_end 2 (some .boolean) :: tb) (rmk 2 0 0) (sPc G 294 S [.ref (G.2.2.1 + 0), .int (iv n)]) (sQi G 294 (fun r u => cX G u 0 0 0 ∧ Fr S u (pB 1) ∧ (((0 ≤ n ∧ n ≤ S.1 1 1 → r = 1 ∧ u.1 1 1 = n) ∧ (¬ (0 ≤ n ∧ n ≤ S.1 1 1) → r = 0 ∧ u.1 1 1 = S.1 1 1)) ∧ u.2.1 2 = S.2.1 2))) 0 0 (sF G) := by
  refine sEnter (by decide) (Nat.le_of_ble_eq_true rfl) ?_
  intro p e s m args below meth c Cx hr hlk hnm hW ls hl
  have Cx : sC G p m c cX11_end 2 s args RX11 := Cx
  obtain ⟨hx, hb, hml, hown, hts⟩ := id Cx.1
  have hL : sL G [] := sL_nil
  have hl : lv_has ls 2 [(0, .ref (G.2.2.1 + 0)), (1, .int (iv n))] := hl
  have hW0 := hW
  refine lv_aload_n hx hb dX11_end_0 rfl (lv_at hl 0 rfl) ?_
  refine g_X11_14 Cx hW (k := 0) (by decide) rfl (v := .ref (G.2.2.1 + 1)) (rf_0_0 hI) dX11_end_1 ?_
  refine lv_iload_n hx hb dX11_end_4 rfl (lv_at hl 1 rfl) ?_
  have q_1 : 0 ≤ S.1 1 1 ∧ S.1 1 1 ≤ 30000 := hI.fi 1 1 10 (by decide) rfl
  refine sBi (sV (As := [.int (iv n)]) (rest := []) (k := 1) Cx (e_X10_shorten l G S (o := 1) (k := n) (N := 30000) hI ⟨by decide, rfl, rfl, rfl, rfl, by decide⟩ (by omega)) (c_X11_63 Cx rfl rfl (rmk_ok (by omega) (by decide))) hW (by decide) rfl rfl rfl hl.1 rfl (Nat.le_of_ble_eq_true rfl) dX11_end_5 ⟨Nat.le_of_ble_eq_true rfl, Nat.le_of_ble_eq_true rfl⟩) hL (fun r_4 u_2 H locs k_3 hW hL => ?_)
  obtain ⟨iu_2, fu_2, xu_2⟩ := k_3
  have F_5 := (Fr.rf : Fr S S (pB 1)).trans fu_2
  have q_6 : 0 ≤ u_2.1 1 1 ∧ u_2.1 1 1 ≤ 30000 := iu_2.fi 1 1 10 (by decide) rfl
  exact sZret Cx hr hlk hW hL (by omega) ⟨iu_2, F_5, ⟨(by have y := xu_2.1; omega), xu_2.2⟩⟩ dX11_end_8
