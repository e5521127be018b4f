set_option maxRecDepth 100000 in
set_option maxHeartbeats 4000000 in
theorem e_X10_put (l : Launch) (G : sG) (S : sS) {o N : Nat} {k : Int} (hI : cX G S 0 0 0) (ht : txt o N) (hk : -2147483648 ≤ k ∧ k ≤ 2147483647) (hlt : S.1 o 1 < N) : Met l yX10_put (.code yX10_put cX10_put 2 none :: tb) (rmk 1 0 0) (sPc G 294 S [.ref (G.2.2.1 + o), .int (iv k)]) (sQv G 294 (fun u => cX G u 0 0 0 ∧ Fr S u (pB o) ∧ (u.1 o 1 = S.1 o 1 + 1 ∧ (∀ j, j ≠ S.1 o 1 → u.2.1 (o + 1) j = S.2.1 (o + 1) j) ∧ u.2.1 (o + 1) (S.1 o 1) = (k + 128) % 256 - 128))) 0 0 (sF G) := by
  refine sEnter (by decide) (Nat.le_of_ble_eq_true rfl) ?_
  intro p e s m args below meth c Cx hr hlk hnm hW ls hl
  have Cx : sC G p m c cX10_put 2 s args RX10 := Cx
  obtain ⟨hx, hb, hml, hown, hts⟩ := id Cx.1
  have hL : sL G [] := sL_nil
  have hl : lv_has ls 2 [(0, .ref (G.2.2.1 + o)), (1, .int (iv k))] := hl
  have hW0 := hW
  have hN3 := ht.2.2.2.2.2
  refine lv_aload_n hx hb dX10_put_0 rfl (lv_at hl 0 rfl) ?_
  have q_1 : 0 ≤ S.1 o 1 ∧ S.1 o 1 ≤ (N : Int) := txt_len ht hI
  refine g_X10_21 Cx hW (k := o) (Nat.lt_trans ht.1 (by decide)) ht.2.1 (v := S.1 o 1) rfl dX10_put_1 ?_
  refine lv_aload_n hx hb dX10_put_4 rfl (lv_at hl 0 rfl) ?_
  refine g_X10_15 Cx hW (k := o) (Nat.lt_trans ht.1 (by decide)) ht.2.1 (v := .ref (G.2.2.1 + (o + 1))) (hI.rq.2.1 o ht.1 ht.2.1) dX10_put_5 ?_
  refine sAlen Cx hW (k := o + 1) (txt_l1 ht) ht.2.2.1 2 rfl dX10_put_8 ?_
  refine r_icmp_lt (tgt := 18) hx hb ⟨(by omega), (by omega)⟩ ⟨(by omega), (by omega)⟩ dX10_put_9 (by decide) (fun _ => ?_) (fun c => absurd (by omega) c)
  refine lv_aload_n hx hb dX10_put_18 rfl (lv_at hl 0 rfl) ?_
  refine g_X10_15 Cx hW (k := o) (Nat.lt_trans ht.1 (by decide)) ht.2.1 (v := .ref (G.2.2.1 + (o + 1))) (hI.rq.2.1 o ht.1 ht.2.1) dX10_put_19 ?_
  refine lv_aload_n hx hb dX10_put_22 rfl (lv_at hl 0 rfl) ?_
  refine g_X10_21 Cx hW (k := o) (Nat.lt_trans ht.1 (by decide)) ht.2.1 (v := S.1 o 1) rfl dX10_put_23 ?_
  refine lv_iload_n hx hb dX10_put_26 rfl (lv_at hl 1 rfl) ?_
  refine r_i2bE hx hb ⟨(by omega), (by omega)⟩ dX10_put_27 (fun z_2 hz_2 kz_2 ez_2 => ?_)
  refine rBast Cx hW hL (k := o + 1) (txt_l1 ht) ht.2.2.1 (by omega) (by omega) (by omega) (nar_b (by omega) (by omega)) dX10_put_28 (fun H locs hW hL => ?_)
  have F_3 : Fr S (uA S (o + 1) (S.1 o 1) z_2) (pB o) := (Fr.rf : Fr S S (pB o)).A pB_1
  have i_4 : cX G (uA S (o + 1) (S.1 o 1) z_2) 0 0 0 := hI.byt ht ⟨by omega, by omega⟩
  refine lv_aload_n hx hb dX10_put_29 rfl (lv_at hl 0 rfl) ?_
  refine lv_dup hx hb dX10_put_30 rfl ?_
  refine g_X10_21 Cx hW (k := o) (Nat.lt_trans ht.1 (by decide)) ht.2.1 (v := S.1 o 1) uA_f dX10_put_31 ?_
  refine lv_iconst (v := iv 1) hx hb dX10_put_34 (by decide) ?_
  refine r_iadd hx hb dX10_put_35 ?_
  refine p_X10_21 Cx hW hL (k := o) (Nat.lt_trans ht.1 (by decide)) ht.2.1 dX10_put_36 (fun H locs hW hL => ?_)
  have F_5 : Fr S (uF (uA S (o + 1) (S.1 o 1) z_2) o 1 ((S.1 o 1) + 1)) (pB o) := F_3.F pB_0
  have i_6 : cX G (uF (uA S (o + 1) (S.1 o 1) z_2) o 1 ((S.1 o 1) + 1)) 0 0 0 := i_4.len ht ⟨by omega, by omega⟩
  have lk_7 : (uF (uA S (o + 1) (S.1 o 1) z_2) o 1 ((S.1 o 1) + 1)).1 o 1 = (S.1 o 1) + 1 := uF_on
  exact sVret Cx hr hlk hW hL ⟨i_6, F_5, ⟨(by omega), ⟨(fun j a => (uF_a).trans (uA_ne (fun h => a h.2))), ((uF_a).trans (uA_on)).trans (show z_2 = _ by omega)⟩⟩⟩ dX10_put_39

set_option maxRecDepth 100000 in
set_option maxHeartbeats 4000000 in
theorem e_X10_putFour (l : Launch) (G : sG) (S : sS) {o N : Nat} {k : Int} (hI : cX G S 0 0 0) (ht : txt o N) (hk : -2147483648 ≤ k ∧ k ≤ 2147483647) (hlt : S.1 o 1 + 4 ≤ N) : Met l yX10_putFour (.code yX10_putFour cX10_putFour 2 none :: tb) (rmk 2 0 0) (sPc G 294 S [.ref (G.2.2.1 + o), .int (iv k)]) (sQv G 294 (fun u => cX G u 0 0 0 ∧ Fr S u (pB o) ∧ (u.1 o 1 = S.1 o 1 + 4 ∧ LYb (S.2.1 (o + 1)) (u.2.1 (o + 1)) (S.1 o 1) k))) 0 0 (sF G) := by
  refine sEnter (by decide) (Nat.le_of_ble_eq_true rfl) ?_
  intro p e s m args below meth c Cx hr hlk hnm hW ls hl
  have Cx : sC G p m c cX10_putFour 2 s args RX10 := Cx
  obtain ⟨hx, hb, hml, hown, hts⟩ := id Cx.1
  have hL : sL G [] := sL_nil
  have hl : lv_has ls 2 [(0, .ref (G.2.2.1 + o)), (1, .int (iv k))] := hl
  have hW0 := hW
  have hN3 := ht.2.2.2.2.2
  refine lv_aload_n hx hb dX10_putFour_0 rfl (lv_at hl 0 rfl) ?_
  refine lv_iload_n hx hb dX10_putFour_1 rfl (lv_at hl 1 rfl) ?_
  refine lv_bipush (v := iv 24) hx hb dX10_putFour_2 (by decide) ?_
  refine r_iushrX hx hb (n := 24) (D := 16777216) ⟨(by omega), (by omega)⟩ (by decide) rfl (by decide) dX10_putFour_4 (fun z_1 hz_1 kz_1 ez_1 => ?_)
  have q_2 : 0 ≤ S.1 o 1 ∧ S.1 o 1 ≤ (N : Int) := txt_len ht hI
  refine sBv (sV (As := [.int (iv z_1)]) (rest := []) (k := o) Cx (e_X10_put l G S (o := o) (k := z_1) (N := N) hI ht (by omega) (by omega)) (c_X10_29 Cx rfl rfl (rmk_ok (by omega) (by decide))) hW (Nat.lt_trans ht.1 (by decide)) ht.2.1 rfl rfl hl.1 rfl (Nat.le_of_ble_eq_true rfl) dX10_putFour_5 ⟨Nat.le_of_ble_eq_true rfl, Nat.le_of_ble_eq_true rfl⟩) hL (fun u_3 H locs k_4 hW hL => ?_)
  obtain ⟨iu_3, fu_3, xu_3⟩ := k_4
  have F_5 := (Fr.rf : Fr S S (pB o)).trans fu_3
  refine lv_aload_n hx hb dX10_putFour_8 rfl (lv_at hl 0 rfl) ?_
  refine lv_iload_n hx hb dX10_putFour_9 rfl (lv_at hl 1 rfl) ?_
  refine lv_bipush (v := iv 16) hx hb dX10_putFour_10 (by decide) ?_
  refine r_iushrX hx hb (n := 16) (D := 65536) ⟨(by omega), (by omega)⟩ (by decide) rfl (by decide) dX10_putFour_12 (fun z_6 hz_6 kz_6 ez_6 => ?_)
  have q_7 : 0 ≤ u_3.1 o 1 ∧ u_3.1 o 1 ≤ (N : Int) := txt_len ht iu_3
  refine sBv (sV (As := [.int (iv z_6)]) (rest := []) (k := o) Cx (e_X10_put l G u_3 (o := o) (k := z_6) (N := N) iu_3 ht (by omega) (by omega)) (c_X10_29 Cx rfl rfl (rmk_ok (by omega) (by decide))) hW (Nat.lt_trans ht.1 (by decide)) ht.2.1 rfl rfl hl.1 rfl (Nat.le_of_ble_eq_true rfl) dX10_putFour_13 ⟨Nat.le_of_ble_eq_true rfl, Nat.le_of_ble_eq_true rfl⟩) hL (fun u_8 H locs k_9 hW hL => ?_)
  obtain ⟨iu_8, fu_8, xu_8⟩ := k_9
  have F_10 := F_5.trans fu_8
  refine lv_aload_n hx hb dX10_putFour_16 rfl (lv_at hl 0 rfl) ?_
  refine lv_iload_n hx hb dX10_putFour_17 rfl (lv_at hl 1 rfl) ?_
  refine lv_bipush (v := iv 8) hx hb dX10_putFour_18 (by decide) ?_
  refine r_iushrX hx hb (n := 8) (D := 256) ⟨(by omega), (by omega)⟩ (by decide) rfl (by decide) dX10_putFour_20 (fun z_11 hz_11 kz_11 ez_11 => ?_)
  have q_12 : 0 ≤ u_8.1 o 1 ∧ u_8.1 o 1 ≤ (N : Int) := txt_len ht iu_8
  refine sBv (sV (As := [.int (iv z_11)]) (rest := []) (k := o) Cx (e_X10_put l G u_8 (o := o) (k := z_11) (N := N) iu_8 ht (by omega) (by omega)) (c_X10_29 Cx rfl rfl (rmk_ok (by omega) (by decide))) hW (Nat.lt_trans ht.1 (by decide)) ht.2.1 rfl rfl hl.1 rfl (Nat.le_of_ble_eq_true rfl) dX10_putFour_21 ⟨Nat.le_of_ble_eq_true rfl, Nat.le_of_ble_eq_true rfl⟩) hL (fun u_13 H locs k_14 hW hL => ?_)
  obtain ⟨iu_13, fu_13, xu_13⟩ := k_14
  have F_15 := F_10.trans fu_13
  refine lv_aload_n hx hb dX10_putFour_24 rfl (lv_at hl 0 rfl) ?_
  refine lv_iload_n hx hb dX10_putFour_25 rfl (lv_at hl 1 rfl) ?_
  have q_16 : 0 ≤ u_13.1 o 1 ∧ u_13.1 o 1 ≤ (N : Int) := txt_len ht iu_13
  refine sBv (sV (As := [.int (iv k)]) (rest := []) (k := o) Cx (e_X10_put l G u_13 (o := o) (k := k) (N := N) iu_13 ht (by omega) (by omega)) (c_X10_29 Cx rfl rfl (rmk_ok (by omega) (by decide))) hW (Nat.lt_trans ht.1 (by decide)) ht.2.1 rfl rfl hl.1 rfl (Nat.le_of_ble_eq_true rfl) dX10_putFour_26 ⟨Nat.le_of_ble_eq_true rfl, Nat.le_of_ble_eq_true rfl⟩) hL (fun u_17 H locs k_18 hW hL => ?_)
  obtain ⟨iu_17, fu_17, xu_17⟩ := k_18
  have F_19 := F_15.trans fu_17
  have q_20 : 0 ≤ u_17.1 o 1 ∧ u_17.1 o 1 ≤ (N : Int) := txt_len ht iu_17
  exact sVret Cx hr hlk hW hL ⟨iu_17, F_19, ⟨(by omega), LYb.mk (z1 := _) (z2 := _) (z3 := _) (z4 := _) xu_3.2 (by have y := xu_8.2; rw [show u_3.1 o 1 = S.1 o 1 + 1 by omega] at y; exact y) (by have y := xu_13.2; rw [show u_8.1 o 1 = S.1 o 1 + 2 by omega] at y; exact y) (by have y := xu_17.2; rw [show u_13.1 o 1 = S.1 o 1 + 3 by omega] at y; exact y) (by unfold bys; omega) (by unfold bys; omega) (by unfold bys; omega) (by unfold bys; omega)⟩⟩ dX10_putFour_29

set_option maxRecDepth 100000 in
set_option maxHeartbeats 4000000 in
theorem e_X10_shorten (l : Launch) (G : sG) (S : sS) {o N : Nat} {k : Int} (hI : cX G S 0 0 0) (ht : txt o N) (hk : -2147483648 ≤ k ∧ k ≤ 2147483647) : Met l yX10_shorten (.code yX10_shorten cX10_shorten 2 (some .boolean) :: tb) (rmk 1 0 0) (sPc G 294 S [.ref (G.2.2.1 + o), .int (iv k)]) (sQi G 294 (fun r u => cX G u 0 0 0 ∧ Fr S u (pB o) ∧ (((0 ≤ k ∧ k ≤ S.1 o 1 → r = 1 ∧ u.1 o 1 = k) ∧ (¬ (0 ≤ k ∧ k ≤ S.1 o 1) → r = 0 ∧ u.1 o 1 = S.1 o 1)) ∧ u.2.1 (o + 1) = S.2.1 (o + 1)))) 0 0 (sF G) := by
  refine sEnter (by decide) (Nat.le_of_ble_eq_true rfl) ?_
  intro p e s m args below meth c Cx hr hlk hnm hW ls hl
  have Cx : sC G p m c cX10_shorten 2 s args RX10 := Cx
  obtain ⟨hx, hb, hml, hown, hts⟩ := id Cx.1
  have hL : sL G [] := sL_nil
  have hl : lv_has ls 2 [(0, .ref (G.2.2.1 + o)), (1, .int (iv k))] := hl
  have hW0 := hW
  have hN3 := ht.2.2.2.2.2
  refine lv_iload_n hx hb dX10_shorten_0 rfl (lv_at hl 1 rfl) ?_
  refine r_if_lt (tgt := 12) hx hb ⟨(by omega), (by omega)⟩ dX10_shorten_1 (by decide) (fun c_1 => ?_) (fun c_1 => ?_)
  · refine lv_iconst (v := iv 0) hx hb dX10_shorten_12 (by decide) ?_
    have q_2 : 0 ≤ S.1 o 1 ∧ S.1 o 1 ≤ (N : Int) := txt_len ht hI
    have q_3 : 0 ≤ S.1 o 2 ∧ S.1 o 2 ≤ 1 := hI.fi o 2 10 ht.1 ht.2.1
    exact sZret Cx hr hlk hW hL (by omega) ⟨hI, (Fr.rf : Fr S S (pB o)), ⟨(by omega), rfl⟩⟩ dX10_shorten_13
  · refine lv_iload_n hx hb dX10_shorten_4 rfl (lv_at hl 1 rfl) ?_
    refine lv_aload_n hx hb dX10_shorten_5 rfl (lv_at hl 0 rfl) ?_
    have q_4 : 0 ≤ S.1 o 1 ∧ S.1 o 1 ≤ (N : Int) := txt_len ht hI
    refine g_X10_21 Cx hW (k := o) (Nat.lt_trans ht.1 (by decide)) ht.2.1 (v := S.1 o 1) rfl dX10_shorten_6 ?_
    refine r_icmp_le (tgt := 14) hx hb ⟨(by omega), (by omega)⟩ ⟨(by omega), (by omega)⟩ dX10_shorten_9 (by decide) (fun c_5 => ?_) (fun c_5 => ?_)
    · refine lv_aload_n hx hb dX10_shorten_14 rfl (lv_at hl 0 rfl) ?_
      refine lv_iload_n hx hb dX10_shorten_15 rfl (lv_at hl 1 rfl) ?_
      refine p_X10_21 Cx hW hL (k := o) (Nat.lt_trans ht.1 (by decide)) ht.2.1 dX10_shorten_16 (fun H locs hW hL => ?_)
      have F_6 : Fr S (uF S o 1 k) (pB o) := (Fr.rf : Fr S S (pB o)).F pB_0
      have i_7 : cX G (uF S o 1 k) 0 0 0 := hI.len ht ⟨by omega, by omega⟩
      refine lv_iconst (v := iv 1) hx hb dX10_shorten_19 (by decide) ?_
      have lk_8 : (uF S o 1 k).1 o 1 = k := uF_on
      have q_9 : 0 ≤ S.1 o 2 ∧ S.1 o 2 ≤ 1 := hI.fi o 2 10 ht.1 ht.2.1
      have lk_10 : (uF S o 1 k).1 o 2 = S.1 o 2 := uF_ne (fun h => absurd h.2 (by decide))
      exact sZret Cx hr hlk hW hL (by omega) ⟨i_7, F_6, ⟨(by omega), rfl⟩⟩ dX10_shorten_20
    · refine lv_iconst (v := iv 0) hx hb dX10_shorten_12 (by decide) ?_
      have q_11 : 0 ≤ S.1 o 2 ∧ S.1 o 2 ≤ 1 := hI.fi o 2 10 ht.1 ht.2.1
      exact sZret Cx hr hlk hW hL (by omega) ⟨hI, (Fr.rf : Fr S S (pB o)), ⟨(by omega), rfl⟩⟩ dX10_shorten_13

set_option maxRecDepth 100000 in
set_option maxHeartbeats 4000000 in
theorem e_X11_feed (l : Launch) (G : sG) (S : sS) {a b c1 d1 e1 : Int} (hI : cX G S 0 0 0) (ha : -2147483648 ≤ a ∧ a ≤ 2147483647) (hb : -2147483648 ≤ b ∧ b ≤ 2147483647) (hc1 : -2147483648 ≤ c1 ∧ c1 ≤ 2147483647) (hd1 : -2147483648 ≤ d1 ∧ d1 ≤ 2147483647) (he1 : -2147483648 ≤ e1 ∧ e1 ≤ 2147483647) : Met l yX11_feed (.code yX11_feed cX11_feed 6 (some .int) :: tb) (rmk 3 0 0) (sPc G 294 S [.ref (G.2.2.1 + 0), .int (iv a), .int (iv b), .int (iv c1), .int (iv d1), .int (iv e1)]) (sQi G 294 (fun r u => cX G u 0 0 0 ∧ Fr S u (pB 1) ∧ (((S.1 1 1 + 20 ≤ 30000 → r = S.1 1 1 + 20 ∧ u.1 1 1 = S.1 1 1 + 20) ∧ (30000 < S.1 1 1 + 20 → r = -1 ∧ u.1 1 1 = S.1 1 1)) ∧ Hd (30000 < S.1 1 1 + 20 → u.2.1 2 = S.2.1 2) ∧ Hd (S.1 1 1 + 20 ≤ 30000 → FDb (S.2.1 2) (u.2.1 2) (S.1 1 1) a b c1 d1 e1)))) 0 0 (sF G) := by
  refine sEnter (by decide) (Nat.le_of_ble_eq_true rfl) ?_
  intro p e s m args below meth c Cx hr hlk hnm hW ls hl
  have Cx : sC G p m c cX11_feed 6 s args RX11 := Cx
  obtain ⟨hx, hb, hml, hown, hts⟩ := id Cx.1
  have hL : sL G [] := sL_nil
  have hl : lv_has ls 6 [(0, .ref (G.2.2.1 + 0)), (1, .int (iv a)), (2, .int (iv b)), (3, .int (iv c1)), (4, .int (iv d1)), (5, .int (iv e1))] := hl
  have hW0 := hW
  refine lv_aload_n hx hb dX11_feed_0 rfl (lv_at hl 0 rfl) ?_
  refine g_X11_14 Cx hW (k := 0) (by decide) rfl (v := .ref (G.2.2.1 + 1)) (rf_0_0 hI) dX11_feed_1 ?_
  have q_1 : 0 ≤ S.1 1 1 ∧ S.1 1 1 ≤ 30000 := hI.fi 1 1 10 (by decide) rfl
  refine sBi (sV (As := []) (rest := []) (k := 1) Cx (s_X10_length l G S (o := 1) (N := 30000) hI ⟨by decide, rfl, rfl, rfl, rfl, by decide⟩) (c_X11_56 Cx rfl rfl (rmk_ok (by omega) (by decide))) hW (by decide) rfl rfl rfl hl.1 rfl (Nat.le_of_ble_eq_true rfl) dX11_feed_4 ⟨Nat.le_of_ble_eq_true rfl, Nat.le_of_ble_eq_true rfl⟩) hL (fun r_4 u_2 H locs k_3 hW hL => ?_)
  obtain ⟨eu_2, xu_2⟩ := k_3
  rw [eu_2] at hW
  refine lv_bipush (v := iv 20) hx hb dX11_feed_7 (by decide) ?_
  refine r_iadd hx hb dX11_feed_9 ?_
  refine lv_sipush (v := iv 30000) hx hb dX11_feed_10 (by decide) ?_
  refine r_icmp_le (tgt := 18) hx hb ⟨(by omega), (by omega)⟩ ⟨(by omega), (by omega)⟩ dX11_feed_13 (by decide) (fun c_5 => ?_) (fun c_5 => ?_)
  · refine lv_aload_n hx hb dX11_feed_18 rfl (lv_at hl 0 rfl) ?_
    refine g_X11_14 Cx hW (k := 0) (by decide) rfl (v := .ref (G.2.2.1 + 1)) (rf_0_0 hI) dX11_feed_19 ?_
    refine lv_iload_n hx hb dX11_feed_22 rfl (lv_at hl 1 rfl) ?_
    refine sBv (sV (As := [.int (iv a)]) (rest := []) (k := 1) Cx (e_X10_putFour l G S (o := 1) (k := a) (N := 30000) hI ⟨by decide, rfl, rfl, rfl, rfl, by decide⟩ (by omega) (by omega)) (c_X11_60 Cx rfl rfl (rmk_ok (by omega) (by decide))) hW (by decide) rfl rfl rfl hl.1 rfl (Nat.le_of_ble_eq_true rfl) dX11_feed_23 ⟨Nat.le_of_ble_eq_true rfl, Nat.le_of_ble_eq_true rfl⟩) hL (fun u_6 H locs k_7 hW hL => ?_)
    obtain ⟨iu_6, fu_6, xu_6⟩ := k_7
    have F_8 := (Fr.rf : Fr S S (pB 1)).trans fu_6
    refine lv_aload_n hx hb dX11_feed_26 rfl (lv_at hl 0 rfl) ?_
    refine g_X11_14 Cx hW (k := 0) (by decide) rfl (v := .ref (G.2.2.1 + 1)) (rf_0_0 iu_6) dX11_feed_27 ?_
    refine lv_iload_n hx hb dX11_feed_30 rfl (lv_at hl 2 rfl) ?_
    have q_9 : 0 ≤ u_6.1 1 1 ∧ u_6.1 1 1 ≤ 30000 := iu_6.fi 1 1 10 (by decide) rfl
    refine sBv (sV (As := [.int (iv b)]) (rest := []) (k := 1) Cx (e_X10_putFour l G u_6 (o := 1) (k := b) (N := 30000) iu_6 ⟨by decide, rfl, rfl, rfl, rfl, by decide⟩ (by omega) (by omega)) (c_X11_60 Cx rfl rfl (rmk_ok (by omega) (by decide))) hW (by decide) rfl rfl rfl hl.1 rfl (Nat.le_of_ble_eq_true rfl) dX11_feed_31 ⟨Nat.le_of_ble_eq_true rfl, Nat.le_of_ble_eq_true rfl⟩) hL (fun u_10 H locs k_11 hW hL => ?_)
    obtain ⟨iu_10, fu_10, xu_10⟩ := k_11
    have F_12 := F_8.trans fu_10
    refine lv_aload_n hx hb dX11_feed_34 rfl (lv_at hl 0 rfl) ?_
    refine g_X11_14 Cx hW (k := 0) (by decide) rfl (v := .ref (G.2.2.1 + 1)) (rf_0_0 iu_10) dX11_feed_35 ?_
    refine lv_iload_n hx hb dX11_feed_38 rfl (lv_at hl 3 rfl) ?_
    have q_13 : 0 ≤ u_10.1 1 1 ∧ u_10.1 1 1 ≤ 30000 := iu_10.fi 1 1 10 (by decide) rfl
    refine sBv (sV (As := [.int (iv c1)]) (rest := []) (k := 1) Cx (e_X10_putFour l G u_10 (o := 1) (k := c1) (N := 30000) iu_10 ⟨by decide, rfl, rfl, rfl, rfl, by decide⟩ (by omega) (by omega)) (c_X11_60 Cx rfl rfl (rmk_ok (by omega) (by decide))) hW (by decide) rfl rfl rfl hl.1 rfl (Nat.le_of_ble_eq_true rfl) dX11_feed_39 ⟨Nat.le_of_ble_eq_true rfl, Nat.le_of_ble_eq_true rfl⟩) hL (fun u_14 H locs k_15 hW hL => ?_)
    obtain ⟨iu_14, fu_14, xu_14⟩ := k_15
    have F_16 := F_12.trans fu_14
    refine lv_aload_n hx hb dX11_feed_42 rfl (lv_at hl 0 rfl) ?_
    refine g_X11_14 Cx hW (k := 0) (by decide) rfl (v := .ref (G.2.2.1 + 1)) (rf_0_0 iu_14) dX11_feed_43 ?_
    refine lv_iload hx hb dX11_feed_46 (lv_at hl 4 rfl) ?_
    have q_17 : 0 ≤ u_14.1 1 1 ∧ u_14.1 1 1 ≤ 30000 := iu_14.fi 1 1 10 (by decide) rfl
    refine sBv (sV (As := [.int (iv d1)]) (rest := []) (k := 1) Cx (e_X10_putFour l G u_14 (o := 1) (k := d1) (N := 30000) iu_14 ⟨by decide, rfl, rfl, rfl, rfl, by decide⟩ (by omega) (by omega)) (c_X11_60 Cx rfl rfl (rmk_ok (by omega) (by decide))) hW (by decide) rfl rfl rfl hl.1 rfl (Nat.le_of_ble_eq_true rfl) dX11_feed_48 ⟨Nat.le_of_ble_eq_true rfl, Nat.le_of_ble_eq_true rfl⟩) hL (fun u_18 H locs k_19 hW hL => ?_)
    obtain ⟨iu_18, fu_18, xu_18⟩ := k_19
    have F_20 := F_16.trans fu_18
    refine lv_aload_n hx hb dX11_feed_51 rfl (lv_at hl 0 rfl) ?_
    refine g_X11_14 Cx hW (k := 0) (by decide) rfl (v := .ref (G.2.2.1 + 1)) (rf_0_0 iu_18) dX11_feed_52 ?_
    refine lv_iload hx hb dX11_feed_55 (lv_at hl 5 rfl) ?_
    have q_21 : 0 ≤ u_18.1 1 1 ∧ u_18.1 1 1 ≤ 30000 := iu_18.fi 1 1 10 (by decide) rfl
    refine sBv (sV (As := [.int (iv e1)]) (rest := []) (k := 1) Cx (e_X10_putFour l G u_18 (o := 1) (k := e1) (N := 30000) iu_18 ⟨by decide, rfl, rfl, rfl, rfl, by decide⟩ (by omega) (by omega)) (c_X11_60 Cx rfl rfl (rmk_ok (by omega) (by decide))) hW (by decide) rfl rfl rfl hl.1 rfl (Nat.le_of_ble_eq_true rfl) dX11_feed_57 ⟨Nat.le_of_ble_eq_true rfl, Nat.le_of_ble_eq_true rfl⟩) hL (fun u_22 H locs k_23 hW hL => ?_)
    obtain ⟨iu_22, fu_22, xu_22⟩ := k_23
    have F_24 := F_20.trans fu_22
    refine lv_aload_n hx hb dX11_feed_60 rfl (lv_at hl 0 rfl) ?_
    refine g_X11_14 Cx hW (k := 0) (by decide) rfl (v := .ref (G.2.2.1 + 1)) (rf_0_0 iu_22) dX11_feed_61 ?_
    have q_25 : 0 ≤ u_22.1 1 1 ∧ u_22.1 1 1 ≤ 30000 := iu_22.fi 1 1 10 (by decide) rfl
    refine sBi (sV (As := []) (rest := []) (k := 1) Cx (s_X10_length l G u_22 (o := 1) (N := 30000) iu_22 ⟨by decide, rfl, rfl, rfl, rfl, by decide⟩) (c_X11_56 Cx rfl rfl (rmk_ok (by omega) (by decide))) hW (by decide) rfl rfl rfl hl.1 rfl (Nat.le_of_ble_eq_true rfl) dX11_feed_64 ⟨Nat.le_of_ble_eq_true rfl, Nat.le_of_ble_eq_true rfl⟩) hL (fun r_28 u_26 H locs k_27 hW hL => ?_)
    obtain ⟨eu_26, xu_26⟩ := k_27
    rw [eu_26] at hW
    exact sIret Cx hr hlk hW hL ⟨iu_22, F_24, ⟨(by omega), (fun h => absurd h (by omega)), (fun _ => ⟨_, _, _, _, xu_6.2, (by have y := xu_10.2; rw [show u_6.1 1 1 = S.1 1 1 + 4 by omega] at y; exact y), (by have y := xu_14.2; rw [show u_10.1 1 1 = S.1 1 1 + 8 by omega] at y; exact y), (by have y := xu_18.2; rw [show u_14.1 1 1 = S.1 1 1 + 12 by omega] at y; exact y), (by have y := xu_22.2; rw [show u_18.1 1 1 = S.1 1 1 + 16 by omega] at y; exact y)⟩)⟩⟩ dX11_feed_67
  · refine lv_iconst (v := iv (-1)) hx hb dX11_feed_16 (by decide) ?_
    exact sIret Cx hr hlk hW hL ⟨hI, (Fr.rf : Fr S S (pB 1)), ⟨(by omega), (fun _ => rfl), (fun h => absurd h (by omega))⟩⟩ dX11_feed_17

set_option maxRecDepth 100000 in
set_option maxHeartbeats 4000000 in
theorem e_X11_end (l : Launch) (G : sG) (S : sS) {n : Int} (hI : cX G S 0 0 0) (hn : -2147483648 ≤ n ∧ n ≤ 2147483647) : Met l yX11_end (.code yX11_end cX11_end 2 (some .boolean) :: tb) (rmk 2 0 0) (sPc G 294 S [.ref (G.2.2.1 + 0), .int (iv n)]) (sQi G 294 (fun r u => cX G u 0 0 0 ∧ Fr S u (pB 1) ∧ (((0 ≤ n ∧ n ≤ S.1 1 1 → r = 1 ∧ u.1 1 1 = n) ∧ (¬ (0 ≤ n ∧ n ≤ S.1 1 1) → r = 0 ∧ u.1 1 1 = S.1 1 1)) ∧ u.2.1 2 = S.2.1 2))) 0 0 (sF G) := by
  refine sEnter (by decide) (Nat.le_of_ble_eq_true rfl) ?_
  intro p e s m args below meth c Cx hr hlk hnm hW ls hl
  have Cx : sC G p m c cX11_end 2 s args RX11 := Cx
  obtain ⟨hx, hb, hml, hown, hts⟩ := id Cx.1
  have hL : sL G [] := sL_nil
  have hl : lv_has ls 2 [(0, .ref (G.2.2.1 + 0)), (1, .int (iv n))] := hl
  have hW0 := hW
  refine lv_aload_n hx hb dX11_end_0 rfl (lv_at hl 0 rfl) ?_
  refine g_X11_14 Cx hW (k := 0) (by decide) rfl (v := .ref (G.2.2.1 + 1)) (rf_0_0 hI) dX11_end_1 ?_
  refine lv_iload_n hx hb dX11_end_4 rfl (lv_at hl 1 rfl) ?_
  have q_1 : 0 ≤ S.1 1 1 ∧ S.1 1 1 ≤ 30000 := hI.fi 1 1 10 (by decide) rfl
  refine sBi (sV (As := [.int (iv n)]) (rest := []) (k := 1) Cx (e_X10_shorten l G S (o := 1) (k := n) (N := 30000) hI ⟨by decide, rfl, rfl, rfl, rfl, by decide⟩ (by omega)) (c_X11_63 Cx rfl rfl (rmk_ok (by omega) (by decide))) hW (by decide) rfl rfl rfl hl.1 rfl (Nat.le_of_ble_eq_true rfl) dX11_end_5 ⟨Nat.le_of_ble_eq_true rfl, Nat.le_of_ble_eq_true rfl⟩) hL (fun r_4 u_2 H locs k_3 hW hL => ?_)
  obtain ⟨iu_2, fu_2, xu_2⟩ := k_3
  have F_5 := (Fr.rf : Fr S S (pB 1)).trans fu_2
  have q_6 : 0 ≤ u_2.1 1 1 ∧ u_2.1 1 1 ≤ 30000 := iu_2.fi 1 1 10 (by decide) rfl
  exact sZret Cx hr hlk hW hL (by omega) ⟨iu_2, F_5, ⟨(by have y := xu_2.1; omega), xu_2.2⟩⟩ dX11_end_8

set_option maxRecDepth 100000 in
set_option maxHeartbeats 4000000 in
theorem e_X11_tell (l : Launch) (G : sG) (S : sS) {b : Int → Int} (hI : cX G S 0 0 0) (hag : Hd (agr (S.2.1 2) b (S.1 1 1))) : Met l yX11_tell (.code yX11_tell cX11_tell 2 (some .int) :: tb) (rmk 136 0 0) (sPc G 294 S [.ref (G.2.2.1 + 0)]) (sQi G 294 (fun r u => cX G u 0 0 0 ∧ Fr S u pA ∧ (u.1 1 1 = 0 ∧ (0 ≤ r ∧ r ≤ 7) ∧ Hd (r = 0 → tOK b (S.1 1 1) ∧ u.1 0 7 = 1) ∧ Hd (r ≠ 0 → ¬ tOK b (S.1 1 1) ∧ u.1 0 7 = S.1 0 7)))) 0 0 (sF G) := by
  refine sEnter (by decide) (Nat.le_of_ble_eq_true rfl) ?_
  intro p e s m args below meth c Cx hr hlk hnm hW ls hl
  have Cx : sC G p m c cX11_tell 2 s args RX11 := Cx
  obtain ⟨hx, hb, hml, hown, hts⟩ := id Cx.1
  have hL : sL G [] := sL_nil
  have hl : lv_has ls 2 [(0, .ref (G.2.2.1 + 0))] := hl
  have hW0 := hW
  refine lv_aload_n hx hb dX11_tell_0 rfl (lv_at hl 0 rfl) ?_
  refine lv_aload_n hx hb dX11_tell_1 rfl (lv_at hl 0 rfl) ?_
  refine g_X11_34 Cx hW (k := 0) (by decide) rfl (v := .ref (G.2.2.1 + 11)) (rf_0_2 hI) dX11_tell_2 ?_
  refine lv_aload_n hx hb dX11_tell_5 rfl (lv_at hl 0 rfl) ?_
  refine g_X11_14 Cx hW (k := 0) (by decide) rfl (v := .ref (G.2.2.1 + 1)) (rf_0_0 hI) dX11_tell_6 ?_
  refine lv_aload_n hx hb dX11_tell_9 rfl (lv_at hl 0 rfl) ?_
  obtain ⟨o_1, mo_1, eo_1⟩ := rm_0_6 hI
  refine g_X11_28 Cx hW (k := 0) (by decide) rfl (v := .ref (G.2.2.1 + o_1)) eo_1 dX11_tell_10 ?_
  have q_2 : 0 ≤ S.1 1 1 ∧ S.1 1 1 ≤ 30000 := hI.fi 1 1 10 (by decide) rfl
  refine sBi (sV (As := [.ref (G.2.2.1 + 1), .ref (G.2.2.1 + o_1)]) (rest := [.ref (G.2.2.1 + 0)]) (k := 11) Cx (e_X9_read l G S (t := 1) (o := o_1) (N := 30000) (b := b) hI ⟨by decide, rfl, rfl, rfl, rfl, by decide⟩ mo_1 hag) (c_X11_67 Cx rfl rfl (rmk_ok (by omega) (by decide))) hW (by decide) rfl rfl rfl hl.1 rfl (Nat.le_of_ble_eq_true rfl) dX11_tell_13 ⟨Nat.le_of_ble_eq_true rfl, Nat.le_of_ble_eq_true rfl⟩) hL (fun r_5 u_3 H locs k_4 hW hL => ?_)
  obtain ⟨iu_3, fu_3, xu_3⟩ := k_4
  have F_6 := (Fr.rf : Fr S S pA).trans (fu_3.to (fun k h => pC_A k (pI_C k h)))
  refine p_X11_71 Cx hW hL (k := 0) (by decide) rfl dX11_tell_16 (fun H locs hW hL => ?_)
  have F_7 : Fr S (uF u_3 0 9 r_5) pA := F_6.F rfl
  have i_8 : cX G (uF u_3 0 9 r_5) 0 0 0 := iu_3.F rfl rfl (show (-2147483648) ≤ r_5 ∧ r_5 ≤ 2147483647 from ⟨by omega, by omega⟩)
  refine lv_aload_n hx hb dX11_tell_19 rfl (lv_at hl 0 rfl) ?_
  refine lv_aload_n hx hb dX11_tell_20 rfl (lv_at hl 0 rfl) ?_
  refine g_X11_34 Cx hW (k := 0) (by decide) rfl (v := .ref (G.2.2.1 + 11)) (rf_0_2 i_8) dX11_tell_21 ?_
  refine sBi (sV (As := []) (rest := [.ref (G.2.2.1 + 0)]) (k := 11) Cx (s_X9_faultPlace l G (uF u_3 0 9 r_5)  i_8) (c_X11_74 Cx rfl rfl (rmk_ok (by omega) (by decide))) hW (by decide) rfl rfl rfl hl.1 rfl (Nat.le_of_ble_eq_true rfl) dX11_tell_24 ⟨Nat.le_of_ble_eq_true rfl, Nat.le_of_ble_eq_true rfl⟩) hL (fun r_11 u_9 H locs k_10 hW hL => ?_)
  obtain ⟨eu_9, xu_9⟩ := k_10
  rw [eu_9] at hW
  refine p_X11_52 Cx hW hL (k := 0) (by decide) rfl dX11_tell_27 (fun H locs hW hL => ?_)
  have F_12 : Fr S (uF (uF u_3 0 9 r_5) 0 10 r_11) pA := F_7.F rfl
  have i_13 : cX G (uF (uF u_3 0 9 r_5) 0 10 r_11) 0 0 0 := i_8.F rfl rfl (show (-2147483648) ≤ r_11 ∧ r_11 ≤ 2147483647 from ⟨by omega, by omega⟩)
  refine lv_aload_n hx hb dX11_tell_30 rfl (lv_at hl 0 rfl) ?_
  refine g_X11_14 Cx hW (k := 0) (by decide) rfl (v := .ref (G.2.2.1 + 1)) (rf_0_0 i_13) dX11_tell_31 ?_
  refine sBv (sV (As := []) (rest := []) (k := 1) Cx (s_X10_clear l G (uF (uF u_3 0 9 r_5) 0 10 r_11) (o := 1) (N := 30000) i_13 ⟨by decide, rfl, rfl, rfl, rfl, by decide⟩) (c_X11_76 Cx rfl rfl (rmk_ok (by omega) (by decide))) hW (by decide) rfl rfl rfl hl.1 rfl (Nat.le_of_ble_eq_true rfl) dX11_tell_34 ⟨Nat.le_of_ble_eq_true rfl, Nat.le_of_ble_eq_true rfl⟩) hL (fun u_14 H locs k_15 hW hL => ?_)
  obtain ⟨iu_14, fu_14, xu_14⟩ := k_15
  have F_16 := F_12.trans (fu_14.to (pB_sub rfl rfl))
  refine lv_aload_n hx hb dX11_tell_37 rfl (lv_at hl 0 rfl) ?_
  refine g_X11_71 Cx hW (k := 0) (by decide) rfl (v := r_5) (((fu_14 0 rfl).1 9).trans ((uF_ne (fun h => absurd h.2 (by decide))).trans (uF_on))) dX11_tell_38 ?_
  refine r_if_ne (tgt := 72) hx hb ⟨(by omega), (by omega)⟩ dX11_tell_41 (by decide) (fun c_17 => ?_) (fun c_17 => ?_)
  · refine lv_aload_n hx hb dX11_tell_72 rfl (lv_at hl 0 rfl) ?_
    refine g_X11_71 Cx hW (k := 0) (by decide) rfl (v := r_5) (((fu_14 0 rfl).1 9).trans ((uF_ne (fun h => absurd h.2 (by decide))).trans (uF_on))) dX11_tell_73 ?_
    have q_18 : 0 ≤ u_14.1 1 1 ∧ u_14.1 1 1 ≤ 30000 := iu_14.fi 1 1 10 (by decide) rfl
    have q_19 : 0 ≤ S.1 0 7 ∧ S.1 0 7 ≤ 1 := hI.fi 0 7 11 (by decide) rfl
    have lk_20 : u_14.1 0 7 = S.1 0 7 := ((fu_14 0 rfl).1 7).trans ((uF_ne (fun h => absurd h.2 (by decide))).trans ((uF_ne (fun h => absurd h.2 (by decide))).trans ((fu_3 0 rfl).1 7)))
    exact sIret Cx hr hlk hW hL ⟨iu_14, F_16, ⟨(by omega), (by have y := xu_3.1; omega), (fun h => absurd h (by omega)), (fun _ => ⟨(fun z => absurd (xu_3.2.2 z) (by omega)), (show u_14.1 0 7 = S.1 0 7 from ((fu_14 0 rfl).1 7).trans ((uF_ne (fun h => absurd h.2 (by decide))).trans ((uF_ne (fun h => absurd h.2 (by decide))).trans ((fu_3 0 rfl).1 7))))⟩)⟩⟩ dX11_tell_76
  · refine lv_aload_n hx hb dX11_tell_44 rfl (lv_at hl 0 rfl) ?_
    obtain ⟨o_21, mo_21, eo_21⟩ := rm_0_5 hI
    refine g_X11_24 Cx hW (k := 0) (by decide) rfl (v := .ref (G.2.2.1 + o_21)) ((((fu_14 0 rfl).2.2.2 5).trans ((uF_r).trans ((uF_r).trans ((fu_3 0 rfl).2.2.2 5)))).trans eo_21) dX11_tell_45 ?_
    refine lv_astore_n (lv' := [(1, .ref (G.2.2.1 + o_21)), (0, .ref (G.2.2.1 + 0))]) hx hb dX11_tell_48 rfl hl (by decide) rfl (fun ls hl => ?_)
    refine lv_aload_n hx hb dX11_tell_49 rfl (lv_at hl 1 rfl) ?_
    refine lv_aload_n hx hb dX11_tell_50 rfl (lv_at hl 1 rfl) ?_
    refine g_X11_28 Cx hW (k := 0) (by decide) rfl (v := .ref (G.2.2.1 + o_1)) ((((fu_14 0 rfl).2.2.2 6).trans ((uF_r).trans ((uF_r).trans ((fu_3 0 rfl).2.2.2 6)))).trans eo_1) dX11_tell_51 ?_
    refine p_X11_24 Cx hW hL (k := 0) (by decide) rfl dX11_tell_54 (fun H locs hW hL => ?_)
    have F_22 : Fr S (uR u_14 0 5 (.ref (G.2.2.1 + o_1))) pA := F_16.R rfl
    refine lv_aload_n hx hb dX11_tell_57 rfl (lv_at hl 1 rfl) ?_
    refine lv_aload_n hx hb dX11_tell_58 rfl (lv_at hl 0 rfl) ?_
    refine p_X11_28 Cx hW hL (k := 0) (by decide) rfl dX11_tell_59 (fun H locs hW hL => ?_)
    have F_23 : Fr S (uR (uR u_14 0 5 (.ref (G.2.2.1 + o_1))) 0 6 (.ref (G.2.2.1 + o_21))) pA := F_22.R rfl
    have i_24 : cX G (uR (uR u_14 0 5 (.ref (G.2.2.1 + o_1))) 0 6 (.ref (G.2.2.1 + o_21))) 0 0 0 := iu_14.swapM ((((fu_14 0 rfl).2.2.2 5).trans ((uF_r).trans ((uF_r).trans ((fu_3 0 rfl).2.2.2 5)))).trans eo_21) ((((fu_14 0 rfl).2.2.2 6).trans ((uF_r).trans ((uF_r).trans ((fu_3 0 rfl).2.2.2 6)))).trans eo_1)
    refine lv_aload_n hx hb dX11_tell_62 rfl (lv_at hl 1 rfl) ?_
    refine lv_iconst (v := iv 1) hx hb dX11_tell_63 (by decide) ?_
    refine p_X11_79 Cx hW hL (k := 0) (by decide) rfl (by omega) dX11_tell_64 (fun H locs hW hL => ?_)
    have F_25 : Fr S (uF (uR (uR u_14 0 5 (.ref (G.2.2.1 + o_1))) 0 6 (.ref (G.2.2.1 + o_21))) 0 7 1) pA := F_23.F rfl
    have i_26 : cX G (uF (uR (uR u_14 0 5 (.ref (G.2.2.1 + o_1))) 0 6 (.ref (G.2.2.1 + o_21))) 0 7 1) 0 0 0 := i_24.F rfl rfl (show 0 ≤ 1 ∧ 1 ≤ 1 from ⟨by omega, by omega⟩)
    refine lv_aload_n hx hb dX11_tell_67 rfl (lv_at hl 1 rfl) ?_
    refine lv_iconst (v := iv 0) hx hb dX11_tell_68 (by decide) ?_
    refine p_X11_83 Cx hW hL (k := 0) (by decide) rfl (by omega) dX11_tell_69 (fun H locs hW hL => ?_)
    have F_27 : Fr S (uF (uF (uR (uR u_14 0 5 (.ref (G.2.2.1 + o_1))) 0 6 (.ref (G.2.2.1 + o_21))) 0 7 1) 0 8 0) pA := F_25.F rfl
    have i_28 : cX G (uF (uF (uR (uR u_14 0 5 (.ref (G.2.2.1 + o_1))) 0 6 (.ref (G.2.2.1 + o_21))) 0 7 1) 0 8 0) 0 0 0 := i_26.F rfl rfl (show 0 ≤ 0 ∧ 0 ≤ 1 from ⟨by omega, by omega⟩)
    refine lv_aload_n hx hb dX11_tell_72 rfl (lv_at hl 1 rfl) ?_
    refine g_X11_71 Cx hW (k := 0) (by decide) rfl (v := r_5) ((uF_ne (fun h => absurd h.2 (by decide))).trans ((uF_ne (fun h => absurd h.2 (by decide))).trans ((uR_f).trans ((uR_f).trans (((fu_14 0 rfl).1 9).trans ((uF_ne (fun h => absurd h.2 (by decide))).trans (uF_on))))))) dX11_tell_73 ?_
    have q_29 : 0 ≤ u_14.1 1 1 ∧ u_14.1 1 1 ≤ 30000 := iu_14.fi 1 1 10 (by decide) rfl
    have lk_30 : (uF (uF (uR (uR u_14 0 5 (.ref (G.2.2.1 + o_1))) 0 6 (.ref (G.2.2.1 + o_21))) 0 7 1) 0 8 0).1 1 1 = u_14.1 1 1 := (uF_ne (fun h => absurd h.2 (by decide))).trans ((uF_ne (fun h => absurd h.2 (by decide))).trans ((uR_f).trans (uR_f)))
    have lk_31 : (uF (uF (uR (uR u_14 0 5 (.ref (G.2.2.1 + o_1))) 0 6 (.ref (G.2.2.1 + o_21))) 0 7 1) 0 8 0).1 0 7 = 1 := (uF_ne (fun h => absurd h.2 (by decide))).trans (uF_on)
    exact sIret Cx hr hlk hW hL ⟨i_28, F_27, ⟨(by omega), (by have y := xu_3.1; omega), (fun _ => ⟨xu_3.2.1 (by omega), (show (uF (uF (uR (uR u_14 0 5 (.ref (G.2.2.1 + o_1))) 0 6 (.ref (G.2.2.1 + o_21))) 0 7 1) 0 8 0).1 0 7 = 1 from (uF_ne (fun h => absurd h.2 (by decide))).trans (uF_on))⟩), (fun h => absurd (by omega) h)⟩⟩ dX11_tell_76

set_option maxRecDepth 100000 in
set_option maxHeartbeats 4000000 in
theorem e_X11_begin (l : Launch) (G : sG) (S : sS) {k : Int} (hI : cX G S 0 0 0) (hk : -2147483648 ≤ k ∧ k ≤ 2147483647) : Met l yX11_begin (.code yX11_begin cX11_begin 2 (some .boolean) :: tb) (rmk 6 0 0) (sPc G 294 S [.ref (G.2.2.1 + 0), .int (iv k)]) (sQi G 294 (fun r u => cX G u 0 0 0 ∧ Fr S u pC ∧ ((0 ≤ r ∧ r ≤ 1) ∧ (r = 1 ↔ (S.1 0 7 = 1 ∧ 0 ≤ k ∧ k ≤ 20)) ∧ u.1 0 7 = S.1 0 7))) 0 0 (sF G) := by
  refine sEnter (by decide) (Nat.le_of_ble_eq_true rfl) ?_
  intro p e s m args below meth c Cx hr hlk hnm hW ls hl
  have Cx : sC G p m c cX11_begin 2 s args RX11 := Cx
  obtain ⟨hx, hb, hml, hown, hts⟩ := id Cx.1
  have hL : sL G [] := sL_nil
  have hl : lv_has ls 2 [(0, .ref (G.2.2.1 + 0)), (1, .int (iv k))] := hl
  have hW0 := hW
  refine lv_aload_n hx hb dX11_begin_0 rfl (lv_at hl 0 rfl) ?_
  have q_1 : 0 ≤ S.1 0 7 ∧ S.1 0 7 ≤ 1 := hI.fi 0 7 11 (by decide) rfl
  refine g_X11_79 Cx hW (k := 0) (by decide) rfl (v := S.1 0 7) rfl dX11_begin_1 ?_
  refine r_if_eq (tgt := 17) hx hb ⟨(by omega), (by omega)⟩ dX11_begin_4 (by decide) (fun c_2 => ?_) (fun c_2 => ?_)
  · refine lv_iconst (v := iv 0) hx hb dX11_begin_17 (by decide) ?_
    exact sZret Cx hr hlk hW hL (by omega) ⟨hI, (Fr.rf : Fr S S pC), ⟨(by omega), (by omega), (show S.1 0 7 = S.1 0 7 from rfl)⟩⟩ dX11_begin_18
  · refine lv_iload_n hx hb dX11_begin_7 rfl (lv_at hl 1 rfl) ?_
    refine r_if_lt (tgt := 17) hx hb ⟨(by omega), (by omega)⟩ dX11_begin_8 (by decide) (fun c_3 => ?_) (fun c_3 => ?_)
    · refine lv_iconst (v := iv 0) hx hb dX11_begin_17 (by decide) ?_
      exact sZret Cx hr hlk hW hL (by omega) ⟨hI, (Fr.rf : Fr S S pC), ⟨(by omega), (by omega), (show S.1 0 7 = S.1 0 7 from rfl)⟩⟩ dX11_begin_18
    · refine lv_iload_n hx hb dX11_begin_11 rfl (lv_at hl 1 rfl) ?_
      refine lv_bipush (v := iv 20) hx hb dX11_begin_12 (by decide) ?_
      refine r_icmp_le (tgt := 19) hx hb ⟨(by omega), (by omega)⟩ ⟨(by omega), (by omega)⟩ dX11_begin_14 (by decide) (fun c_4 => ?_) (fun c_4 => ?_)
      · refine lv_aload_n hx hb dX11_begin_19 rfl (lv_at hl 0 rfl) ?_
        refine g_X11_41 Cx hW (k := 0) (by decide) rfl (v := .ref (G.2.2.1 + 119)) (rf_0_3 hI) dX11_begin_20 ?_
        refine lv_aload_n hx hb dX11_begin_23 rfl (lv_at hl 0 rfl) ?_
        obtain ⟨o_5, mo_5, eo_5⟩ := rm_0_5 hI
        refine g_X11_24 Cx hW (k := 0) (by decide) rfl (v := .ref (G.2.2.1 + o_5)) eo_5 dX11_begin_24 ?_
        refine lv_iload_n hx hb dX11_begin_27 rfl (lv_at hl 1 rfl) ?_
        refine sBv (sV (As := [.ref (G.2.2.1 + o_5), .int (iv k)]) (rest := []) (k := 119) Cx (s_X7_start l G S (md := o_5) (al := k) hI mo_5 (by omega)) (c_X11_106 Cx rfl rfl (rmk_ok (by omega) (by decide))) hW (by decide) rfl rfl rfl hl.1 rfl (Nat.le_of_ble_eq_true rfl) dX11_begin_28 ⟨Nat.le_of_ble_eq_true rfl, Nat.le_of_ble_eq_true rfl⟩) hL (fun u_6 H locs k_7 hW hL => ?_)
        obtain ⟨iu_6, fu_6⟩ := k_7
        have F_8 := (Fr.rf : Fr S S pC).trans (fu_6.to pH_C)
        refine lv_aload_n hx hb dX11_begin_31 rfl (lv_at hl 0 rfl) ?_
        refine lv_iconst (v := iv 1) hx hb dX11_begin_32 (by decide) ?_
        refine p_X11_83 Cx hW hL (k := 0) (by decide) rfl (by omega) dX11_begin_33 (fun H locs hW hL => ?_)
        have F_9 : Fr S (uF u_6 0 8 1) pC := F_8.F rfl
        have i_10 : cX G (uF u_6 0 8 1) 0 0 0 := iu_6.F rfl rfl (show 0 ≤ 1 ∧ 1 ≤ 1 from ⟨by omega, by omega⟩)
        refine lv_iconst (v := iv 1) hx hb dX11_begin_36 (by decide) ?_
        have lk_11 : (uF u_6 0 8 1).1 0 7 = S.1 0 7 := (uF_ne (fun h => absurd h.2 (by decide))).trans ((fu_6 0 rfl).1 7)
        exact sZret Cx hr hlk hW hL (by omega) ⟨i_10, F_9, ⟨(by omega), (by omega), (show (uF u_6 0 8 1).1 0 7 = S.1 0 7 from (uF_ne (fun h => absurd h.2 (by decide))).trans ((fu_6 0 rfl).1 7))⟩⟩ dX11_begin_37
      · refine lv_iconst (v := iv 0) hx hb dX11_begin_17 (by decide) ?_
        exact sZret Cx hr hlk hW hL (by omega) ⟨hI, (Fr.rf : Fr S S pC), ⟨(by omega), (by omega), (show S.1 0 7 = S.1 0 7 from rfl)⟩⟩ dX11_begin_18

set_option maxRecDepth 100000 in
set_option maxHeartbeats 4000000 in
theorem e_X11_work (l : Launch) (G : sG) (S : sS) {k : Int} (hI : cX G S 0 0 0) (hk : -2147483648 ≤ k ∧ k ≤ 2147483647) : Met l yX11_work (.code yX11_work cX11_work 3 (some .int) :: tb) (rmk 10 0 0) (sPc G 294 S [.ref (G.2.2.1 + 0), .int (iv k)]) (sQi G 294 (fun r u => cX G u 0 0 0 ∧ Fr S u pC ∧ ((-2147483648 ≤ r ∧ r ≤ 2147483647) ∧ u.1 0 7 = S.1 0 7))) 0 0 (sF G) := by
  refine sEnter (by decide) (Nat.le_of_ble_eq_true rfl) ?_
  intro p e s m args below meth c Cx hr hlk hnm hW ls hl
  have Cx : sC G p m c cX11_work 3 s args RX11 := Cx
  obtain ⟨hx, hb, hml, hown, hts⟩ := id Cx.1
  have hL : sL G [] := sL_nil
  have hl : lv_has ls 3 [(0, .ref (G.2.2.1 + 0)), (1, .int (iv k))] := hl
  have hW0 := hW
  refine lv_iload_n hx hb dX11_work_0 rfl (lv_at hl 1 rfl) ?_
  refine lv_iconst (v := iv 1) hx hb dX11_work_1 (by decide) ?_
  refine r_icmp_lt (tgt := 12) hx hb ⟨(by omega), (by omega)⟩ ⟨(by omega), (by omega)⟩ dX11_work_2 (by decide) (fun c_1 => ?_) (fun c_1 => ?_)
  · refine lv_iconst (v := iv (-1)) hx hb dX11_work_12 (by decide) ?_
    have q_2 : 0 ≤ S.1 0 7 ∧ S.1 0 7 ≤ 1 := hI.fi 0 7 11 (by decide) rfl
    exact sIret Cx hr hlk hW hL ⟨hI, (Fr.rf : Fr S S pC), ⟨(by omega), (show S.1 0 7 = S.1 0 7 from rfl)⟩⟩ dX11_work_13
  · refine lv_iload_n hx hb dX11_work_5 rfl (lv_at hl 1 rfl) ?_
    refine lv_sipush (v := iv 500) hx hb dX11_work_6 (by decide) ?_
    refine r_icmp_le (tgt := 14) hx hb ⟨(by omega), (by omega)⟩ ⟨(by omega), (by omega)⟩ dX11_work_9 (by decide) (fun c_3 => ?_) (fun c_3 => ?_)
    · refine lv_aload_n hx hb dX11_work_14 rfl (lv_at hl 0 rfl) ?_
      have q_4 : 0 ≤ S.1 0 8 ∧ S.1 0 8 ≤ 1 := hI.fi 0 8 11 (by decide) rfl
      refine g_X11_83 Cx hW (k := 0) (by decide) rfl (v := S.1 0 8) rfl dX11_work_15 ?_
      refine r_if_ne (tgt := 23) hx hb ⟨(by omega), (by omega)⟩ dX11_work_18 (by decide) (fun c_5 => ?_) (fun c_5 => ?_)
      · refine lv_aload_n hx hb dX11_work_23 rfl (lv_at hl 0 rfl) ?_
        refine g_X11_41 Cx hW (k := 0) (by decide) rfl (v := .ref (G.2.2.1 + 119)) (rf_0_3 hI) dX11_work_24 ?_
        refine lv_iload_n hx hb dX11_work_27 rfl (lv_at hl 1 rfl) ?_
        refine sBi (sV (As := [.int (iv k)]) (rest := []) (k := 119) Cx (s_X7_run l G S (mo := k) hI (by omega)) (c_X11_110 Cx rfl rfl (rmk_ok (by omega) (by decide))) hW (by decide) rfl rfl rfl hl.1 rfl (Nat.le_of_ble_eq_true rfl) dX11_work_28 ⟨Nat.le_of_ble_eq_true rfl, Nat.le_of_ble_eq_true rfl⟩) hL (fun r_8 u_6 H locs k_7 hW hL => ?_)
        obtain ⟨iu_6, fu_6, xu_6⟩ := k_7
        have F_9 := (Fr.rf : Fr S S pC).trans (fu_6.to pH_C)
        refine lv_istore_n (lv' := [(2, .int (iv r_8)), (0, .ref (G.2.2.1 + 0)), (1, .int (iv k))]) hx hb dX11_work_31 rfl hl (by decide) rfl (fun ls hl => ?_)
        refine lv_aload_n hx hb dX11_work_32 rfl (lv_at hl 1 rfl) ?_
        refine g_X11_41 Cx hW (k := 0) (by decide) rfl (v := .ref (G.2.2.1 + 119)) (rf_0_3 iu_6) dX11_work_33 ?_
        refine sBv (sV (As := []) (rest := []) (k := 119) Cx (s_X7_prove l G u_6  iu_6) (c_X11_114 Cx rfl rfl (rmk_ok (by omega) (by decide))) hW (by decide) rfl rfl rfl hl.1 rfl (Nat.le_of_ble_eq_true rfl) dX11_work_36 ⟨Nat.le_of_ble_eq_true rfl, Nat.le_of_ble_eq_true rfl⟩) hL (fun u_10 H locs k_11 hW hL => ?_)
        obtain ⟨iu_10, fu_10⟩ := k_11
        have F_12 := F_9.trans (fu_10.to pH_C)
        refine lv_iload_n hx hb dX11_work_39 rfl (lv_at hl 0 rfl) ?_
        have q_13 : 0 ≤ S.1 0 7 ∧ S.1 0 7 ≤ 1 := hI.fi 0 7 11 (by decide) rfl
        have lk_14 : u_10.1 0 7 = S.1 0 7 := ((fu_10 0 rfl).1 7).trans ((fu_6 0 rfl).1 7)
        exact sIret Cx hr hlk hW hL ⟨iu_10, F_12, ⟨(by omega), (show u_10.1 0 7 = S.1 0 7 from ((fu_10 0 rfl).1 7).trans ((fu_6 0 rfl).1 7))⟩⟩ dX11_work_40
      · refine lv_iconst (v := iv 0) hx hb dX11_work_21 (by decide) ?_
        have q_15 : 0 ≤ S.1 0 7 ∧ S.1 0 7 ≤ 1 := hI.fi 0 7 11 (by decide) rfl
        exact sIret Cx hr hlk hW hL ⟨hI, (Fr.rf : Fr S S pC), ⟨(by omega), (show S.1 0 7 = S.1 0 7 from rfl)⟩⟩ dX11_work_22
    · refine lv_iconst (v := iv (-1)) hx hb dX11_work_12 (by decide) ?_
      have q_16 : 0 ≤ S.1 0 7 ∧ S.1 0 7 ≤ 1 := hI.fi 0 7 11 (by decide) rfl
      exact sIret Cx hr hlk hW hL ⟨hI, (Fr.rf : Fr S S pC), ⟨(by omega), (show S.1 0 7 = S.1 0 7 from rfl)⟩⟩ dX11_work_13

set_option maxRecDepth 100000 in
set_option maxHeartbeats 4000000 in
theorem e_X11_check (l : Launch) (G : sG) (S : sS)  (hI : cX G S 0 0 0) : Met l yX11_check (.code yX11_check cX11_check 1 (some .int) :: tb) (rmk 10 0 0) (sPc G 294 S [.ref (G.2.2.1 + 0)]) (sQi G 294 (fun r u => cX G u 0 0 0 ∧ Fr S u pA ∧ (u.1 1 1 = 0 ∧ u.1 0 7 = S.1 0 7))) 0 0 (sF G) := by
  refine sEnter (by decide) (Nat.le_of_ble_eq_true rfl) ?_
  intro p e s m args below meth c Cx hr hlk hnm hW ls hl
  have Cx : sC G p m c cX11_check 1 s args RX11 := Cx
  obtain ⟨hx, hb, hml, hown, hts⟩ := id Cx.1
  have hL : sL G [] := sL_nil
  have hl : lv_has ls 1 [(0, .ref (G.2.2.1 + 0))] := hl
  have hW0 := hW
  refine lv_aload_n hx hb dX11_check_0 rfl (lv_at hl 0 rfl) ?_
  refine lv_iconst (v := iv 0) hx hb dX11_check_1 (by decide) ?_
  refine p_X11_71 Cx hW hL (k := 0) (by decide) rfl dX11_check_2 (fun H locs hW hL => ?_)
  have F_1 : Fr S (uF S 0 9 0) pA := (Fr.rf : Fr S S pA).F rfl
  have i_2 : cX G (uF S 0 9 0) 0 0 0 := hI.F rfl rfl (show (-2147483648) ≤ 0 ∧ 0 ≤ 2147483647 from ⟨by omega, by omega⟩)
  refine lv_aload_n hx hb dX11_check_5 rfl (lv_at hl 0 rfl) ?_
  refine lv_iconst (v := iv (-1)) hx hb dX11_check_6 (by decide) ?_
  refine p_X11_52 Cx hW hL (k := 0) (by decide) rfl dX11_check_7 (fun H locs hW hL => ?_)
  have F_3 : Fr S (uF (uF S 0 9 0) 0 10 ((-1))) pA := F_1.F rfl
  have i_4 : cX G (uF (uF S 0 9 0) 0 10 ((-1))) 0 0 0 := i_2.F rfl rfl (show (-2147483648) ≤ (-1) ∧ (-1) ≤ 2147483647 from ⟨by omega, by omega⟩)
  refine lv_aload_n hx hb dX11_check_10 rfl (lv_at hl 0 rfl) ?_
  have q_5 : 0 ≤ S.1 0 7 ∧ S.1 0 7 ≤ 1 := hI.fi 0 7 11 (by decide) rfl
  refine g_X11_79 Cx hW (k := 0) (by decide) rfl (v := S.1 0 7) ((uF_ne (fun h => absurd h.2 (by decide))).trans (uF_ne (fun h => absurd h.2 (by decide)))) dX11_check_11 ?_
  refine r_if_ne (tgt := 26) hx hb ⟨(by omega), (by omega)⟩ dX11_check_14 (by decide) (fun c_6 => ?_) (fun c_6 => ?_)
  · refine lv_aload_n hx hb dX11_check_26 rfl (lv_at hl 0 rfl) ?_
    refine lv_aload_n hx hb dX11_check_27 rfl (lv_at hl 0 rfl) ?_
    refine g_X11_48 Cx hW (k := 0) (by decide) rfl (v := .ref (G.2.2.1 + 188)) (rf_0_4 i_4) dX11_check_28 ?_
    refine lv_aload_n hx hb dX11_check_31 rfl (lv_at hl 0 rfl) ?_
    refine g_X11_14 Cx hW (k := 0) (by decide) rfl (v := .ref (G.2.2.1 + 1)) (rf_0_0 i_4) dX11_check_32 ?_
    refine lv_aload_n hx hb dX11_check_35 rfl (lv_at hl 0 rfl) ?_
    obtain ⟨o_7, mo_7, eo_7⟩ := rm_0_5 hI
    refine g_X11_24 Cx hW (k := 0) (by decide) rfl (v := .ref (G.2.2.1 + o_7)) (((uF_r).trans (uF_r)).trans eo_7) dX11_check_36 ?_
    refine sBi (sV (As := [.ref (G.2.2.1 + 1), .ref (G.2.2.1 + o_7)]) (rest := [.ref (G.2.2.1 + 0)]) (k := 188) Cx (s_X1_hold l G (uF (uF S 0 9 0) 0 10 ((-1))) (o := o_7) i_4 mo_7) (c_X11_153 Cx rfl rfl (rmk_ok (by omega) (by decide))) hW (by decide) rfl rfl rfl hl.1 rfl (Nat.le_of_ble_eq_true rfl) dX11_check_39 ⟨Nat.le_of_ble_eq_true rfl, Nat.le_of_ble_eq_true rfl⟩) hL (fun r_10 u_8 H locs k_9 hW hL => ?_)
    obtain ⟨iu_8, fu_8, xu_8⟩ := k_9
    have F_11 := F_3.trans (fu_8.to (fun k h => pC_A k (pE_C k h)))
    refine p_X11_71 Cx hW hL (k := 0) (by decide) rfl dX11_check_42 (fun H locs hW hL => ?_)
    have F_12 : Fr S (uF u_8 0 9 r_10) pA := F_11.F rfl
    have i_13 : cX G (uF u_8 0 9 r_10) 0 0 0 := iu_8.F rfl rfl (show (-2147483648) ≤ r_10 ∧ r_10 ≤ 2147483647 from ⟨by omega, by omega⟩)
    refine lv_aload_n hx hb dX11_check_45 rfl (lv_at hl 0 rfl) ?_
    refine lv_aload_n hx hb dX11_check_46 rfl (lv_at hl 0 rfl) ?_
    refine g_X11_48 Cx hW (k := 0) (by decide) rfl (v := .ref (G.2.2.1 + 188)) (rf_0_4 i_13) dX11_check_47 ?_
    refine sBi (sV (As := []) (rest := [.ref (G.2.2.1 + 0)]) (k := 188) Cx (s_X1_faultPlace l G (uF u_8 0 9 r_10)  i_13) (c_X11_156 Cx rfl rfl (rmk_ok (by omega) (by decide))) hW (by decide) rfl rfl rfl hl.1 rfl (Nat.le_of_ble_eq_true rfl) dX11_check_50 ⟨Nat.le_of_ble_eq_true rfl, Nat.le_of_ble_eq_true rfl⟩) hL (fun r_16 u_14 H locs k_15 hW hL => ?_)
    obtain ⟨eu_14, xu_14⟩ := k_15
    rw [eu_14] at hW
    refine p_X11_52 Cx hW hL (k := 0) (by decide) rfl dX11_check_53 (fun H locs hW hL => ?_)
    have F_17 : Fr S (uF (uF u_8 0 9 r_10) 0 10 r_16) pA := F_12.F rfl
    have i_18 : cX G (uF (uF u_8 0 9 r_10) 0 10 r_16) 0 0 0 := i_13.F rfl rfl (show (-2147483648) ≤ r_16 ∧ r_16 ≤ 2147483647 from ⟨by omega, by omega⟩)
    refine lv_aload_n hx hb dX11_check_56 rfl (lv_at hl 0 rfl) ?_
    refine g_X11_14 Cx hW (k := 0) (by decide) rfl (v := .ref (G.2.2.1 + 1)) (rf_0_0 i_18) dX11_check_57 ?_
    refine sBv (sV (As := []) (rest := []) (k := 1) Cx (s_X10_clear l G (uF (uF u_8 0 9 r_10) 0 10 r_16) (o := 1) (N := 30000) i_18 ⟨by decide, rfl, rfl, rfl, rfl, by decide⟩) (c_X11_76 Cx rfl rfl (rmk_ok (by omega) (by decide))) hW (by decide) rfl rfl rfl hl.1 rfl (Nat.le_of_ble_eq_true rfl) dX11_check_60 ⟨Nat.le_of_ble_eq_true rfl, Nat.le_of_ble_eq_true rfl⟩) hL (fun u_19 H locs k_20 hW hL => ?_)
    obtain ⟨iu_19, fu_19, xu_19⟩ := k_20
    have F_21 := F_17.trans (fu_19.to (pB_sub rfl rfl))
    refine lv_aload_n hx hb dX11_check_63 rfl (lv_at hl 0 rfl) ?_
    refine g_X11_71 Cx hW (k := 0) (by decide) rfl (v := r_10) (((fu_19 0 rfl).1 9).trans ((uF_ne (fun h => absurd h.2 (by decide))).trans (uF_on))) dX11_check_64 ?_
    have q_22 : 0 ≤ u_19.1 1 1 ∧ u_19.1 1 1 ≤ 30000 := iu_19.fi 1 1 10 (by decide) rfl
    have lk_23 : u_19.1 0 7 = S.1 0 7 := ((fu_19 0 rfl).1 7).trans ((uF_ne (fun h => absurd h.2 (by decide))).trans ((uF_ne (fun h => absurd h.2 (by decide))).trans (((fu_8 0 rfl).1 7).trans ((uF_ne (fun h => absurd h.2 (by decide))).trans (uF_ne (fun h => absurd h.2 (by decide)))))))
    exact sIret Cx hr hlk hW hL ⟨iu_19, F_21, ⟨(by omega), (show u_19.1 0 7 = S.1 0 7 from ((fu_19 0 rfl).1 7).trans ((uF_ne (fun h => absurd h.2 (by decide))).trans ((uF_ne (fun h => absurd h.2 (by decide))).trans (((fu_8 0 rfl).1 7).trans ((uF_ne (fun h => absurd h.2 (by decide))).trans (uF_ne (fun h => absurd h.2 (by decide))))))))⟩⟩ dX11_check_67
  · refine lv_aload_n hx hb dX11_check_17 rfl (lv_at hl 0 rfl) ?_
    refine g_X11_14 Cx hW (k := 0) (by decide) rfl (v := .ref (G.2.2.1 + 1)) (rf_0_0 i_4) dX11_check_18 ?_
    refine sBv (sV (As := []) (rest := []) (k := 1) Cx (s_X10_clear l G (uF (uF S 0 9 0) 0 10 ((-1))) (o := 1) (N := 30000) i_4 ⟨by decide, rfl, rfl, rfl, rfl, by decide⟩) (c_X11_76 Cx rfl rfl (rmk_ok (by omega) (by decide))) hW (by decide) rfl rfl rfl hl.1 rfl (Nat.le_of_ble_eq_true rfl) dX11_check_21 ⟨Nat.le_of_ble_eq_true rfl, Nat.le_of_ble_eq_true rfl⟩) hL (fun u_24 H locs k_25 hW hL => ?_)
    obtain ⟨iu_24, fu_24, xu_24⟩ := k_25
    have F_26 := F_3.trans (fu_24.to (pB_sub rfl rfl))
    refine lv_iconst (v := iv (-1)) hx hb dX11_check_24 (by decide) ?_
    have q_27 : 0 ≤ u_24.1 1 1 ∧ u_24.1 1 1 ≤ 30000 := iu_24.fi 1 1 10 (by decide) rfl
    have lk_28 : u_24.1 0 7 = S.1 0 7 := ((fu_24 0 rfl).1 7).trans ((uF_ne (fun h => absurd h.2 (by decide))).trans (uF_ne (fun h => absurd h.2 (by decide))))
    exact sIret Cx hr hlk hW hL ⟨iu_24, F_26, ⟨(by omega), (show u_24.1 0 7 = S.1 0 7 from ((fu_24 0 rfl).1 7).trans ((uF_ne (fun h => absurd h.2 (by decide))).trans (uF_ne (fun h => absurd h.2 (by decide)))))⟩⟩ dX11_check_25

set_option maxRecDepth 100000 in
set_option maxHeartbeats 4000000 in
theorem e_X12_begin (l : Launch) (G : sG) (S : sS) {ct : Int} (hI : dX G S) (hct : -2147483648 ≤ ct ∧ ct ≤ 2147483647) (hMR : MR S) : Met l yX12_begin (.code yX12_begin cX12_begin 5 (some .boolean) :: tb) (rmk 3 0 0) (sPc G 294 S [.ref (G.2.2.1 + 231), .int (iv ct)]) (sQi G 294 (fun r u => dX G u ∧ Fr S u (pl [231, 262, 264, 265, 266]) ∧ FF S u (fl [58, 59, 60, 61, 62, 63, 64, 65, 66, 67, 68, 69, 70, 78, 79, 84, 86]) ∧ ((0 ≤ r ∧ r ≤ 1) ∧ Hd (r = 0 → u = S) ∧ Hd (r = 1 → GI u ∧ u.1 231 61 = 1 ∧ u.1 231 70 = 0) ∧ (r = 1 ↔ (S.1 231 45 = 1 ∧ 0 ≤ ct ∧ ct ≤ 20))))) 0 0 (sF G) := by
  refine sEnter (by decide) (Nat.le_of_ble_eq_true rfl) ?_
  intro p e s m args below meth c Cx hr hlk hnm hW ls hl
  have Cx : sC G p m c cX12_begin 5 s args RX12 := Cx
  obtain ⟨hx, hb, hml, hown, hts⟩ := id Cx.1
  have hL : sL G [] := sL_nil
  have hl : lv_has ls 5 [(0, .ref (G.2.2.1 + 231)), (1, .int (iv ct))] := hl
  have hW0 := hW
  have hm1 : (0 ≤ S.1 231 46 ∧ S.1 231 46 ≤ 12) ∧ (0 ≤ S.1 231 47 ∧ S.1 231 47 ≤ 16) ∧ 0 ≤ S.1 231 63 ∧ S.1 231 63 ≤ 40 := hMR.1
  refine lv_aload_n hx hb dX12_begin_0 rfl (lv_at hl 0 rfl) ?_
  have q_1 : 0 ≤ S.1 231 45 ∧ S.1 231 45 ≤ 1 := hI.fi 45
  refine g_X12_462 Cx hW (k := 231) (by decide) rfl (v := S.1 231 45) rfl dX12_begin_1 ?_
  refine r_if_eq (tgt := 17) hx hb ⟨(by omega), (by omega)⟩ dX12_begin_4 (by decide) (fun c_2 => ?_) (fun c_2 => ?_)
  · refine lv_iconst (v := iv 0) hx hb dX12_begin_17 (by decide) ?_
    have q_3 : (-2147483648) ≤ S.1 231 61 ∧ S.1 231 61 ≤ 2147483647 := hI.fi 61
    have q_4 : 0 ≤ S.1 231 70 ∧ S.1 231 70 ≤ 1 := hI.fi 70
    exact sZret Cx hr hlk hW hL (by omega) ⟨hI, (Fr.rf : Fr S S (pl [231, 262, 264, 265, 266])), FF.rf, ⟨(by omega), (fun _ => rfl), (fun q => absurd q (by omega)), (by omega)⟩⟩ dX12_begin_18
  · refine lv_iload_n hx hb dX12_begin_7 rfl (lv_at hl 1 rfl) ?_
    refine r_if_lt (tgt := 17) hx hb ⟨(by omega), (by omega)⟩ dX12_begin_8 (by decide) (fun c_5 => ?_) (fun c_5 => ?_)
    · refine lv_iconst (v := iv 0) hx hb dX12_begin_17 (by decide) ?_
      have q_6 : (-2147483648) ≤ S.1 231 61 ∧ S.1 231 61 ≤ 2147483647 := hI.fi 61
      have q_7 : 0 ≤ S.1 231 70 ∧ S.1 231 70 ≤ 1 := hI.fi 70
      exact sZret Cx hr hlk hW hL (by omega) ⟨hI, (Fr.rf : Fr S S (pl [231, 262, 264, 265, 266])), FF.rf, ⟨(by omega), (fun _ => rfl), (fun q => absurd q (by omega)), (by omega)⟩⟩ dX12_begin_18
    · refine lv_iload_n hx hb dX12_begin_11 rfl (lv_at hl 1 rfl) ?_
      refine lv_bipush (v := iv 20) hx hb dX12_begin_12 (by decide) ?_
      refine r_icmp_le (tgt := 19) hx hb ⟨(by omega), (by omega)⟩ ⟨(by omega), (by omega)⟩ dX12_begin_14 (by decide) (fun c_8 => ?_) (fun c_8 => ?_)
      · refine lv_aload_n hx hb dX12_begin_19 rfl (lv_at hl 0 rfl) ?_
        refine lv_iconst (v := iv 1) hx hb dX12_begin_20 (by decide) ?_
        refine p_X12_477 Cx hW hL (k := 231) (by decide) rfl dX12_begin_21 (fun H locs hW hL => ?_)
        have F_9 : Fr S (uF S 231 61 1) (pl [231, 262, 264, 265, 266]) := (Fr.rf : Fr S S (pl [231, 262, 264, 265, 266])).F rfl
        have g_10 : FF S (uF S 231 61 1) (fl [58, 59, 60, 61, 62, 63, 64, 65, 66, 67, 68, 69, 70, 78, 79, 84, 86]) := FF.F FF.rf rfl
        have i_11 : dX G (uF S 231 61 1) := hI.F (i := 61) (show (-2147483648) ≤ 1 ∧ 1 ≤ 2147483647 from ⟨by omega, by omega⟩)
        refine lv_aload_n hx hb dX12_begin_24 rfl (lv_at hl 0 rfl) ?_
        refine lv_iload_n hx hb dX12_begin_25 rfl (lv_at hl 1 rfl) ?_
        refine p_X12_493 Cx hW hL (k := 231) (by decide) rfl dX12_begin_26 (fun H locs hW hL => ?_)
        have F_12 : Fr S (uF (uF S 231 61 1) 231 68 ct) (pl [231, 262, 264, 265, 266]) := F_9.F rfl
        have g_13 : FF S (uF (uF S 231 61 1) 231 68 ct) (fl [58, 59, 60, 61, 62, 63, 64, 65, 66, 67, 68, 69, 70, 78, 79, 84, 86]) := FF.F g_10 rfl
        have i_14 : dX G (uF (uF S 231 61 1) 231 68 ct) := i_11.F (i := 68) (show (-2147483648) ≤ ct ∧ ct ≤ 2147483647 from ⟨by omega, by omega⟩)
        refine lv_aload_n hx hb dX12_begin_29 rfl (lv_at hl 0 rfl) ?_
        refine lv_iconst (v := iv 0) hx hb dX12_begin_30 (by decide) ?_
        refine p_X12_496 Cx hW hL (k := 231) (by decide) rfl dX12_begin_31 (fun H locs hW hL => ?_)
        have F_15 : Fr S (uF (uF (uF S 231 61 1) 231 68 ct) 231 64 0) (pl [231, 262, 264, 265, 266]) := F_12.F rfl
        have g_16 : FF S (uF (uF (uF S 231 61 1) 231 68 ct) 231 64 0) (fl [58, 59, 60, 61, 62, 63, 64, 65, 66, 67, 68, 69, 70, 78, 79, 84, 86]) := FF.F g_13 rfl
        have i_17 : dX G (uF (uF (uF S 231 61 1) 231 68 ct) 231 64 0) := i_14.F (i := 64) (show (-2147483648) ≤ 0 ∧ 0 ≤ 2147483647 from ⟨by omega, by omega⟩)
        refine lv_aload_n hx hb dX12_begin_34 rfl (lv_at hl 0 rfl) ?_
        refine lv_iconst (v := iv 1) hx hb dX12_begin_35 (by decide) ?_
        refine p_X12_499 Cx hW hL (k := 231) (by decide) rfl dX12_begin_36 (fun H locs hW hL => ?_)
        have F_18 : Fr S (uF (uF (uF (uF S 231 61 1) 231 68 ct) 231 64 0) 231 65 1) (pl [231, 262, 264, 265, 266]) := F_15.F rfl
        have g_19 : FF S (uF (uF (uF (uF S 231 61 1) 231 68 ct) 231 64 0) 231 65 1) (fl [58, 59, 60, 61, 62, 63, 64, 65, 66, 67, 68, 69, 70, 78, 79, 84, 86]) := FF.F g_16 rfl
        have i_20 : dX G (uF (uF (uF (uF S 231 61 1) 231 68 ct) 231 64 0) 231 65 1) := i_17.F (i := 65) (show (-2147483648) ≤ 1 ∧ 1 ≤ 2147483647 from ⟨by omega, by omega⟩)
        refine lv_aload_n hx hb dX12_begin_39 rfl (lv_at hl 0 rfl) ?_
        refine lv_iconst (v := iv 0) hx hb dX12_begin_40 (by decide) ?_
        refine p_X12_502 Cx hW hL (k := 231) (by decide) rfl dX12_begin_41 (fun H locs hW hL => ?_)
        have F_21 : Fr S (uF (uF (uF (uF (uF S 231 61 1) 231 68 ct) 231 64 0) 231 65 1) 231 66 0) (pl [231, 262, 264, 265, 266]) := F_18.F rfl
        have g_22 : FF S (uF (uF (uF (uF (uF S 231 61 1) 231 68 ct) 231 64 0) 231 65 1) 231 66 0) (fl [58, 59, 60, 61, 62, 63, 64, 65, 66, 67, 68, 69, 70, 78, 79, 84, 86]) := FF.F g_19 rfl
        have i_23 : dX G (uF (uF (uF (uF (uF S 231 61 1) 231 68 ct) 231 64 0) 231 65 1) 231 66 0) := i_20.F (i := 66) (show (-2147483648) ≤ 0 ∧ 0 ≤ 2147483647 from ⟨by omega, by omega⟩)
        refine lv_aload_n hx hb dX12_begin_44 rfl (lv_at hl 0 rfl) ?_
        refine lv_iconst (v := iv 0) hx hb dX12_begin_45 (by decide) ?_
        refine p_X12_505 Cx hW hL (k := 231) (by decide) rfl dX12_begin_46 (fun H locs hW hL => ?_)
        have F_24 : Fr S (uF (uF (uF (uF (uF (uF S 231 61 1) 231 68 ct) 231 64 0) 231 65 1) 231 66 0) 231 67 0) (pl [231, 262, 264, 265, 266]) := F_21.F rfl
        have g_25 : FF S (uF (uF (uF (uF (uF (uF S 231 61 1) 231 68 ct) 231 64 0) 231 65 1) 231 66 0) 231 67 0) (fl [58, 59, 60, 61, 62, 63, 64, 65, 66, 67, 68, 69, 70, 78, 79, 84, 86]) := FF.F g_22 rfl
        have i_26 : dX G (uF (uF (uF (uF (uF (uF S 231 61 1) 231 68 ct) 231 64 0) 231 65 1) 231 66 0) 231 67 0) := i_23.F (i := 67) (show (-2147483648) ≤ 0 ∧ 0 ≤ 2147483647 from ⟨by omega, by omega⟩)
        refine lv_aload_n hx hb dX12_begin_49 rfl (lv_at hl 0 rfl) ?_
        refine lv_iconst (v := iv 0) hx hb dX12_begin_50 (by decide) ?_
        refine p_X12_508 Cx hW hL (k := 231) (by decide) rfl dX12_begin_51 (fun H locs hW hL => ?_)
        have F_27 : Fr S (uF (uF (uF (uF (uF (uF (uF S 231 61 1) 231 68 ct) 231 64 0) 231 65 1) 231 66 0) 231 67 0) 231 69 0) (pl [231, 262, 264, 265, 266]) := F_24.F rfl
        have g_28 : FF S (uF (uF (uF (uF (uF (uF (uF S 231 61 1) 231 68 ct) 231 64 0) 231 65 1) 231 66 0) 231 67 0) 231 69 0) (fl [58, 59, 60, 61, 62, 63, 64, 65, 66, 67, 68, 69, 70, 78, 79, 84, 86]) := FF.F g_25 rfl
        have i_29 : dX G (uF (uF (uF (uF (uF (uF (uF S 231 61 1) 231 68 ct) 231 64 0) 231 65 1) 231 66 0) 231 67 0) 231 69 0) := i_26.F (i := 69) (show (-2147483648) ≤ 0 ∧ 0 ≤ 2147483647 from ⟨by omega, by omega⟩)
        refine lv_aload_n hx hb dX12_begin_54 rfl (lv_at hl 0 rfl) ?_
        refine lv_iconst (v := iv 0) hx hb dX12_begin_55 (by decide) ?_
        refine p_X12_511 Cx hW hL (k := 231) (by decide) rfl dX12_begin_56 (fun H locs hW hL => ?_)
        have F_30 : Fr S (uF (uF (uF (uF (uF (uF (uF (uF S 231 61 1) 231 68 ct) 231 64 0) 231 65 1) 231 66 0) 231 67 0) 231 69 0) 231 78 0) (pl [231, 262, 264, 265, 266]) := F_27.F rfl
        have g_31 : FF S (uF (uF (uF (uF (uF (uF (uF (uF S 231 61 1) 231 68 ct) 231 64 0) 231 65 1) 231 66 0) 231 67 0) 231 69 0) 231 78 0) (fl [58, 59, 60, 61, 62, 63, 64, 65, 66, 67, 68, 69, 70, 78, 79, 84, 86]) := FF.F g_28 rfl
        have i_32 : dX G (uF (uF (uF (uF (uF (uF (uF (uF S 231 61 1) 231 68 ct) 231 64 0) 231 65 1) 231 66 0) 231 67 0) 231 69 0) 231 78 0) := i_29.F (i := 78) (show (-2147483648) ≤ 0 ∧ 0 ≤ 2147483647 from ⟨by omega, by omega⟩)
        refine lv_aload_n hx hb dX12_begin_59 rfl (lv_at hl 0 rfl) ?_
        refine lv_iconst (v := iv 0) hx hb dX12_begin_60 (by decide) ?_
        refine p_X12_514 Cx hW hL (k := 231) (by decide) rfl (by omega) dX12_begin_61 (fun H locs hW hL => ?_)
        have F_33 : Fr S (uF (uF (uF (uF (uF (uF (uF (uF (uF S 231 61 1) 231 68 ct) 231 64 0) 231 65 1) 231 66 0) 231 67 0) 231 69 0) 231 78 0) 231 79 0) (pl [231, 262, 264, 265, 266]) := F_30.F rfl
        have g_34 : FF S (uF (uF (uF (uF (uF (uF (uF (uF (uF S 231 61 1) 231 68 ct) 231 64 0) 231 65 1) 231 66 0) 231 67 0) 231 69 0) 231 78 0) 231 79 0) (fl [58, 59, 60, 61, 62, 63, 64, 65, 66, 67, 68, 69, 70, 78, 79, 84, 86]) := FF.F g_31 rfl
        have i_35 : dX G (uF (uF (uF (uF (uF (uF (uF (uF (uF S 231 61 1) 231 68 ct) 231 64 0) 231 65 1) 231 66 0) 231 67 0) 231 69 0) 231 78 0) 231 79 0) := i_32.F (i := 79) (show 0 ≤ 0 ∧ 0 ≤ 1 from ⟨by omega, by omega⟩)
        refine lv_aload_n hx hb dX12_begin_64 rfl (lv_at hl 0 rfl) ?_
        refine lv_iconst (v := iv 0) hx hb dX12_begin_65 (by decide) ?_
        refine p_X12_517 Cx hW hL (k := 231) (by decide) rfl (by omega) dX12_begin_66 (fun H locs hW hL => ?_)
        have F_36 : Fr S (uF (uF (uF (uF (uF (uF (uF (uF (uF (uF S 231 61 1) 231 68 ct) 231 64 0) 231 65 1) 231 66 0) 231 67 0) 231 69 0) 231 78 0) 231 79 0) 231 70 0) (pl [231, 262, 264, 265, 266]) := F_33.F rfl
        have g_37 : FF S (uF (uF (uF (uF (uF (uF (uF (uF (uF (uF S 231 61 1) 231 68 ct) 231 64 0) 231 65 1) 231 66 0) 231 67 0) 231 69 0) 231 78 0) 231 79 0) 231 70 0) (fl [58, 59, 60, 61, 62, 63, 64, 65, 66, 67, 68, 69, 70, 78, 79, 84, 86]) := FF.F g_34 rfl
        have i_38 : dX G (uF (uF (uF (uF (uF (uF (uF (uF (uF (uF S 231 61 1) 231 68 ct) 231 64 0) 231 65 1) 231 66 0) 231 67 0) 231 69 0) 231 78 0) 231 79 0) 231 70 0) := i_35.F (i := 70) (show 0 ≤ 0 ∧ 0 ≤ 1 from ⟨by omega, by omega⟩)
        refine lv_aload_n hx hb dX12_begin_69 rfl (lv_at hl 0 rfl) ?_
        refine lv_iconst (v := iv 0) hx hb dX12_begin_70 (by decide) ?_
        refine p_X12_520 Cx hW hL (k := 231) (by decide) rfl dX12_begin_71 (fun H locs hW hL => ?_)
        have F_39 : Fr S (uF (uF (uF (uF (uF (uF (uF (uF (uF (uF (uF S 231 61 1) 231 68 ct) 231 64 0) 231 65 1) 231 66 0) 231 67 0) 231 69 0) 231 78 0) 231 79 0) 231 70 0) 231 84 0) (pl [231, 262, 264, 265, 266]) := F_36.F rfl
        have g_40 : FF S (uF (uF (uF (uF (uF (uF (uF (uF (uF (uF (uF S 231 61 1) 231 68 ct) 231 64 0) 231 65 1) 231 66 0) 231 67 0) 231 69 0) 231 78 0) 231 79 0) 231 70 0) 231 84 0) (fl [58, 59, 60, 61, 62, 63, 64, 65, 66, 67, 68, 69, 70, 78, 79, 84, 86]) := FF.F g_37 rfl
        have i_41 : dX G (uF (uF (uF (uF (uF (uF (uF (uF (uF (uF (uF S 231 61 1) 231 68 ct) 231 64 0) 231 65 1) 231 66 0) 231 67 0) 231 69 0) 231 78 0) 231 79 0) 231 70 0) 231 84 0) := i_38.F (i := 84) (show (-2147483648) ≤ 0 ∧ 0 ≤ 2147483647 from ⟨by omega, by omega⟩)
        refine lv_aload_n hx hb dX12_begin_74 rfl (lv_at hl 0 rfl) ?_
        refine lv_iconst (v := iv 0) hx hb dX12_begin_75 (by decide) ?_
        refine p_X12_523 Cx hW hL (k := 231) (by decide) rfl dX12_begin_76 (fun H locs hW hL => ?_)
        have F_42 : Fr S (uF (uF (uF (uF (uF (uF (uF (uF (uF (uF (uF (uF S 231 61 1) 231 68 ct) 231 64 0) 231 65 1) 231 66 0) 231 67 0) 231 69 0) 231 78 0) 231 79 0) 231 70 0) 231 84 0) 231 86 0) (pl [231, 262, 264, 265, 266]) := F_39.F rfl
        have g_43 : FF S (uF (uF (uF (uF (uF (uF (uF (uF (uF (uF (uF (uF S 231 61 1) 231 68 ct) 231 64 0) 231 65 1) 231 66 0) 231 67 0) 231 69 0) 231 78 0) 231 79 0) 231 70 0) 231 84 0) 231 86 0) (fl [58, 59, 60, 61, 62, 63, 64, 65, 66, 67, 68, 69, 70, 78, 79, 84, 86]) := FF.F g_40 rfl
        have i_44 : dX G (uF (uF (uF (uF (uF (uF (uF (uF (uF (uF (uF (uF S 231 61 1) 231 68 ct) 231 64 0) 231 65 1) 231 66 0) 231 67 0) 231 69 0) 231 78 0) 231 79 0) 231 70 0) 231 84 0) 231 86 0) := i_41.F (i := 86) (show (-2147483648) ≤ 0 ∧ 0 ≤ 2147483647 from ⟨by omega, by omega⟩)
        refine lv_aload_n hx hb dX12_begin_79 rfl (lv_at hl 0 rfl) ?_
        refine lv_aload_n hx hb dX12_begin_80 rfl (lv_at hl 0 rfl) ?_
        have q_45 : (-2147483648) ≤ S.1 231 47 ∧ S.1 231 47 ≤ 2147483647 := hI.fi 47
        refine g_X12_468 Cx hW (k := 231) (by decide) rfl (v := S.1 231 47) ((uF_ne (fun h => absurd h.2 (by decide))).trans ((uF_ne (fun h => absurd h.2 (by decide))).trans ((uF_ne (fun h => absurd h.2 (by decide))).trans ((uF_ne (fun h => absurd h.2 (by decide))).trans ((uF_ne (fun h => absurd h.2 (by decide))).trans ((uF_ne (fun h => absurd h.2 (by decide))).trans ((uF_ne (fun h => absurd h.2 (by decide))).trans ((uF_ne (fun h => absurd h.2 (by decide))).trans ((uF_ne (fun h => absurd h.2 (by decide))).trans ((uF_ne (fun h => absurd h.2 (by decide))).trans ((uF_ne (fun h => absurd h.2 (by decide))).trans (uF_ne (fun h => absurd h.2 (by decide)))))))))))))) dX12_begin_81 ?_
        refine p_X12_480 Cx hW hL (k := 231) (by decide) rfl dX12_begin_84 (fun H locs hW hL => ?_)
        have F_46 : Fr S (uF (uF (uF (uF (uF (uF (uF (uF (uF (uF (uF (uF (uF S 231 61 1) 231 68 ct) 231 64 0) 231 65 1) 231 66 0) 231 67 0) 231 69 0) 231 78 0) 231 79 0) 231 70 0) 231 84 0) 231 86 0) 231 63 (S.1 231 47)) (pl [231, 262, 264, 265, 266]) := F_42.F rfl
        have g_47 : FF S (uF (uF (uF (uF (uF (uF (uF (uF (uF (uF (uF (uF (uF S 231 61 1) 231 68 ct) 231 64 0) 231 65 1) 231 66 0) 231 67 0) 231 69 0) 231 78 0) 231 79 0) 231 70 0) 231 84 0) 231 86 0) 231 63 (S.1 231 47)) (fl [58, 59, 60, 61, 62, 63, 64, 65, 66, 67, 68, 69, 70, 78, 79, 84, 86]) := FF.F g_43 rfl
        have i_48 : dX G (uF (uF (uF (uF (uF (uF (uF (uF (uF (uF (uF (uF (uF S 231 61 1) 231 68 ct) 231 64 0) 231 65 1) 231 66 0) 231 67 0) 231 69 0) 231 78 0) 231 79 0) 231 70 0) 231 84 0) 231 86 0) 231 63 (S.1 231 47)) := i_44.F (i := 63) (show (-2147483648) ≤ S.1 231 47 ∧ S.1 231 47 ≤ 2147483647 from ⟨by omega, by omega⟩)
        refine lv_aload_n hx hb dX12_begin_87 rfl (lv_at hl 0 rfl) ?_
        refine lv_aload_n hx hb dX12_begin_88 rfl (lv_at hl 0 rfl) ?_
        refine g_X12_468 Cx hW (k := 231) (by decide) rfl (v := S.1 231 47) ((uF_ne (fun h => absurd h.2 (by decide))).trans ((uF_ne (fun h => absurd h.2 (by decide))).trans ((uF_ne (fun h => absurd h.2 (by decide))).trans ((uF_ne (fun h => absurd h.2 (by decide))).trans ((uF_ne (fun h => absurd h.2 (by decide))).trans ((uF_ne (fun h => absurd h.2 (by decide))).trans ((uF_ne (fun h => absurd h.2 (by decide))).trans ((uF_ne (fun h => absurd h.2 (by decide))).trans ((uF_ne (fun h => absurd h.2 (by decide))).trans ((uF_ne (fun h => absurd h.2 (by decide))).trans ((uF_ne (fun h => absurd h.2 (by decide))).trans ((uF_ne (fun h => absurd h.2 (by decide))).trans (uF_ne (fun h => absurd h.2 (by decide))))))))))))))) dX12_begin_89 ?_
        refine p_X12_483 Cx hW hL (k := 231) (by decide) rfl dX12_begin_92 (fun H locs hW hL => ?_)
        have F_49 : Fr S (uF (uF (uF (uF (uF (uF (uF (uF (uF (uF (uF (uF (uF (uF S 231 61 1) 231 68 ct) 231 64 0) 231 65 1) 231 66 0) 231 67 0) 231 69 0) 231 78 0) 231 79 0) 231 70 0) 231 84 0) 231 86 0) 231 63 (S.1 231 47)) 231 58 (S.1 231 47)) (pl [231, 262, 264, 265, 266]) := F_46.F rfl
        have g_50 : FF S (uF (uF (uF (uF (uF (uF (uF (uF (uF (uF (uF (uF (uF (uF S 231 61 1) 231 68 ct) 231 64 0) 231 65 1) 231 66 0) 231 67 0) 231 69 0) 231 78 0) 231 79 0) 231 70 0) 231 84 0) 231 86 0) 231 63 (S.1 231 47)) 231 58 (S.1 231 47)) (fl [58, 59, 60, 61, 62, 63, 64, 65, 66, 67, 68, 69, 70, 78, 79, 84, 86]) := FF.F g_47 rfl
        have i_51 : dX G (uF (uF (uF (uF (uF (uF (uF (uF (uF (uF (uF (uF (uF (uF S 231 61 1) 231 68 ct) 231 64 0) 231 65 1) 231 66 0) 231 67 0) 231 69 0) 231 78 0) 231 79 0) 231 70 0) 231 84 0) 231 86 0) 231 63 (S.1 231 47)) 231 58 (S.1 231 47)) := i_48.F (i := 58) (show (-2147483648) ≤ S.1 231 47 ∧ S.1 231 47 ≤ 2147483647 from ⟨by omega, by omega⟩)
        refine lv_aload_n hx hb dX12_begin_95 rfl (lv_at hl 0 rfl) ?_
        refine lv_aload_n hx hb dX12_begin_96 rfl (lv_at hl 0 rfl) ?_
        have q_52 : (-2147483648) ≤ S.1 231 46 ∧ S.1 231 46 ≤ 2147483647 := hI.fi 46
        refine g_X12_465 Cx hW (k := 231) (by decide) rfl (v := S.1 231 46) ((uF_ne (fun h => absurd h.2 (by decide))).trans ((uF_ne (fun h => absurd h.2 (by decide))).trans ((uF_ne (fun h => absurd h.2 (by decide))).trans ((uF_ne (fun h => absurd h.2 (by decide))).trans ((uF_ne (fun h => absurd h.2 (by decide))).trans ((uF_ne (fun h => absurd h.2 (by decide))).trans ((uF_ne (fun h => absurd h.2 (by decide))).trans ((uF_ne (fun h => absurd h.2 (by decide))).trans ((uF_ne (fun h => absurd h.2 (by decide))).trans ((uF_ne (fun h => absurd h.2 (by decide))).trans ((uF_ne (fun h => absurd h.2 (by decide))).trans ((uF_ne (fun h => absurd h.2 (by decide))).trans ((uF_ne (fun h => absurd h.2 (by decide))).trans (uF_ne (fun h => absurd h.2 (by decide)))))))))))))))) dX12_begin_97 ?_
        refine p_X12_526 Cx hW hL (k := 231) (by decide) rfl dX12_begin_100 (fun H locs hW hL => ?_)
        have F_53 : Fr S (uF (uF (uF (uF (uF (uF (uF (uF (uF (uF (uF (uF (uF (uF (uF S 231 61 1) 231 68 ct) 231 64 0) 231 65 1) 231 66 0) 231 67 0) 231 69 0) 231 78 0) 231 79 0) 231 70 0) 231 84 0) 231 86 0) 231 63 (S.1 231 47)) 231 58 (S.1 231 47)) 231 59 (S.1 231 46)) (pl [231, 262, 264, 265, 266]) := F_49.F rfl
        have g_54 : FF S (uF (uF (uF (uF (uF (uF (uF (uF (uF (uF (uF (uF (uF (uF (uF S 231 61 1) 231 68 ct) 231 64 0) 231 65 1) 231 66 0) 231 67 0) 231 69 0) 231 78 0) 231 79 0) 231 70 0) 231 84 0) 231 86 0) 231 63 (S.1 231 47)) 231 58 (S.1 231 47)) 231 59 (S.1 231 46)) (fl [58, 59, 60, 61, 62, 63, 64, 65, 66, 67, 68, 69, 70, 78, 79, 84, 86]) := FF.F g_50 rfl
        have i_55 : dX G (uF (uF (uF (uF (uF (uF (uF (uF (uF (uF (uF (uF (uF (uF (uF S 231 61 1) 231 68 ct) 231 64 0) 231 65 1) 231 66 0) 231 67 0) 231 69 0) 231 78 0) 231 79 0) 231 70 0) 231 84 0) 231 86 0) 231 63 (S.1 231 47)) 231 58 (S.1 231 47)) 231 59 (S.1 231 46)) := i_51.F (i := 59) (show (-2147483648) ≤ S.1 231 46 ∧ S.1 231 46 ≤ 2147483647 from ⟨by omega, by omega⟩)
        refine lv_iconst (v := iv 0) hx hb dX12_begin_103 (by decide) ?_
        refine lv_istore_n (lv' := [(2, .int (iv 0)), (0, .ref (G.2.2.1 + 231)), (1, .int (iv ct))]) hx hb dX12_begin_104 rfl hl (by decide) rfl (fun ls hl => ?_)
        have loop_105 : ∀ (fuel : Nat) (S105 : sS) (k : Int) (H : Heap) (locs : List Loc) (ls : Array Slot), (5280 - k).toNat < fuel → (dX G S105) → (Fr S S105 (pl [231, 262, 264, 265, 266])) → (Fr ((uF (uF (uF (uF (uF (uF (uF (uF (uF (uF (uF (uF (uF (uF (uF S 231 61 1) 231 68 ct) 231 64 0) 231 65 1) 231 66 0) 231 67 0) 231 69 0) 231 78 0) 231 79 0) 231 70 0) 231 84 0) 231 86 0) 231 63 (S.1 231 47)) 231 58 (S.1 231 47)) 231 59 (S.1 231 46))) S105 (pl [262])) → (FF S S105 (fl [58, 59, 60, 61, 62, 63, 64, 65, 66, 67, 68, 69, 70, 78, 79, 84, 86])) → (FF ((uF (uF (uF (uF (uF (uF (uF (uF (uF (uF (uF (uF (uF (uF (uF S 231 61 1) 231 68 ct) 231 64 0) 231 65 1) 231 66 0) 231 67 0) 231 69 0) 231 78 0) 231 79 0) 231 70 0) 231 84 0) 231 86 0) 231 63 (S.1 231 47)) 231 58 (S.1 231 47)) 231 59 (S.1 231 46))) S105 (fl [])) → (0 ≤ k ∧ k ≤ 5280) → (∀ x, 0 ≤ x → x < k → S105.2.1 262 x = 0) → sW G 294 S105 H → sL G locs → lv_has ls 5 [(2, .int (iv k)), (0, .ref (G.2.2.1 + 231)), (1, .int (iv ct))] → W p l e (rmk 3 0 0) s m args below meth c H locs 0 0 (MQ below (sQi G 294 (fun r u => dX G u ∧ Fr S u (pl [231, 262, 264, 265, 266]) ∧ FF S u (fl [58, 59, 60, 61, 62, 63, 64, 65, 66, 67, 68, 69, 70, 78, 79, 84, 86]) ∧ ((0 ≤ r ∧ r ≤ 1) ∧ Hd (r = 0 → u = S) ∧ Hd (r = 1 → GI u ∧ u.1 231 61 = 1 ∧ u.1 231 70 = 0) ∧ (r = 1 ↔ (S.1 231 45 = 1 ∧ 0 ≤ ct ∧ ct ≤ 20))))) args s 0 0 (sF G)) (F0 m 105 ls []) := by
          intro fuel
          induction fuel with
          | zero => intro S105 k H locs ls hmeas hI105 hFm105 hL105_ hGm105 gL105_ hk hz hW hL hl; exact absurd hmeas (Nat.not_lt_zero _)
          | succ fuel ih_105 =>
            intro S105 k H locs ls hmeas hI105 hFm105 hL105_ hGm105 gL105_ hk hz hW hL hl
            refine lv_iload_n hx hb dX12_begin_105 rfl (lv_at hl 0 rfl) ?_
            refine lv_sipush (v := iv 5280) hx hb dX12_begin_106 (by decide) ?_
            refine r_icmp_ge (tgt := 125) hx hb ⟨(by omega), (by omega)⟩ ⟨(by omega), (by omega)⟩ dX12_begin_109 (by decide) (fun c_56 => ?_) (fun c_56 => ?_)
            · refine lv_aload_n hx hb dX12_begin_125 rfl (lv_at hl 1 rfl) ?_
              refine g_X12_109 Cx hW (k := 231) (by decide) rfl (v := .ref (G.2.2.1 + 264)) (rd_55 hI105) dX12_begin_126 ?_
              refine lv_iconst (v := iv 0) hx hb dX12_begin_129 (by decide) ?_
              refine lv_lconst (v := jv 1) hx hb dX12_begin_130 (by decide) ?_
              refine sBv (sSt (As := [.ref (G.2.2.1 + 264), .int (iv 0), .long (jv 1)]) (rest := []) Cx (s_X12_put l G S105 (ka := 264) (po := 0) (v := 1) (Nka := 8) hI105 ⟨rfl, by decide, by decide, by decide, rfl⟩ (by omega) (by omega)) (c_X12_241 Cx rfl rfl (rmk_ok (by omega) (by decide))) hW rfl hl.1 rfl (Nat.le_of_ble_eq_true rfl) dX12_begin_131 ⟨Nat.le_of_ble_eq_true rfl, Nat.le_of_ble_eq_true rfl⟩) hL (fun u_57 H locs k_58 hW hL => ?_)
              obtain ⟨iu_57, fu_57, xu_57⟩ := k_58
              have F_59 := hFm105.trans (fu_57.to (p1_sub rfl))
              have g_60 : FF S u_57 (fl [58, 59, 60, 61, 62, 63, 64, 65, 66, 67, 68, 69, 70, 78, 79, 84, 86]) := FF.fr hGm105 fu_57 rfl
              have g_61 : FF ((uF (uF (uF (uF (uF (uF (uF (uF (uF (uF (uF (uF (uF (uF (uF S 231 61 1) 231 68 ct) 231 64 0) 231 65 1) 231 66 0) 231 67 0) 231 69 0) 231 78 0) 231 79 0) 231 70 0) 231 84 0) 231 86 0) 231 63 (S.1 231 47)) 231 58 (S.1 231 47)) 231 59 (S.1 231 46))) u_57 (fl []) := FF.fr gL105_ fu_57 rfl
              refine lv_iconst (v := iv 0) hx hb dX12_begin_134 (by decide) ?_
              refine lv_istore_n (lv' := [(2, .int (iv 0)), (0, .ref (G.2.2.1 + 231)), (1, .int (iv ct))]) hx hb dX12_begin_135 rfl hl (by decide) rfl (fun ls hl => ?_)
              refine lv_iconst (v := iv 0) hx hb dX12_begin_136 (by decide) ?_
              refine lv_istore_n (lv' := [(3, .int (iv 0)), (2, .int (iv 0)), (0, .ref (G.2.2.1 + 231)), (1, .int (iv ct))]) hx hb dX12_begin_137 rfl hl (by decide) rfl (fun ls hl => ?_)
              have loop_138 : ∀ (fuel : Nat) (S138 : sS) (j : Int) (H : Heap) (locs : List Loc) (ls : Array Slot), (S.1 231 46 + 1 - j).toNat < fuel → (dX G S138) → (Fr S S138 (pl [231, 262, 264, 265, 266])) → (Fr u_57 S138 (pl [262, 266])) → (FF S S138 (fl [58, 59, 60, 61, 62, 63, 64, 65, 66, 67, 68, 69, 70, 78, 79, 84, 86])) → (FF u_57 S138 (fl [])) → (0 ≤ j ∧ j ≤ S.1 231 46 + 1) → (BGo (S138.2.1 262) (bgv S) (8 * j)) → (∀ x, 1 ≤ x → x < j → S138.2.1 266 x = x) → sW G 294 S138 H → sL G locs → lv_has ls 5 [(3, .int (iv j)), (2, .int (iv 0)), (0, .ref (G.2.2.1 + 231)), (1, .int (iv ct))] → W p l e (rmk 3 0 0) s m args below meth c H locs 0 0 (MQ below (sQi G 294 (fun r u => dX G u ∧ Fr S u (pl [231, 262, 264, 265, 266]) ∧ FF S u (fl [58, 59, 60, 61, 62, 63, 64, 65, 66, 67, 68, 69, 70, 78, 79, 84, 86]) ∧ ((0 ≤ r ∧ r ≤ 1) ∧ Hd (r = 0 → u = S) ∧ Hd (r = 1 → GI u ∧ u.1 231 61 = 1 ∧ u.1 231 70 = 0) ∧ (r = 1 ↔ (S.1 231 45 = 1 ∧ 0 ≤ ct ∧ ct ≤ 20))))) args s 0 0 (sF G)) (F0 m 138 ls []) := by
                intro fuel
                induction fuel with
                | zero => intro S138 j H locs ls hmeas hI138 hFm138 hL138_ hGm138 gL138_ hj hG hO hW hL hl; exact absurd hmeas (Nat.not_lt_zero _)
                | succ fuel ih_138 =>
                  intro S138 j H locs ls hmeas hI138 hFm138 hL138_ hGm138 gL138_ hj hG hO hW hL hl
                  refine lv_iload_n hx hb dX12_begin_138 rfl (lv_at hl 0 rfl) ?_
                  refine lv_aload_n hx hb dX12_begin_139 rfl (lv_at hl 2 rfl) ?_
                  refine g_X12_465 Cx hW (k := 231) (by decide) rfl (v := S.1 231 46) ((gL138_ 46 rfl).trans (((fu_57 231 rfl).1 46).trans ((gL105_ 46 rfl).trans ((uF_ne (fun h => absurd h.2 (by decide))).trans ((uF_ne (fun h => absurd h.2 (by decide))).trans ((uF_ne (fun h => absurd h.2 (by decide))).trans ((uF_ne (fun h => absurd h.2 (by decide))).trans ((uF_ne (fun h => absurd h.2 (by decide))).trans ((uF_ne (fun h => absurd h.2 (by decide))).trans ((uF_ne (fun h => absurd h.2 (by decide))).trans ((uF_ne (fun h => absurd h.2 (by decide))).trans ((uF_ne (fun h => absurd h.2 (by decide))).trans ((uF_ne (fun h => absurd h.2 (by decide))).trans ((uF_ne (fun h => absurd h.2 (by decide))).trans ((uF_ne (fun h => absurd h.2 (by decide))).trans ((uF_ne (fun h => absurd h.2 (by decide))).trans ((uF_ne (fun h => absurd h.2 (by decide))).trans (uF_ne (fun h => absurd h.2 (by decide)))))))))))))))))))) dX12_begin_140 ?_
                  refine r_icmp_gt (tgt := 196) hx hb ⟨(by omega), (by omega)⟩ ⟨(by omega), (by omega)⟩ dX12_begin_143 (by decide) (fun c_62 => ?_) (fun c_62 => ?_)
                  · refine lv_iconst (v := iv 1) hx hb dX12_begin_196 (by decide) ?_
                    refine lv_istore_n (lv' := [(3, .int (iv 1)), (2, .int (iv 0)), (0, .ref (G.2.2.1 + 231)), (1, .int (iv ct))]) hx hb dX12_begin_197 rfl hl (by decide) rfl (fun ls hl => ?_)
                    have loop_198 : ∀ (fuel : Nat) (S198 : sS) (i : Int) (bl : Int) (H : Heap) (locs : List Loc) (ls : Array Slot), (S.1 231 47 + 1 - i).toNat < fuel → (dX G S198) → (Fr S S198 (pl [231, 262, 264, 265, 266])) → (Fr S138 S198 (pl [262, 265])) → (FF S S198 (fl [58, 59, 60, 61, 62, 63, 64, 65, 66, 67, 68, 69, 70, 78, 79, 84, 86])) → (FF S138 S198 (fl [])) → (1 ≤ i ∧ i ≤ S.1 231 47 + 1) → ((0 ≤ bl ∧ bl ≤ 1) ∧ (i = 1 → bl = 0)) → (BGo (S198.2.1 262) (bgv S) (8 * (15 * (i + 1)))) → (∀ x, 1 ≤ x → x < i → S198.2.1 265 x = S.1 231 46 + x) → sW G 294 S198 H → sL G locs → lv_has ls 5 [(3, .int (iv i)), (2, .int (iv bl)), (0, .ref (G.2.2.1 + 231)), (1, .int (iv ct))] → W p l e (rmk 3 0 0) s m args below meth c H locs 0 0 (MQ below (sQi G 294 (fun r u => dX G u ∧ Fr S u (pl [231, 262, 264, 265, 266]) ∧ FF S u (fl [58, 59, 60, 61, 62, 63, 64, 65, 66, 67, 68, 69, 70, 78, 79, 84, 86]) ∧ ((0 ≤ r ∧ r ≤ 1) ∧ Hd (r = 0 → u = S) ∧ Hd (r = 1 → GI u ∧ u.1 231 61 = 1 ∧ u.1 231 70 = 0) ∧ (r = 1 ↔ (S.1 231 45 = 1 ∧ 0 ≤ ct ∧ ct ≤ 20))))) args s 0 0 (sF G)) (F0 m 198 ls []) := by
                      intro fuel
                      induction fuel with
                      | zero => intro S198 i bl H locs ls hmeas hI198 hFm198 hL198_ hGm198 gL198_ hi hbl hG2 hB hW hL hl; exact absurd hmeas (Nat.not_lt_zero _)
                      | succ fuel ih_198 =>
                        intro S198 i bl H locs ls hmeas hI198 hFm198 hL198_ hGm198 gL198_ hi hbl hG2 hB hW hL hl
                        refine lv_iload_n hx hb dX12_begin_198 rfl (lv_at hl 0 rfl) ?_
                        refine lv_aload_n hx hb dX12_begin_199 rfl (lv_at hl 2 rfl) ?_
                        refine g_X12_468 Cx hW (k := 231) (by decide) rfl (v := S.1 231 47) ((gL198_ 47 rfl).trans ((gL138_ 47 rfl).trans (((fu_57 231 rfl).1 47).trans ((gL105_ 47 rfl).trans ((uF_ne (fun h => absurd h.2 (by decide))).trans ((uF_ne (fun h => absurd h.2 (by decide))).trans ((uF_ne (fun h => absurd h.2 (by decide))).trans ((uF_ne (fun h => absurd h.2 (by decide))).trans ((uF_ne (fun h => absurd h.2 (by decide))).trans ((uF_ne (fun h => absurd h.2 (by decide))).trans ((uF_ne (fun h => absurd h.2 (by decide))).trans ((uF_ne (fun h => absurd h.2 (by decide))).trans ((uF_ne (fun h => absurd h.2 (by decide))).trans ((uF_ne (fun h => absurd h.2 (by decide))).trans ((uF_ne (fun h => absurd h.2 (by decide))).trans ((uF_ne (fun h => absurd h.2 (by decide))).trans ((uF_ne (fun h => absurd h.2 (by decide))).trans ((uF_ne (fun h => absurd h.2 (by decide))).trans (uF_ne (fun h => absurd h.2 (by decide))))))))))))))))))))) dX12_begin_200 ?_
                        refine r_icmp_gt (tgt := 292) hx hb ⟨(by omega), (by omega)⟩ ⟨(by omega), (by omega)⟩ dX12_begin_203 (by decide) (fun c_63 => ?_) (fun c_63 => ?_)
                        · have hGz : BGa (S198.2.1 262) (bgv S) := BGo.all (hG2.skip (by omega) (fun a b a0 _ b0 b1 k _ => bgv_z3 (by omega) a0 ⟨b0, b1⟩ (by rw [show S.1 231 47 + 1 = i by omega]; exact k)))
                          refine lv_aload_n hx hb dX12_begin_292 rfl (lv_at hl 2 rfl) ?_
                          have join_302 : ∀ (sg : Int) (H : Heap) (locs : List Loc) (ls : Array Slot), ((bl = 0 → sg = 3) ∧ (bl ≠ 0 → sg = 0)) → sW G 294 S198 H → sL G locs → lv_has ls 5 [(3, .int (iv i)), (2, .int (iv bl)), (0, .ref (G.2.2.1 + 231)), (1, .int (iv ct))] → W p l e (rmk 3 0 0) s m args below meth c H locs 0 0 (MQ below (sQi G 294 (fun r u => dX G u ∧ Fr S u (pl [231, 262, 264, 265, 266]) ∧ FF S u (fl [58, 59, 60, 61, 62, 63, 64, 65, 66, 67, 68, 69, 70, 78, 79, 84, 86]) ∧ ((0 ≤ r ∧ r ≤ 1) ∧ Hd (r = 0 → u = S) ∧ Hd (r = 1 → GI u ∧ u.1 231 61 = 1 ∧ u.1 231 70 = 0) ∧ (r = 1 ↔ (S.1 231 45 = 1 ∧ 0 ≤ ct ∧ ct ≤ 20))))) args s 0 0 (sF G)) (F0 m 302 ls [.int (iv sg), .ref (G.2.2.1 + 231)]) := by
                            intro sg H locs ls hsg hW hL hl
                            refine p_X12_532 Cx hW hL (k := 231) (by decide) rfl dX12_begin_302 (fun H locs hW hL => ?_)
                            have F_64 : Fr S (uF S198 231 62 sg) (pl [231, 262, 264, 265, 266]) := hFm198.F rfl
                            have g_65 : FF S (uF S198 231 62 sg) (fl [58, 59, 60, 61, 62, 63, 64, 65, 66, 67, 68, 69, 70, 78, 79, 84, 86]) := FF.F hGm198 rfl
                            have i_66 : dX G (uF S198 231 62 sg) := hI198.F (i := 62) (show (-2147483648) ≤ sg ∧ sg ≤ 2147483647 from ⟨by omega, by omega⟩)
                            refine lv_aload_n hx hb dX12_begin_305 rfl (lv_at hl 2 rfl) ?_
                            refine lv_iload_n hx hb dX12_begin_306 rfl (lv_at hl 1 rfl) ?_
                            refine p_X12_535 Cx hW hL (k := 231) (by decide) rfl (by omega) dX12_begin_307 (fun H locs hW hL => ?_)
                            have F_67 : Fr S (uF (uF S198 231 62 sg) 231 60 bl) (pl [231, 262, 264, 265, 266]) := F_64.F rfl
                            have g_68 : FF S (uF (uF S198 231 62 sg) 231 60 bl) (fl [58, 59, 60, 61, 62, 63, 64, 65, 66, 67, 68, 69, 70, 78, 79, 84, 86]) := FF.F g_65 rfl
                            have i_69 : dX G (uF (uF S198 231 62 sg) 231 60 bl) := i_66.F (i := 60) (show 0 ≤ bl ∧ bl ≤ 1 from ⟨by omega, by omega⟩)
                            refine lv_iload_n hx hb dX12_begin_310 rfl (lv_at hl 1 rfl) ?_
                            refine r_if_eq (tgt := 388) hx hb ⟨(by omega), (by omega)⟩ dX12_begin_311 (by decide) (fun c_70 => ?_) (fun c_70 => ?_)
                            · refine lv_iconst (v := iv 1) hx hb dX12_begin_388 (by decide) ?_
                              have lk_71 : (uF (uF S198 231 62 sg) 231 60 bl).1 231 61 = 1 := (uF_ne (fun h => absurd h.2 (by decide))).trans ((uF_ne (fun h => absurd h.2 (by decide))).trans ((gL198_ 61 rfl).trans ((gL138_ 61 rfl).trans (((fu_57 231 rfl).1 61).trans ((gL105_ 61 rfl).trans ((uF_ne (fun h => absurd h.2 (by decide))).trans ((uF_ne (fun h => absurd h.2 (by decide))).trans ((uF_ne (fun h => absurd h.2 (by decide))).trans ((uF_ne (fun h => absurd h.2 (by decide))).trans ((uF_ne (fun h => absurd h.2 (by decide))).trans ((uF_ne (fun h => absurd h.2 (by decide))).trans ((uF_ne (fun h => absurd h.2 (by decide))).trans ((uF_ne (fun h => absurd h.2 (by decide))).trans ((uF_ne (fun h => absurd h.2 (by decide))).trans ((uF_ne (fun h => absurd h.2 (by decide))).trans ((uF_ne (fun h => absurd h.2 (by decide))).trans ((uF_ne (fun h => absurd h.2 (by decide))).trans ((uF_ne (fun h => absurd h.2 (by decide))).trans ((uF_ne (fun h => absurd h.2 (by decide))).trans (uF_on))))))))))))))))))))
                              have lk_72 : (uF (uF S198 231 62 sg) 231 60 bl).1 231 70 = 0 := (uF_ne (fun h => absurd h.2 (by decide))).trans ((uF_ne (fun h => absurd h.2 (by decide))).trans ((gL198_ 70 rfl).trans ((gL138_ 70 rfl).trans (((fu_57 231 rfl).1 70).trans ((gL105_ 70 rfl).trans ((uF_ne (fun h => absurd h.2 (by decide))).trans ((uF_ne (fun h => absurd h.2 (by decide))).trans ((uF_ne (fun h => absurd h.2 (by decide))).trans ((uF_ne (fun h => absurd h.2 (by decide))).trans ((uF_ne (fun h => absurd h.2 (by decide))).trans (uF_on)))))))))))
                              exact sZret Cx hr hlk hW hL (by omega) ⟨i_69, F_67, g_68, ⟨(by omega), (fun q => absurd q (by omega)), (fun _ => ⟨begin_GI (S := S) (hw := 0) hMR (by have e8 := (show (uF (uF S198 231 62 sg) 231 60 bl).1 231 46 = S.1 231 46 from (uF_ne (fun h => absurd h.2 (by decide))).trans ((uF_ne (fun h => absurd h.2 (by decide))).trans ((gL198_ 46 rfl).trans ((gL138_ 46 rfl).trans (((fu_57 231 rfl).1 46).trans ((gL105_ 46 rfl).trans ((uF_ne (fun h => absurd h.2 (by decide))).trans ((uF_ne (fun h => absurd h.2 (by decide))).trans ((uF_ne (fun h => absurd h.2 (by decide))).trans ((uF_ne (fun h => absurd h.2 (by decide))).trans ((uF_ne (fun h => absurd h.2 (by decide))).trans ((uF_ne (fun h => absurd h.2 (by decide))).trans ((uF_ne (fun h => absurd h.2 (by decide))).trans ((uF_ne (fun h => absurd h.2 (by decide))).trans ((uF_ne (fun h => absurd h.2 (by decide))).trans ((uF_ne (fun h => absurd h.2 (by decide))).trans ((uF_ne (fun h => absurd h.2 (by decide))).trans ((uF_ne (fun h => absurd h.2 (by decide))).trans ((uF_ne (fun h => absurd h.2 (by decide))).trans ((uF_ne (fun h => absurd h.2 (by decide))).trans (uF_ne (fun h => absurd h.2 (by decide))))))))))))))))))))))); omega) (by have e8 := (show (uF (uF S198 231 62 sg) 231 60 bl).1 231 47 = S.1 231 47 from (uF_ne (fun h => absurd h.2 (by decide))).trans ((uF_ne (fun h => absurd h.2 (by decide))).trans ((gL198_ 47 rfl).trans ((gL138_ 47 rfl).trans (((fu_57 231 rfl).1 47).trans ((gL105_ 47 rfl).trans ((uF_ne (fun h => absurd h.2 (by decide))).trans ((uF_ne (fun h => absurd h.2 (by decide))).trans ((uF_ne (fun h => absurd h.2 (by decide))).trans ((uF_ne (fun h => absurd h.2 (by decide))).trans ((uF_ne (fun h => absurd h.2 (by decide))).trans ((uF_ne (fun h => absurd h.2 (by decide))).trans ((uF_ne (fun h => absurd h.2 (by decide))).trans ((uF_ne (fun h => absurd h.2 (by decide))).trans ((uF_ne (fun h => absurd h.2 (by decide))).trans ((uF_ne (fun h => absurd h.2 (by decide))).trans ((uF_ne (fun h => absurd h.2 (by decide))).trans ((uF_ne (fun h => absurd h.2 (by decide))).trans ((uF_ne (fun h => absurd h.2 (by decide))).trans ((uF_ne (fun h => absurd h.2 (by decide))).trans (uF_ne (fun h => absurd h.2 (by decide))))))))))))))))))))))); omega) (by have e8 := (show (uF (uF S198 231 62 sg) 231 60 bl).1 231 58 = S.1 231 47 from (uF_ne (fun h => absurd h.2 (by decide))).trans ((uF_ne (fun h => absurd h.2 (by decide))).trans ((gL198_ 58 rfl).trans ((gL138_ 58 rfl).trans (((fu_57 231 rfl).1 58).trans ((gL105_ 58 rfl).trans ((uF_ne (fun h => absurd h.2 (by decide))).trans (uF_on)))))))); omega) (by have e8 := (show (uF (uF S198 231 62 sg) 231 60 bl).1 231 59 = S.1 231 46 from (uF_ne (fun h => absurd h.2 (by decide))).trans ((uF_ne (fun h => absurd h.2 (by decide))).trans ((gL198_ 59 rfl).trans ((gL138_ 59 rfl).trans (((fu_57 231 rfl).1 59).trans ((gL105_ 59 rfl).trans (uF_on))))))); omega) (by have e8 := (show (uF (uF S198 231 62 sg) 231 60 bl).1 231 60 = bl from uF_on); omega) (.inl ⟨rfl, (by have e8 := (show (uF (uF S198 231 62 sg) 231 60 bl).1 231 62 = sg from (uF_ne (fun h => absurd h.2 (by decide))).trans (uF_on)); omega)⟩) (by have e8 := (show (uF (uF S198 231 62 sg) 231 60 bl).1 231 63 = S.1 231 47 from (uF_ne (fun h => absurd h.2 (by decide))).trans ((uF_ne (fun h => absurd h.2 (by decide))).trans ((gL198_ 63 rfl).trans ((gL138_ 63 rfl).trans (((fu_57 231 rfl).1 63).trans ((gL105_ 63 rfl).trans ((uF_ne (fun h => absurd h.2 (by decide))).trans ((uF_ne (fun h => absurd h.2 (by decide))).trans (uF_on))))))))); omega) (by have e8 := (show (uF (uF S198 231 62 sg) 231 60 bl).1 231 65 = 1 from (uF_ne (fun h => absurd h.2 (by decide))).trans ((uF_ne (fun h => absurd h.2 (by decide))).trans ((gL198_ 65 rfl).trans ((gL138_ 65 rfl).trans (((fu_57 231 rfl).1 65).trans ((gL105_ 65 rfl).trans ((uF_ne (fun h => absurd h.2 (by decide))).trans ((uF_ne (fun h => absurd h.2 (by decide))).trans ((uF_ne (fun h => absurd h.2 (by decide))).trans ((uF_ne (fun h => absurd h.2 (by decide))).trans ((uF_ne (fun h => absurd h.2 (by decide))).trans ((uF_ne (fun h => absurd h.2 (by decide))).trans ((uF_ne (fun h => absurd h.2 (by decide))).trans ((uF_ne (fun h => absurd h.2 (by decide))).trans ((uF_ne (fun h => absurd h.2 (by decide))).trans ((uF_ne (fun h => absurd h.2 (by decide))).trans ((uF_ne (fun h => absurd h.2 (by decide))).trans (uF_on)))))))))))))))))); omega) (by have e8 := (show (uF (uF S198 231 62 sg) 231 60 bl).1 231 68 = ct from (uF_ne (fun h => absurd h.2 (by decide))).trans ((uF_ne (fun h => absurd h.2 (by decide))).trans ((gL198_ 68 rfl).trans ((gL138_ 68 rfl).trans (((fu_57 231 rfl).1 68).trans ((gL105_ 68 rfl).trans ((uF_ne (fun h => absurd h.2 (by decide))).trans ((uF_ne (fun h => absurd h.2 (by decide))).trans ((uF_ne (fun h => absurd h.2 (by decide))).trans ((uF_ne (fun h => absurd h.2 (by decide))).trans ((uF_ne (fun h => absurd h.2 (by decide))).trans ((uF_ne (fun h => absurd h.2 (by decide))).trans ((uF_ne (fun h => absurd h.2 (by decide))).trans ((uF_ne (fun h => absurd h.2 (by decide))).trans ((uF_ne (fun h => absurd h.2 (by decide))).trans ((uF_ne (fun h => absurd h.2 (by decide))).trans ((uF_ne (fun h => absurd h.2 (by decide))).trans ((uF_ne (fun h => absurd h.2 (by decide))).trans ((uF_ne (fun h => absurd h.2 (by decide))).trans (uF_on)))))))))))))))))))); omega) (by have e8 := (show (uF (uF S198 231 62 sg) 231 60 bl).1 231 69 = 0 from (uF_ne (fun h => absurd h.2 (by decide))).trans ((uF_ne (fun h => absurd h.2 (by decide))).trans ((gL198_ 69 rfl).trans ((gL138_ 69 rfl).trans (((fu_57 231 rfl).1 69).trans ((gL105_ 69 rfl).trans ((uF_ne (fun h => absurd h.2 (by decide))).trans ((uF_ne (fun h => absurd h.2 (by decide))).trans ((uF_ne (fun h => absurd h.2 (by decide))).trans ((uF_ne (fun h => absurd h.2 (by decide))).trans ((uF_ne (fun h => absurd h.2 (by decide))).trans ((uF_ne (fun h => absurd h.2 (by decide))).trans ((uF_ne (fun h => absurd h.2 (by decide))).trans ((uF_ne (fun h => absurd h.2 (by decide))).trans (uF_on))))))))))))))); omega) (by have e8 := (show (uF (uF S198 231 62 sg) 231 60 bl).1 231 78 = 0 from (uF_ne (fun h => absurd h.2 (by decide))).trans ((uF_ne (fun h => absurd h.2 (by decide))).trans ((gL198_ 78 rfl).trans ((gL138_ 78 rfl).trans (((fu_57 231 rfl).1 78).trans ((gL105_ 78 rfl).trans ((uF_ne (fun h => absurd h.2 (by decide))).trans ((uF_ne (fun h => absurd h.2 (by decide))).trans ((uF_ne (fun h => absurd h.2 (by decide))).trans ((uF_ne (fun h => absurd h.2 (by decide))).trans ((uF_ne (fun h => absurd h.2 (by decide))).trans ((uF_ne (fun h => absurd h.2 (by decide))).trans ((uF_ne (fun h => absurd h.2 (by decide))).trans (uF_on)))))))))))))); omega) (by have e8 := (show (uF (uF S198 231 62 sg) 231 60 bl).1 231 79 = 0 from (uF_ne (fun h => absurd h.2 (by decide))).trans ((uF_ne (fun h => absurd h.2 (by decide))).trans ((gL198_ 79 rfl).trans ((gL138_ 79 rfl).trans (((fu_57 231 rfl).1 79).trans ((gL105_ 79 rfl).trans ((uF_ne (fun h => absurd h.2 (by decide))).trans ((uF_ne (fun h => absurd h.2 (by decide))).trans ((uF_ne (fun h => absurd h.2 (by decide))).trans ((uF_ne (fun h => absurd h.2 (by decide))).trans ((uF_ne (fun h => absurd h.2 (by decide))).trans ((uF_ne (fun h => absurd h.2 (by decide))).trans (uF_on))))))))))))); omega) (by have e8 := (show (uF (uF S198 231 62 sg) 231 60 bl).1 231 84 = 0 from (uF_ne (fun h => absurd h.2 (by decide))).trans ((uF_ne (fun h => absurd h.2 (by decide))).trans ((gL198_ 84 rfl).trans ((gL138_ 84 rfl).trans (((fu_57 231 rfl).1 84).trans ((gL105_ 84 rfl).trans ((uF_ne (fun h => absurd h.2 (by decide))).trans ((uF_ne (fun h => absurd h.2 (by decide))).trans ((uF_ne (fun h => absurd h.2 (by decide))).trans ((uF_ne (fun h => absurd h.2 (by decide))).trans (uF_on))))))))))); omega) (by have e8 := (show (uF (uF S198 231 62 sg) 231 60 bl).1 231 86 = 0 from (uF_ne (fun h => absurd h.2 (by decide))).trans ((uF_ne (fun h => absurd h.2 (by decide))).trans ((gL198_ 86 rfl).trans ((gL138_ 86 rfl).trans (((fu_57 231 rfl).1 86).trans ((gL105_ 86 rfl).trans ((uF_ne (fun h => absurd h.2 (by decide))).trans ((uF_ne (fun h => absurd h.2 (by decide))).trans ((uF_ne (fun h => absurd h.2 (by decide))).trans (uF_on)))))))))); omega) (funext fun j => (uF_a).trans ((uF_a).trans (((hL198_ 261 rfl).2.1 j).trans (((hL138_ 261 rfl).2.1 j).trans (((fu_57 261 rfl).2.1 j).trans (((hL105_ 261 rfl).2.1 j).trans ((uF_a).trans ((uF_a).trans ((uF_a).trans ((uF_a).trans ((uF_a).trans ((uF_a).trans ((uF_a).trans ((uF_a).trans ((uF_a).trans ((uF_a).trans ((uF_a).trans ((uF_a).trans ((uF_a).trans ((uF_a).trans (uF_a))))))))))))))))))))) (funext fun j => (uF_l).trans ((uF_l).trans (((hL198_ 260 rfl).2.2.1 j).trans (((hL138_ 260 rfl).2.2.1 j).trans (((fu_57 260 rfl).2.2.1 j).trans (((hL105_ 260 rfl).2.2.1 j).trans ((uF_l).trans ((uF_l).trans ((uF_l).trans ((uF_l).trans ((uF_l).trans ((uF_l).trans ((uF_l).trans ((uF_l).trans ((uF_l).trans ((uF_l).trans ((uF_l).trans ((uF_l).trans ((uF_l).trans ((uF_l).trans (uF_l))))))))))))))))))))) (funext fun j => (uF_l).trans ((uF_l).trans (((hL198_ 290 rfl).2.2.1 j).trans (((hL138_ 290 rfl).2.2.1 j).trans (((fu_57 290 rfl).2.2.1 j).trans (((hL105_ 290 rfl).2.2.1 j).trans ((uF_l).trans ((uF_l).trans ((uF_l).trans ((uF_l).trans ((uF_l).trans ((uF_l).trans ((uF_l).trans ((uF_l).trans ((uF_l).trans ((uF_l).trans ((uF_l).trans ((uF_l).trans ((uF_l).trans ((uF_l).trans (uF_l))))))))))))))))))))) (by rw [show (uF (uF S198 231 62 sg) 231 60 bl).2.1 264 = u_57.2.1 264 from (funext fun j => (uF_a).trans ((uF_a).trans (((hL198_ 264 rfl).2.1 j).trans ((hL138_ 264 rfl).2.1 j))))]; exact ⟨xu_57.1, xu_57.2.1⟩) (fun x a b => by rw [show (uF (uF S198 231 62 sg) 231 60 bl).2.1 265 = S198.2.1 265 from (funext fun j => (uF_a).trans (uF_a))]; exact hB x a (by omega)) (fun x a b => by rw [show (uF (uF S198 231 62 sg) 231 60 bl).2.1 266 = S138.2.1 266 from (funext fun j => (uF_a).trans ((uF_a).trans ((hL198_ 266 rfl).2.1 j)))]; exact hO x a (by omega)) (fun q => absurd q (by decide)) (by rw [show (uF (uF S198 231 62 sg) 231 60 bl).2.1 262 = S198.2.1 262 from (funext fun j => (uF_a).trans (uF_a))]; intro c d c0 c1 d0 d1; have k := hGz c d c0 c1 d0 d1; unfold bg2; rw [if_neg (by decide)]; exact k), (show (uF (uF S198 231 62 sg) 231 60 bl).1 231 61 = 1 from (uF_ne (fun h => absurd h.2 (by decide))).trans ((uF_ne (fun h => absurd h.2 (by decide))).trans ((gL198_ 61 rfl).trans ((gL138_ 61 rfl).trans (((fu_57 231 rfl).1 61).trans ((gL105_ 61 rfl).trans ((uF_ne (fun h => absurd h.2 (by decide))).trans ((uF_ne (fun h => absurd h.2 (by decide))).trans ((uF_ne (fun h => absurd h.2 (by decide))).trans ((uF_ne (fun h => absurd h.2 (by decide))).trans ((uF_ne (fun h => absurd h.2 (by decide))).trans ((uF_ne (fun h => absurd h.2 (by decide))).trans ((uF_ne (fun h => absurd h.2 (by decide))).trans ((uF_ne (fun h => absurd h.2 (by decide))).trans ((uF_ne (fun h => absurd h.2 (by decide))).trans ((uF_ne (fun h => absurd h.2 (by decide))).trans ((uF_ne (fun h => absurd h.2 (by decide))).trans ((uF_ne (fun h => absurd h.2 (by decide))).trans ((uF_ne (fun h => absurd h.2 (by decide))).trans ((uF_ne (fun h => absurd h.2 (by decide))).trans (uF_on))))))))))))))))))))), (show (uF (uF S198 231 62 sg) 231 60 bl).1 231 70 = 0 from (uF_ne (fun h => absurd h.2 (by decide))).trans ((uF_ne (fun h => absurd h.2 (by decide))).trans ((gL198_ 70 rfl).trans ((gL138_ 70 rfl).trans (((fu_57 231 rfl).1 70).trans ((gL105_ 70 rfl).trans ((uF_ne (fun h => absurd h.2 (by decide))).trans ((uF_ne (fun h => absurd h.2 (by decide))).trans ((uF_ne (fun h => absurd h.2 (by decide))).trans ((uF_ne (fun h => absurd h.2 (by decide))).trans ((uF_ne (fun h => absurd h.2 (by decide))).trans (uF_on))))))))))))⟩), (by omega)⟩⟩ dX12_begin_389
                            · refine lv_aload_n hx hb dX12_begin_314 rfl (lv_at hl 2 rfl) ?_
                              refine lv_aload_n hx hb dX12_begin_315 rfl (lv_at hl 2 rfl) ?_
                              refine g_X12_465 Cx hW (k := 231) (by decide) rfl (v := S.1 231 46) ((uF_ne (fun h => absurd h.2 (by decide))).trans ((uF_ne (fun h => absurd h.2 (by decide))).trans ((gL198_ 46 rfl).trans ((gL138_ 46 rfl).trans (((fu_57 231 rfl).1 46).trans ((gL105_ 46 rfl).trans ((uF_ne (fun h => absurd h.2 (by decide))).trans ((uF_ne (fun h => absurd h.2 (by decide))).trans ((uF_ne (fun h => absurd h.2 (by decide))).trans ((uF_ne (fun h => absurd h.2 (by decide))).trans ((uF_ne (fun h => absurd h.2 (by decide))).trans ((uF_ne (fun h => absurd h.2 (by decide))).trans ((uF_ne (fun h => absurd h.2 (by decide))).trans ((uF_ne (fun h => absurd h.2 (by decide))).trans ((uF_ne (fun h => absurd h.2 (by decide))).trans ((uF_ne (fun h => absurd h.2 (by decide))).trans ((uF_ne (fun h => absurd h.2 (by decide))).trans ((uF_ne (fun h => absurd h.2 (by decide))).trans ((uF_ne (fun h => absurd h.2 (by decide))).trans ((uF_ne (fun h => absurd h.2 (by decide))).trans (uF_ne (fun h => absurd h.2 (by decide))))))))))))))))))))))) dX12_begin_316 ?_
                              refine lv_iconst (v := iv 1) hx hb dX12_begin_319 (by decide) ?_
                              refine r_iadd hx hb dX12_begin_320 ?_
                              refine p_X12_526 Cx hW hL (k := 231) (by decide) rfl dX12_begin_321 (fun H locs hW hL => ?_)
                              have F_73 : Fr S (uF (uF (uF S198 231 62 sg) 231 60 bl) 231 59 ((S.1 231 46) + 1)) (pl [231, 262, 264, 265, 266]) := F_67.F rfl
                              have g_74 : FF S (uF (uF (uF S198 231 62 sg) 231 60 bl) 231 59 ((S.1 231 46) + 1)) (fl [58, 59, 60, 61, 62, 63, 64, 65, 66, 67, 68, 69, 70, 78, 79, 84, 86]) := FF.F g_68 rfl
                              have i_75 : dX G (uF (uF (uF S198 231 62 sg) 231 60 bl) 231 59 ((S.1 231 46) + 1)) := i_69.F (i := 59) (show (-2147483648) ≤ (S.1 231 46) + 1 ∧ (S.1 231 46) + 1 ≤ 2147483647 from ⟨by omega, by omega⟩)
                              refine lv_aload_n hx hb dX12_begin_324 rfl (lv_at hl 2 rfl) ?_
                              refine g_X12_115 Cx hW (k := 231) (by decide) rfl (v := .ref (G.2.2.1 + 266)) (rd_57 i_75) dX12_begin_325 ?_
                              refine lv_aload_n hx hb dX12_begin_328 rfl (lv_at hl 2 rfl) ?_
                              refine g_X12_526 Cx hW (k := 231) (by decide) rfl (v := (S.1 231 46) + 1) uF_on dX12_begin_329 ?_
                              refine lv_iconst (v := iv 0) hx hb dX12_begin_332 (by decide) ?_
                              refine rIast Cx hW hL (k := 266) (by decide) rfl (by decide) (by omega) (by omega) dX12_begin_333 (fun H locs hW hL => ?_)
                              have F_76 : Fr S (uA (uF (uF (uF S198 231 62 sg) 231 60 bl) 231 59 ((S.1 231 46) + 1)) 266 ((S.1 231 46) + 1) 0) (pl [231, 262, 264, 265, 266]) := F_73.A rfl
                              have i_77 : dX G (uA (uF (uF (uF S198 231 62 sg) 231 60 bl) 231 59 ((S.1 231 46) + 1)) 266 ((S.1 231 46) + 1) 0) := i_75.A (k := 266) (show (-2147483648) ≤ 0 ∧ 0 ≤ 2147483647 from ⟨by omega, by omega⟩)
                              refine lv_iconst (v := iv 1) hx hb dX12_begin_334 (by decide) ?_
                              refine lv_istore_n (lv' := [(3, .int (iv 1)), (2, .int (iv bl)), (0, .ref (G.2.2.1 + 231)), (1, .int (iv ct))]) hx hb dX12_begin_335 rfl hl (by decide) rfl (fun ls hl => ?_)
                              have loop_336 : ∀ (fuel : Nat) (S336 : sS) (i2 : Int) (H : Heap) (locs : List Loc) (ls : Array Slot), (S.1 231 47 + 1 - i2).toNat < fuel → (dX G S336) → (Fr S S336 (pl [231, 262, 264, 265, 266])) → (Fr ((uA (uF (uF (uF S198 231 62 sg) 231 60 bl) 231 59 ((S.1 231 46) + 1)) 266 ((S.1 231 46) + 1) 0)) S336 (pl [262])) → (FF S S336 (fl [58, 59, 60, 61, 62, 63, 64, 65, 66, 67, 68, 69, 70, 78, 79, 84, 86])) → (FF ((uA (uF (uF (uF S198 231 62 sg) 231 60 bl) 231 59 ((S.1 231 46) + 1)) 266 ((S.1 231 46) + 1) 0)) S336 (fl [])) → (1 ≤ i2 ∧ i2 ≤ S.1 231 47 + 1) → (BGa (S336.2.1 262) (bg1 S i2)) → sW G 294 S336 H → sL G locs → lv_has ls 5 [(3, .int (iv i2)), (2, .int (iv bl)), (0, .ref (G.2.2.1 + 231)), (1, .int (iv ct))] → W p l e (rmk 3 0 0) s m args below meth c H locs 0 0 (MQ below (sQi G 294 (fun r u => dX G u ∧ Fr S u (pl [231, 262, 264, 265, 266]) ∧ FF S u (fl [58, 59, 60, 61, 62, 63, 64, 65, 66, 67, 68, 69, 70, 78, 79, 84, 86]) ∧ ((0 ≤ r ∧ r ≤ 1) ∧ Hd (r = 0 → u = S) ∧ Hd (r = 1 → GI u ∧ u.1 231 61 = 1 ∧ u.1 231 70 = 0) ∧ (r = 1 ↔ (S.1 231 45 = 1 ∧ 0 ≤ ct ∧ ct ≤ 20))))) args s 0 0 (sF G)) (F0 m 336 ls []) := by
                                intro fuel
                                induction fuel with
                                | zero => intro S336 i2 H locs ls hmeas hI336 hFm336 hL336_ hGm336 gL336_ hi2 hA hW hL hl; exact absurd hmeas (Nat.not_lt_zero _)
                                | succ fuel ih_336 =>
                                  intro S336 i2 H locs ls hmeas hI336 hFm336 hL336_ hGm336 gL336_ hi2 hA hW hL hl
                                  refine lv_iload_n hx hb dX12_begin_336 rfl (lv_at hl 0 rfl) ?_
                                  refine lv_aload_n hx hb dX12_begin_337 rfl (lv_at hl 2 rfl) ?_
                                  refine g_X12_468 Cx hW (k := 231) (by decide) rfl (v := S.1 231 47) ((gL336_ 47 rfl).trans ((uA_f).trans ((uF_ne (fun h => absurd h.2 (by decide))).trans ((uF_ne (fun h => absurd h.2 (by decide))).trans ((uF_ne (fun h => absurd h.2 (by decide))).trans ((gL198_ 47 rfl).trans ((gL138_ 47 rfl).trans (((fu_57 231 rfl).1 47).trans ((gL105_ 47 rfl).trans ((uF_ne (fun h => absurd h.2 (by decide))).trans ((uF_ne (fun h => absurd h.2 (by decide))).trans ((uF_ne (fun h => absurd h.2 (by decide))).trans ((uF_ne (fun h => absurd h.2 (by decide))).trans ((uF_ne (fun h => absurd h.2 (by decide))).trans ((uF_ne (fun h => absurd h.2 (by decide))).trans ((uF_ne (fun h => absurd h.2 (by decide))).trans ((uF_ne (fun h => absurd h.2 (by decide))).trans ((uF_ne (fun h => absurd h.2 (by decide))).trans ((uF_ne (fun h => absurd h.2 (by decide))).trans ((uF_ne (fun h => absurd h.2 (by decide))).trans ((uF_ne (fun h => absurd h.2 (by decide))).trans ((uF_ne (fun h => absurd h.2 (by decide))).trans ((uF_ne (fun h => absurd h.2 (by decide))).trans (uF_ne (fun h => absurd h.2 (by decide)))))))))))))))))))))))))) dX12_begin_338 ?_
                                  refine r_icmp_gt (tgt := 371) hx hb ⟨(by omega), (by omega)⟩ ⟨(by omega), (by omega)⟩ dX12_begin_341 (by decide) (fun c_78 => ?_) (fun c_78 => ?_)
                                  · refine lv_aload_n hx hb dX12_begin_371 rfl (lv_at hl 2 rfl) ?_
                                    refine g_X12_103 Cx hW (k := 231) (by decide) rfl (v := .ref (G.2.2.1 + 262)) (rd_53 hI336) dX12_begin_372 ?_
                                    refine lv_aload_n hx hb dX12_begin_375 rfl (lv_at hl 2 rfl) ?_
                                    refine lv_iconst (v := iv 1) hx hb dX12_begin_376 (by decide) ?_
                                    refine lv_aload_n hx hb dX12_begin_377 rfl (lv_at hl 2 rfl) ?_
                                    refine g_X12_526 Cx hW (k := 231) (by decide) rfl (v := (S.1 231 46) + 1) ((gL336_ 59 rfl).trans ((uA_f).trans (uF_on))) dX12_begin_378 ?_
                                    refine sBi (sV (As := [.int (iv 1), .int (iv ((S.1 231 46) + 1))]) (rest := [.ref (G.2.2.1 + 262)]) (k := 231) Cx (s_X12_cell l G S336 (i := 1) (j := (S.1 231 46) + 1) (by omega) (by omega)) (c_X12_529 Cx rfl rfl (rmk_ok (by omega) (by decide))) hW (by decide) rfl rfl rfl hl.1 rfl (Nat.le_of_ble_eq_true rfl) dX12_begin_381 ⟨Nat.le_of_ble_eq_true rfl, Nat.le_of_ble_eq_true rfl⟩) hL (fun q4 u_79 H locs k_80 hW hL => ?_)
                                    obtain ⟨eu_79, xu_79⟩ := k_80
                                    rw [eu_79] at hW
                                    refine lv_lconst (v := jv 1) hx hb dX12_begin_384 (by decide) ?_
                                    refine sBv (sSt (As := [.ref (G.2.2.1 + 262), .int (iv q4), .long (jv 1)]) (rest := []) Cx (s_X12_put l G S336 (ka := 262) (po := q4) (v := 1) (Nka := 5280) hI336 ⟨rfl, by decide, by decide, by decide, rfl⟩ (by omega) (by omega)) (c_X12_241 Cx rfl rfl (rmk_ok (by omega) (by decide))) hW rfl hl.1 rfl (Nat.le_of_ble_eq_true rfl) dX12_begin_385 ⟨Nat.le_of_ble_eq_true rfl, Nat.le_of_ble_eq_true rfl⟩) hL (fun u_81 H locs k_82 hW hL => ?_)
                                    obtain ⟨iu_81, fu_81, xu_81⟩ := k_82
                                    have F_83 := hFm336.trans (fu_81.to (p1_sub rfl))
                                    have F_84 := hL336_.trans (fu_81.to (p1_sub rfl))
                                    have g_85 : FF S u_81 (fl [58, 59, 60, 61, 62, 63, 64, 65, 66, 67, 68, 69, 70, 78, 79, 84, 86]) := FF.fr hGm336 fu_81 rfl
                                    have g_86 : FF ((uA (uF (uF (uF S198 231 62 sg) 231 60 bl) 231 59 ((S.1 231 46) + 1)) 266 ((S.1 231 46) + 1) 0)) u_81 (fl []) := FF.fr gL336_ fu_81 rfl
                                    refine lv_iconst (v := iv 1) hx hb dX12_begin_388 (by decide) ?_
                                    have lk_87 : u_81.1 231 61 = 1 := ((fu_81 231 rfl).1 61).trans ((gL336_ 61 rfl).trans ((uA_f).trans ((uF_ne (fun h => absurd h.2 (by decide))).trans ((uF_ne (fun h => absurd h.2 (by decide))).trans ((uF_ne (fun h => absurd h.2 (by decide))).trans ((gL198_ 61 rfl).trans ((gL138_ 61 rfl).trans (((fu_57 231 rfl).1 61).trans ((gL105_ 61 rfl).trans ((uF_ne (fun h => absurd h.2 (by decide))).trans ((uF_ne (fun h => absurd h.2 (by decide))).trans ((uF_ne (fun h => absurd h.2 (by decide))).trans ((uF_ne (fun h => absurd h.2 (by decide))).trans ((uF_ne (fun h => absurd h.2 (by decide))).trans ((uF_ne (fun h => absurd h.2 (by decide))).trans ((uF_ne (fun h => absurd h.2 (by decide))).trans ((uF_ne (fun h => absurd h.2 (by decide))).trans ((uF_ne (fun h => absurd h.2 (by decide))).trans ((uF_ne (fun h => absurd h.2 (by decide))).trans ((uF_ne (fun h => absurd h.2 (by decide))).trans ((uF_ne (fun h => absurd h.2 (by decide))).trans ((uF_ne (fun h => absurd h.2 (by decide))).trans ((uF_ne (fun h => absurd h.2 (by decide))).trans (uF_on))))))))))))))))))))))))
                                    have lk_88 : u_81.1 231 70 = 0 := ((fu_81 231 rfl).1 70).trans ((gL336_ 70 rfl).trans ((uA_f).trans ((uF_ne (fun h => absurd h.2 (by decide))).trans ((uF_ne (fun h => absurd h.2 (by decide))).trans ((uF_ne (fun h => absurd h.2 (by decide))).trans ((gL198_ 70 rfl).trans ((gL138_ 70 rfl).trans (((fu_57 231 rfl).1 70).trans ((gL105_ 70 rfl).trans ((uF_ne (fun h => absurd h.2 (by decide))).trans ((uF_ne (fun h => absurd h.2 (by decide))).trans ((uF_ne (fun h => absurd h.2 (by decide))).trans ((uF_ne (fun h => absurd h.2 (by decide))).trans ((uF_ne (fun h => absurd h.2 (by decide))).trans (uF_on)))))))))))))))
                                    exact sZret Cx hr hlk hW hL (by omega) ⟨iu_81, F_83, g_85, ⟨(by omega), (fun q => absurd q (by omega)), (fun _ => ⟨begin_GI (S := S) (hw := 1) hMR (by have e8 := (show u_81.1 231 46 = S.1 231 46 from ((fu_81 231 rfl).1 46).trans ((gL336_ 46 rfl).trans ((uA_f).trans ((uF_ne (fun h => absurd h.2 (by decide))).trans ((uF_ne (fun h => absurd h.2 (by decide))).trans ((uF_ne (fun h => absurd h.2 (by decide))).trans ((gL198_ 46 rfl).trans ((gL138_ 46 rfl).trans (((fu_57 231 rfl).1 46).trans ((gL105_ 46 rfl).trans ((uF_ne (fun h => absurd h.2 (by decide))).trans ((uF_ne (fun h => absurd h.2 (by decide))).trans ((uF_ne (fun h => absurd h.2 (by decide))).trans ((uF_ne (fun h => absurd h.2 (by decide))).trans ((uF_ne (fun h => absurd h.2 (by decide))).trans ((uF_ne (fun h => absurd h.2 (by decide))).trans ((uF_ne (fun h => absurd h.2 (by decide))).trans ((uF_ne (fun h => absurd h.2 (by decide))).trans ((uF_ne (fun h => absurd h.2 (by decide))).trans ((uF_ne (fun h => absurd h.2 (by decide))).trans ((uF_ne (fun h => absurd h.2 (by decide))).trans ((uF_ne (fun h => absurd h.2 (by decide))).trans ((uF_ne (fun h => absurd h.2 (by decide))).trans ((uF_ne (fun h => absurd h.2 (by decide))).trans (uF_ne (fun h => absurd h.2 (by decide))))))))))))))))))))))))))); omega) (by have e8 := (show u_81.1 231 47 = S.1 231 47 from ((fu_81 231 rfl).1 47).trans ((gL336_ 47 rfl).trans ((uA_f).trans ((uF_ne (fun h => absurd h.2 (by decide))).trans ((uF_ne (fun h => absurd h.2 (by decide))).trans ((uF_ne (fun h => absurd h.2 (by decide))).trans ((gL198_ 47 rfl).trans ((gL138_ 47 rfl).trans (((fu_57 231 rfl).1 47).trans ((gL105_ 47 rfl).trans ((uF_ne (fun h => absurd h.2 (by decide))).trans ((uF_ne (fun h => absurd h.2 (by decide))).trans ((uF_ne (fun h => absurd h.2 (by decide))).trans ((uF_ne (fun h => absurd h.2 (by decide))).trans ((uF_ne (fun h => absurd h.2 (by decide))).trans ((uF_ne (fun h => absurd h.2 (by decide))).trans ((uF_ne (fun h => absurd h.2 (by decide))).trans ((uF_ne (fun h => absurd h.2 (by decide))).trans ((uF_ne (fun h => absurd h.2 (by decide))).trans ((uF_ne (fun h => absurd h.2 (by decide))).trans ((uF_ne (fun h => absurd h.2 (by decide))).trans ((uF_ne (fun h => absurd h.2 (by decide))).trans ((uF_ne (fun h => absurd h.2 (by decide))).trans ((uF_ne (fun h => absurd h.2 (by decide))).trans (uF_ne (fun h => absurd h.2 (by decide))))))))))))))))))))))))))); omega) (by have e8 := (show u_81.1 231 58 = S.1 231 47 from ((fu_81 231 rfl).1 58).trans ((gL336_ 58 rfl).trans ((uA_f).trans ((uF_ne (fun h => absurd h.2 (by decide))).trans ((uF_ne (fun h => absurd h.2 (by decide))).trans ((uF_ne (fun h => absurd h.2 (by decide))).trans ((gL198_ 58 rfl).trans ((gL138_ 58 rfl).trans (((fu_57 231 rfl).1 58).trans ((gL105_ 58 rfl).trans ((uF_ne (fun h => absurd h.2 (by decide))).trans (uF_on)))))))))))); omega) (by have e8 := (show u_81.1 231 59 = (S.1 231 46) + 1 from ((fu_81 231 rfl).1 59).trans ((gL336_ 59 rfl).trans ((uA_f).trans (uF_on)))); omega) (by have e8 := (show u_81.1 231 60 = bl from ((fu_81 231 rfl).1 60).trans ((gL336_ 60 rfl).trans ((uA_f).trans ((uF_ne (fun h => absurd h.2 (by decide))).trans (uF_on))))); omega) (.inr ⟨rfl, (by omega), (by have e8 := (show u_81.1 231 62 = sg from ((fu_81 231 rfl).1 62).trans ((gL336_ 62 rfl).trans ((uA_f).trans ((uF_ne (fun h => absurd h.2 (by decide))).trans ((uF_ne (fun h => absurd h.2 (by decide))).trans (uF_on)))))); omega)⟩) (by have e8 := (show u_81.1 231 63 = S.1 231 47 from ((fu_81 231 rfl).1 63).trans ((gL336_ 63 rfl).trans ((uA_f).trans ((uF_ne (fun h => absurd h.2 (by decide))).trans ((uF_ne (fun h => absurd h.2 (by decide))).trans ((uF_ne (fun h => absurd h.2 (by decide))).trans ((gL198_ 63 rfl).trans ((gL138_ 63 rfl).trans (((fu_57 231 rfl).1 63).trans ((gL105_ 63 rfl).trans ((uF_ne (fun h => absurd h.2 (by decide))).trans ((uF_ne (fun h => absurd h.2 (by decide))).trans (uF_on))))))))))))); omega) (by have e8 := (show u_81.1 231 65 = 1 from ((fu_81 231 rfl).1 65).trans ((gL336_ 65 rfl).trans ((uA_f).trans ((uF_ne (fun h => absurd h.2 (by decide))).trans ((uF_ne (fun h => absurd h.2 (by decide))).trans ((uF_ne (fun h => absurd h.2 (by decide))).trans ((gL198_ 65 rfl).trans ((gL138_ 65 rfl).trans (((fu_57 231 rfl).1 65).trans ((gL105_ 65 rfl).trans ((uF_ne (fun h => absurd h.2 (by decide))).trans ((uF_ne (fun h => absurd h.2 (by decide))).trans ((uF_ne (fun h => absurd h.2 (by decide))).trans ((uF_ne (fun h => absurd h.2 (by decide))).trans ((uF_ne (fun h => absurd h.2 (by decide))).trans ((uF_ne (fun h => absurd h.2 (by decide))).trans ((uF_ne (fun h => absurd h.2 (by decide))).trans ((uF_ne (fun h => absurd h.2 (by decide))).trans ((uF_ne (fun h => absurd h.2 (by decide))).trans ((uF_ne (fun h => absurd h.2 (by decide))).trans ((uF_ne (fun h => absurd h.2 (by decide))).trans (uF_on)))))))))))))))))))))); omega) (by have e8 := (show u_81.1 231 68 = ct from ((fu_81 231 rfl).1 68).trans ((gL336_ 68 rfl).trans ((uA_f).trans ((uF_ne (fun h => absurd h.2 (by decide))).trans ((uF_ne (fun h => absurd h.2 (by decide))).trans ((uF_ne (fun h => absurd h.2 (by decide))).trans ((gL198_ 68 rfl).trans ((gL138_ 68 rfl).trans (((fu_57 231 rfl).1 68).trans ((gL105_ 68 rfl).trans ((uF_ne (fun h => absurd h.2 (by decide))).trans ((uF_ne (fun h => absurd h.2 (by decide))).trans ((uF_ne (fun h => absurd h.2 (by decide))).trans ((uF_ne (fun h => absurd h.2 (by decide))).trans ((uF_ne (fun h => absurd h.2 (by decide))).trans ((uF_ne (fun h => absurd h.2 (by decide))).trans ((uF_ne (fun h => absurd h.2 (by decide))).trans ((uF_ne (fun h => absurd h.2 (by decide))).trans ((uF_ne (fun h => absurd h.2 (by decide))).trans ((uF_ne (fun h => absurd h.2 (by decide))).trans ((uF_ne (fun h => absurd h.2 (by decide))).trans ((uF_ne (fun h => absurd h.2 (by decide))).trans ((uF_ne (fun h => absurd h.2 (by decide))).trans (uF_on)))))))))))))))))))))))); omega) (by have e8 := (show u_81.1 231 69 = 0 from ((fu_81 231 rfl).1 69).trans ((gL336_ 69 rfl).trans ((uA_f).trans ((uF_ne (fun h => absurd h.2 (by decide))).trans ((uF_ne (fun h => absurd h.2 (by decide))).trans ((uF_ne (fun h => absurd h.2 (by decide))).trans ((gL198_ 69 rfl).trans ((gL138_ 69 rfl).trans (((fu_57 231 rfl).1 69).trans ((gL105_ 69 rfl).trans ((uF_ne (fun h => absurd h.2 (by decide))).trans ((uF_ne (fun h => absurd h.2 (by decide))).trans ((uF_ne (fun h => absurd h.2 (by decide))).trans ((uF_ne (fun h => absurd h.2 (by decide))).trans ((uF_ne (fun h => absurd h.2 (by decide))).trans ((uF_ne (fun h => absurd h.2 (by decide))).trans ((uF_ne (fun h => absurd h.2 (by decide))).trans ((uF_ne (fun h => absurd h.2 (by decide))).trans (uF_on))))))))))))))))))); omega) (by have e8 := (show u_81.1 231 78 = 0 from ((fu_81 231 rfl).1 78).trans ((gL336_ 78 rfl).trans ((uA_f).trans ((uF_ne (fun h => absurd h.2 (by decide))).trans ((uF_ne (fun h => absurd h.2 (by decide))).trans ((uF_ne (fun h => absurd h.2 (by decide))).trans ((gL198_ 78 rfl).trans ((gL138_ 78 rfl).trans (((fu_57 231 rfl).1 78).trans ((gL105_ 78 rfl).trans ((uF_ne (fun h => absurd h.2 (by decide))).trans ((uF_ne (fun h => absurd h.2 (by decide))).trans ((uF_ne (fun h => absurd h.2 (by decide))).trans ((uF_ne (fun h => absurd h.2 (by decide))).trans ((uF_ne (fun h => absurd h.2 (by decide))).trans ((uF_ne (fun h => absurd h.2 (by decide))).trans ((uF_ne (fun h => absurd h.2 (by decide))).trans (uF_on)))))))))))))))))); omega) (by have e8 := (show u_81.1 231 79 = 0 from ((fu_81 231 rfl).1 79).trans ((gL336_ 79 rfl).trans ((uA_f).trans ((uF_ne (fun h => absurd h.2 (by decide))).trans ((uF_ne (fun h => absurd h.2 (by decide))).trans ((uF_ne (fun h => absurd h.2 (by decide))).trans ((gL198_ 79 rfl).trans ((gL138_ 79 rfl).trans (((fu_57 231 rfl).1 79).trans ((gL105_ 79 rfl).trans ((uF_ne (fun h => absurd h.2 (by decide))).trans ((uF_ne (fun h => absurd h.2 (by decide))).trans ((uF_ne (fun h => absurd h.2 (by decide))).trans ((uF_ne (fun h => absurd h.2 (by decide))).trans ((uF_ne (fun h => absurd h.2 (by decide))).trans ((uF_ne (fun h => absurd h.2 (by decide))).trans (uF_on))))))))))))))))); omega) (by have e8 := (show u_81.1 231 84 = 0 from ((fu_81 231 rfl).1 84).trans ((gL336_ 84 rfl).trans ((uA_f).trans ((uF_ne (fun h => absurd h.2 (by decide))).trans ((uF_ne (fun h => absurd h.2 (by decide))).trans ((uF_ne (fun h => absurd h.2 (by decide))).trans ((gL198_ 84 rfl).trans ((gL138_ 84 rfl).trans (((fu_57 231 rfl).1 84).trans ((gL105_ 84 rfl).trans ((uF_ne (fun h => absurd h.2 (by decide))).trans ((uF_ne (fun h => absurd h.2 (by decide))).trans ((uF_ne (fun h => absurd h.2 (by decide))).trans ((uF_ne (fun h => absurd h.2 (by decide))).trans (uF_on))))))))))))))); omega) (by have e8 := (show u_81.1 231 86 = 0 from ((fu_81 231 rfl).1 86).trans ((gL336_ 86 rfl).trans ((uA_f).trans ((uF_ne (fun h => absurd h.2 (by decide))).trans ((uF_ne (fun h => absurd h.2 (by decide))).trans ((uF_ne (fun h => absurd h.2 (by decide))).trans ((gL198_ 86 rfl).trans ((gL138_ 86 rfl).trans (((fu_57 231 rfl).1 86).trans ((gL105_ 86 rfl).trans ((uF_ne (fun h => absurd h.2 (by decide))).trans ((uF_ne (fun h => absurd h.2 (by decide))).trans ((uF_ne (fun h => absurd h.2 (by decide))).trans (uF_on)))))))))))))); omega) (funext fun j => ((fu_81 261 rfl).2.1 j).trans (((hL336_ 261 rfl).2.1 j).trans ((uA_ne (fun h => absurd h.1 (by decide))).trans ((uF_a).trans ((uF_a).trans ((uF_a).trans (((hL198_ 261 rfl).2.1 j).trans (((hL138_ 261 rfl).2.1 j).trans (((fu_57 261 rfl).2.1 j).trans (((hL105_ 261 rfl).2.1 j).trans ((uF_a).trans ((uF_a).trans ((uF_a).trans ((uF_a).trans ((uF_a).trans ((uF_a).trans ((uF_a).trans ((uF_a).trans ((uF_a).trans ((uF_a).trans ((uF_a).trans ((uF_a).trans ((uF_a).trans ((uF_a).trans (uF_a))))))))))))))))))))))))) (funext fun j => ((fu_81 260 rfl).2.2.1 j).trans (((hL336_ 260 rfl).2.2.1 j).trans ((uA_l).trans ((uF_l).trans ((uF_l).trans ((uF_l).trans (((hL198_ 260 rfl).2.2.1 j).trans (((hL138_ 260 rfl).2.2.1 j).trans (((fu_57 260 rfl).2.2.1 j).trans (((hL105_ 260 rfl).2.2.1 j).trans ((uF_l).trans ((uF_l).trans ((uF_l).trans ((uF_l).trans ((uF_l).trans ((uF_l).trans ((uF_l).trans ((uF_l).trans ((uF_l).trans ((uF_l).trans ((uF_l).trans ((uF_l).trans ((uF_l).trans ((uF_l).trans (uF_l))))))))))))))))))))))))) (funext fun j => ((fu_81 290 rfl).2.2.1 j).trans (((hL336_ 290 rfl).2.2.1 j).trans ((uA_l).trans ((uF_l).trans ((uF_l).trans ((uF_l).trans (((hL198_ 290 rfl).2.2.1 j).trans (((hL138_ 290 rfl).2.2.1 j).trans (((fu_57 290 rfl).2.2.1 j).trans (((hL105_ 290 rfl).2.2.1 j).trans ((uF_l).trans ((uF_l).trans ((uF_l).trans ((uF_l).trans ((uF_l).trans ((uF_l).trans ((uF_l).trans ((uF_l).trans ((uF_l).trans ((uF_l).trans ((uF_l).trans ((uF_l).trans ((uF_l).trans ((uF_l).trans (uF_l))))))))))))))))))))))))) (by rw [show u_81.2.1 264 = u_57.2.1 264 from (funext fun j => ((fu_81 264 rfl).2.1 j).trans (((hL336_ 264 rfl).2.1 j).trans ((uA_ne (fun h => absurd h.1 (by decide))).trans ((uF_a).trans ((uF_a).trans ((uF_a).trans (((hL198_ 264 rfl).2.1 j).trans ((hL138_ 264 rfl).2.1 j))))))))]; exact ⟨xu_57.1, xu_57.2.1⟩) (fun x a b => by rw [show u_81.2.1 265 = S198.2.1 265 from (funext fun j => ((fu_81 265 rfl).2.1 j).trans (((hL336_ 265 rfl).2.1 j).trans ((uA_ne (fun h => absurd h.1 (by decide))).trans ((uF_a).trans ((uF_a).trans (uF_a))))))]; exact hB x a (by omega)) (fun x a b => by rw [show u_81.2.1 266 x = (uA (uF (uF (uF S198 231 62 sg) 231 60 bl) 231 59 ((S.1 231 46) + 1)) 266 ((S.1 231 46) + 1) 0).2.1 266 x from ((fu_81 266 rfl).2.1 x).trans ((hL336_ 266 rfl).2.1 x), uA_ne (fun h => absurd h.2 (by omega)), show (uF (uF (uF S198 231 62 sg) 231 60 bl) 231 59 ((S.1 231 46) + 1)).2.1 266 = S138.2.1 266 from (funext fun j => (uF_a).trans ((uF_a).trans ((uF_a).trans ((hL198_ 266 rfl).2.1 j))))]; exact hO x a (by omega)) (fun _ => by rw [show u_81.2.1 266 (S.1 231 46 + 1) = (uA (uF (uF (uF S198 231 62 sg) 231 60 bl) 231 59 ((S.1 231 46) + 1)) 266 ((S.1 231 46) + 1) 0).2.1 266 (S.1 231 46 + 1) from ((fu_81 266 rfl).2.1 ((S.1 231 46 + 1))).trans ((hL336_ 266 rfl).2.1 ((S.1 231 46 + 1))), uA_on]) (BGa.put (f := S336.2.1 262) (g := bg1 S (S.1 231 47 + 1)) (g' := bg2 S 1) (a := 1) (b := S.1 231 46 + 1) (K := q4) (by have e8 := hA; rw [show i2 = S.1 231 47 + 1 by omega] at e8; exact e8) (by unfold cl; omega) (by omega) (by omega) xu_81.1 (by rw [xu_81.2.1]; unfold bg2; rw [if_pos rfl, if_pos ⟨rfl, rfl⟩]) (fun c d ne => by unfold bg2; rw [if_pos rfl, if_neg ne]) (fun x a => by have k := xu_81.2.2 x (by omega); exact k)), (show u_81.1 231 61 = 1 from ((fu_81 231 rfl).1 61).trans ((gL336_ 61 rfl).trans ((uA_f).trans ((uF_ne (fun h => absurd h.2 (by decide))).trans ((uF_ne (fun h => absurd h.2 (by decide))).trans ((uF_ne (fun h => absurd h.2 (by decide))).trans ((gL198_ 61 rfl).trans ((gL138_ 61 rfl).trans (((fu_57 231 rfl).1 61).trans ((gL105_ 61 rfl).trans ((uF_ne (fun h => absurd h.2 (by decide))).trans ((uF_ne (fun h => absurd h.2 (by decide))).trans ((uF_ne (fun h => absurd h.2 (by decide))).trans ((uF_ne (fun h => absurd h.2 (by decide))).trans ((uF_ne (fun h => absurd h.2 (by decide))).trans ((uF_ne (fun h => absurd h.2 (by decide))).trans ((uF_ne (fun h => absurd h.2 (by decide))).trans ((uF_ne (fun h => absurd h.2 (by decide))).trans ((uF_ne (fun h => absurd h.2 (by decide))).trans ((uF_ne (fun h => absurd h.2 (by decide))).trans ((uF_ne (fun h => absurd h.2 (by decide))).trans ((uF_ne (fun h => absurd h.2 (by decide))).trans ((uF_ne (fun h => absurd h.2 (by decide))).trans ((uF_ne (fun h => absurd h.2 (by decide))).trans (uF_on))))))))))))))))))))))))), (show u_81.1 231 70 = 0 from ((fu_81 231 rfl).1 70).trans ((gL336_ 70 rfl).trans ((uA_f).trans ((uF_ne (fun h => absurd h.2 (by decide))).trans ((uF_ne (fun h => absurd h.2 (by decide))).trans ((uF_ne (fun h => absurd h.2 (by decide))).trans ((gL198_ 70 rfl).trans ((gL138_ 70 rfl).trans (((fu_57 231 rfl).1 70).trans ((gL105_ 70 rfl).trans ((uF_ne (fun h => absurd h.2 (by decide))).trans ((uF_ne (fun h => absurd h.2 (by decide))).trans ((uF_ne (fun h => absurd h.2 (by decide))).trans ((uF_ne (fun h => absurd h.2 (by decide))).trans ((uF_ne (fun h => absurd h.2 (by decide))).trans (uF_on))))))))))))))))⟩), (by omega)⟩⟩ dX12_begin_389
                                  · refine lv_aload_n hx hb dX12_begin_344 rfl (lv_at hl 2 rfl) ?_
                                    refine g_X12_103 Cx hW (k := 231) (by decide) rfl (v := .ref (G.2.2.1 + 262)) (rd_53 hI336) dX12_begin_345 ?_
                                    refine lv_aload_n hx hb dX12_begin_348 rfl (lv_at hl 2 rfl) ?_
                                    refine lv_iload_n hx hb dX12_begin_349 rfl (lv_at hl 0 rfl) ?_
                                    refine lv_iconst (v := iv 1) hx hb dX12_begin_350 (by decide) ?_
                                    refine r_iadd hx hb dX12_begin_351 ?_
                                    refine lv_aload_n hx hb dX12_begin_352 rfl (lv_at hl 2 rfl) ?_
                                    refine g_X12_526 Cx hW (k := 231) (by decide) rfl (v := (S.1 231 46) + 1) ((gL336_ 59 rfl).trans ((uA_f).trans (uF_on))) dX12_begin_353 ?_
                                    refine sBi (sV (As := [.int (iv (i2 + 1)), .int (iv ((S.1 231 46) + 1))]) (rest := [.ref (G.2.2.1 + 262)]) (k := 231) Cx (s_X12_cell l G S336 (i := i2 + 1) (j := (S.1 231 46) + 1) (by omega) (by omega)) (c_X12_529 Cx rfl rfl (rmk_ok (by omega) (by decide))) hW (by decide) rfl rfl rfl hl.1 rfl (Nat.le_of_ble_eq_true rfl) dX12_begin_356 ⟨Nat.le_of_ble_eq_true rfl, Nat.le_of_ble_eq_true rfl⟩) hL (fun q3 u_89 H locs k_90 hW hL => ?_)
                                    obtain ⟨eu_89, xu_89⟩ := k_90
                                    rw [eu_89] at hW
                                    refine lv_ldc2 hx hb hown (hts _ w_2496) dX12_begin_359 ?_
                                    refine sBv (sSt (As := [.ref (G.2.2.1 + 262), .int (iv q3), .long (jv ((-1)))]) (rest := []) Cx (s_X12_put l G S336 (ka := 262) (po := q3) (v := (-1)) (Nka := 5280) hI336 ⟨rfl, by decide, by decide, by decide, rfl⟩ (by omega) (by omega)) (c_X12_241 Cx rfl rfl (rmk_ok (by omega) (by decide))) hW rfl hl.1 rfl (Nat.le_of_ble_eq_true rfl) dX12_begin_362 ⟨Nat.le_of_ble_eq_true rfl, Nat.le_of_ble_eq_true rfl⟩) hL (fun u_91 H locs k_92 hW hL => ?_)
                                    obtain ⟨iu_91, fu_91, xu_91⟩ := k_92
                                    have F_93 := hFm336.trans (fu_91.to (p1_sub rfl))
                                    have F_94 := hL336_.trans (fu_91.to (p1_sub rfl))
                                    have g_95 : FF S u_91 (fl [58, 59, 60, 61, 62, 63, 64, 65, 66, 67, 68, 69, 70, 78, 79, 84, 86]) := FF.fr hGm336 fu_91 rfl
                                    have g_96 : FF ((uA (uF (uF (uF S198 231 62 sg) 231 60 bl) 231 59 ((S.1 231 46) + 1)) 266 ((S.1 231 46) + 1) 0)) u_91 (fl []) := FF.fr gL336_ fu_91 rfl
                                    refine lv_iinc (v := iv (i2 + 1)) (lv' := [(3, .int (iv (i2 + 1))), (2, .int (iv bl)), (0, .ref (G.2.2.1 + 231)), (1, .int (iv ct))]) hx hb dX12_begin_365 hl (k := 0) rfl ((Int32.ofInt_add _ _).symm) (by decide) rfl (fun ls hl => ?_)
                                    refine lv_goto (tgt := 336) hx hb dX12_begin_368 (by decide) ?_
                                    exact ih_336 u_91 (i2 + 1) _ _ _ (by omega) iu_91 F_93 F_94 g_95 g_96 (by omega) (BGa.put (f := S336.2.1 262) (g := bg1 S i2) (a := i2 + 1) (b := S.1 231 46 + 1) (K := q3) hA (by unfold cl; omega) (by omega) (by omega) xu_91.1 (by rw [xu_91.2.1]; unfold bg1; rw [if_pos (by omega)]) (fun c d ne => by unfold bg1; by_cases z : d = S.1 231 46 + 1 ∧ 2 ≤ c ∧ c ≤ i2; (rw [if_pos z, if_pos (by omega)]); rw [if_neg z, if_neg (by omega)]) (fun x a => by have k := xu_91.2.2 x (by omega); exact k)) hW hL (lv_sub hl [0, 1, 2, 3] rfl)
                              exact loop_336 (_ + 1) (uA (uF (uF (uF S198 231 62 sg) 231 60 bl) 231 59 ((S.1 231 46) + 1)) 266 ((S.1 231 46) + 1) 0) 1 _ _ _ (Nat.lt_succ_self _) i_77 F_76 Fr.rf g_74 FF.rf (by omega) (by rw [show (uA (uF (uF (uF S198 231 62 sg) 231 60 bl) 231 59 ((S.1 231 46) + 1)) 266 ((S.1 231 46) + 1) 0).2.1 262 = S198.2.1 262 from (funext fun j => (uA_ne (fun h => absurd h.1 (by decide))).trans ((uF_a).trans ((uF_a).trans (uF_a))))]; intro c d c0 c1 d0 d1; have k := hGz c d c0 c1 d0 d1; unfold bg1; rw [if_neg (by omega)]; exact k) hW hL (lv_sub hl [0, 1, 2, 3] rfl)
                          refine lv_iload_n hx hb dX12_begin_293 rfl (lv_at hl 1 rfl) ?_
                          refine r_if_eq (tgt := 301) hx hb ⟨(by omega), (by omega)⟩ dX12_begin_294 (by decide) (fun c_97 => ?_) (fun c_97 => ?_)
                          · refine lv_iconst (v := iv 3) hx hb dX12_begin_301 (by decide) ?_
                            exact join_302 3 _ _ _ (by omega) hW hL (lv_sub hl [0, 1, 2, 3] rfl)
                          · refine lv_iconst (v := iv 0) hx hb dX12_begin_297 (by decide) ?_
                            refine lv_goto (tgt := 302) hx hb dX12_begin_298 (by decide) ?_
                            exact join_302 0 _ _ _ (by omega) hW hL (lv_sub hl [0, 1, 2, 3] rfl)
                        · refine lv_aload_n hx hb dX12_begin_206 rfl (lv_at hl 2 rfl) ?_
                          refine g_X12_112 Cx hW (k := 231) (by decide) rfl (v := .ref (G.2.2.1 + 265)) (rd_56 hI198) dX12_begin_207 ?_
                          refine lv_iload_n hx hb dX12_begin_210 rfl (lv_at hl 0 rfl) ?_
                          refine lv_aload_n hx hb dX12_begin_211 rfl (lv_at hl 2 rfl) ?_
                          refine g_X12_465 Cx hW (k := 231) (by decide) rfl (v := S.1 231 46) ((gL198_ 46 rfl).trans ((gL138_ 46 rfl).trans (((fu_57 231 rfl).1 46).trans ((gL105_ 46 rfl).trans ((uF_ne (fun h => absurd h.2 (by decide))).trans ((uF_ne (fun h => absurd h.2 (by decide))).trans ((uF_ne (fun h => absurd h.2 (by decide))).trans ((uF_ne (fun h => absurd h.2 (by decide))).trans ((uF_ne (fun h => absurd h.2 (by decide))).trans ((uF_ne (fun h => absurd h.2 (by decide))).trans ((uF_ne (fun h => absurd h.2 (by decide))).trans ((uF_ne (fun h => absurd h.2 (by decide))).trans ((uF_ne (fun h => absurd h.2 (by decide))).trans ((uF_ne (fun h => absurd h.2 (by decide))).trans ((uF_ne (fun h => absurd h.2 (by decide))).trans ((uF_ne (fun h => absurd h.2 (by decide))).trans ((uF_ne (fun h => absurd h.2 (by decide))).trans ((uF_ne (fun h => absurd h.2 (by decide))).trans (uF_ne (fun h => absurd h.2 (by decide))))))))))))))))))))) dX12_begin_212 ?_
                          refine lv_iload_n hx hb dX12_begin_215 rfl (lv_at hl 0 rfl) ?_
                          refine r_iadd hx hb dX12_begin_216 ?_
                          refine rIast Cx hW hL (k := 265) (by decide) rfl (by decide) (by omega) (by omega) dX12_begin_217 (fun H locs hW hL => ?_)
                          have F_98 : Fr S (uA S198 265 i ((S.1 231 46) + i)) (pl [231, 262, 264, 265, 266]) := hFm198.A rfl
                          have F_99 : Fr S138 (uA S198 265 i ((S.1 231 46) + i)) (pl [262, 265]) := hL198_.A rfl
                          have i_100 : dX G (uA S198 265 i ((S.1 231 46) + i)) := hI198.A (k := 265) (show (-2147483648) ≤ (S.1 231 46) + i ∧ (S.1 231 46) + i ≤ 2147483647 from ⟨by omega, by omega⟩)
                          refine lv_iconst (v := iv 0) hx hb dX12_begin_218 (by decide) ?_
                          refine lv_istore (lv' := [(4, .int (iv 0)), (3, .int (iv i)), (2, .int (iv bl)), (0, .ref (G.2.2.1 + 231)), (1, .int (iv ct))]) hx hb dX12_begin_219 hl (by decide) rfl (fun ls hl => ?_)
                          have loop_221 : ∀ (fuel : Nat) (S221 : sS) (j : Int) (H : Heap) (locs : List Loc) (ls : Array Slot), (S.1 231 46 + 1 - j).toNat < fuel → (dX G S221) → (Fr S S221 (pl [231, 262, 264, 265, 266])) → (Fr S138 S221 (pl [262, 265])) → (Fr ((uA S198 265 i ((S.1 231 46) + i))) S221 (pl [262])) → (FF S S221 (fl [58, 59, 60, 61, 62, 63, 64, 65, 66, 67, 68, 69, 70, 78, 79, 84, 86])) → (FF S138 S221 (fl [])) → (FF ((uA S198 265 i ((S.1 231 46) + i))) S221 (fl [])) → (0 ≤ j ∧ j ≤ S.1 231 46 + 1) → (BGo (S221.2.1 262) (bgv S) (8 * (15 * (i + 1) + j))) → sW G 294 S221 H → sL G locs → lv_has ls 5 [(4, .int (iv j)), (3, .int (iv i)), (2, .int (iv bl)), (0, .ref (G.2.2.1 + 231)), (1, .int (iv ct))] → W p l e (rmk 3 0 0) s m args below meth c H locs 0 0 (MQ below (sQi G 294 (fun r u => dX G u ∧ Fr S u (pl [231, 262, 264, 265, 266]) ∧ FF S u (fl [58, 59, 60, 61, 62, 63, 64, 65, 66, 67, 68, 69, 70, 78, 79, 84, 86]) ∧ ((0 ≤ r ∧ r ≤ 1) ∧ Hd (r = 0 → u = S) ∧ Hd (r = 1 → GI u ∧ u.1 231 61 = 1 ∧ u.1 231 70 = 0) ∧ (r = 1 ↔ (S.1 231 45 = 1 ∧ 0 ≤ ct ∧ ct ≤ 20))))) args s 0 0 (sF G)) (F0 m 221 ls []) := by
                            intro fuel
                            induction fuel with
                            | zero => intro S221 j H locs ls hmeas hI221 hFm221 hFL198221 hL221_ hGm221 hGL198221 gL221_ hj hG3 hW hL hl; exact absurd hmeas (Nat.not_lt_zero _)
                            | succ fuel ih_221 =>
                              intro S221 j H locs ls hmeas hI221 hFm221 hFL198221 hL221_ hGm221 hGL198221 gL221_ hj hG3 hW hL hl
                              refine lv_iload hx hb dX12_begin_221 (lv_at hl 0 rfl) ?_
                              refine lv_aload_n hx hb dX12_begin_223 rfl (lv_at hl 3 rfl) ?_
                              refine g_X12_465 Cx hW (k := 231) (by decide) rfl (v := S.1 231 46) ((gL221_ 46 rfl).trans ((uA_f).trans ((gL198_ 46 rfl).trans ((gL138_ 46 rfl).trans (((fu_57 231 rfl).1 46).trans ((gL105_ 46 rfl).trans ((uF_ne (fun h => absurd h.2 (by decide))).trans ((uF_ne (fun h => absurd h.2 (by decide))).trans ((uF_ne (fun h => absurd h.2 (by decide))).trans ((uF_ne (fun h => absurd h.2 (by decide))).trans ((uF_ne (fun h => absurd h.2 (by decide))).trans ((uF_ne (fun h => absurd h.2 (by decide))).trans ((uF_ne (fun h => absurd h.2 (by decide))).trans ((uF_ne (fun h => absurd h.2 (by decide))).trans ((uF_ne (fun h => absurd h.2 (by decide))).trans ((uF_ne (fun h => absurd h.2 (by decide))).trans ((uF_ne (fun h => absurd h.2 (by decide))).trans ((uF_ne (fun h => absurd h.2 (by decide))).trans ((uF_ne (fun h => absurd h.2 (by decide))).trans ((uF_ne (fun h => absurd h.2 (by decide))).trans (uF_ne (fun h => absurd h.2 (by decide))))))))))))))))))))))) dX12_begin_224 ?_
                              refine r_icmp_gt (tgt := 264) hx hb ⟨(by omega), (by omega)⟩ ⟨(by omega), (by omega)⟩ dX12_begin_227 (by decide) (fun c_101 => ?_) (fun c_101 => ?_)
                              · refine lv_iload_n hx hb dX12_begin_264 rfl (lv_at hl 2 rfl) ?_
                                have join_284 : ∀ (cc : Int) (H : Heap) (locs : List Loc) (ls : Array Slot), (0 ≤ cc ∧ cc ≤ 1) → sW G 294 S221 H → sL G locs → lv_has ls 5 [(4, .int (iv j)), (3, .int (iv i)), (2, .int (iv bl)), (0, .ref (G.2.2.1 + 231)), (1, .int (iv ct))] → W p l e (rmk 3 0 0) s m args below meth c H locs 0 0 (MQ below (sQi G 294 (fun r u => dX G u ∧ Fr S u (pl [231, 262, 264, 265, 266]) ∧ FF S u (fl [58, 59, 60, 61, 62, 63, 64, 65, 66, 67, 68, 69, 70, 78, 79, 84, 86]) ∧ ((0 ≤ r ∧ r ≤ 1) ∧ Hd (r = 0 → u = S) ∧ Hd (r = 1 → GI u ∧ u.1 231 61 = 1 ∧ u.1 231 70 = 0) ∧ (r = 1 ↔ (S.1 231 45 = 1 ∧ 0 ≤ ct ∧ ct ≤ 20))))) args s 0 0 (sF G)) (F0 m 284 ls [.int (iv cc), .int (iv bl)]) := by
                                  intro cc H locs ls hcc hW hL hl
                                  refine r_or01 hx hb (by omega) (by omega) dX12_begin_284 (fun z_102 hz_102 => ?_)
                                  refine lv_istore_n (lv' := [(2, .int (iv z_102)), (4, .int (iv j)), (3, .int (iv i)), (0, .ref (G.2.2.1 + 231)), (1, .int (iv ct))]) hx hb dX12_begin_285 rfl hl (by decide) rfl (fun ls hl => ?_)
                                  refine lv_iinc (v := iv (i + 1)) (lv' := [(3, .int (iv (i + 1))), (2, .int (iv z_102)), (4, .int (iv j)), (0, .ref (G.2.2.1 + 231)), (1, .int (iv ct))]) hx hb dX12_begin_286 hl (k := 2) rfl ((Int32.ofInt_add _ _).symm) (by decide) rfl (fun ls hl => ?_)
                                  refine lv_goto (tgt := 198) hx hb dX12_begin_289 (by decide) ?_
                                  exact ih_198 S221 (i + 1) z_102 _ _ _ (by omega) hI221 hFm221 hFL198221 hGm221 hGL198221 (by omega) (by omega) (by have e8 := hG3; rw [show j = S.1 231 46 + 1 by omega] at e8; exact e8.skip (by omega) (fun a b a0 _ b0 b1 h0 h1 => bgv_z2 a0 ⟨b0, b1⟩ h0 h1)) (fun x a b => by rw [(hL221_ 265 rfl).2.1 x, uA_get]; by_cases z : x = i; (rw [if_pos ⟨rfl, z⟩, z]); rw [if_neg (fun h => z h.2)]; exact hB x a (by omega)) hW hL (lv_sub hl [0, 1, 3, 4] rfl)
                                refine lv_aload_n hx hb dX12_begin_265 rfl (lv_at hl 3 rfl) ?_
                                refine g_X12_190 Cx hW (k := 231) (by decide) rfl (v := .ref (G.2.2.1 + 290)) (rd_101 hI221) dX12_begin_266 ?_
                                refine lv_bipush (v := iv 13) hx hb dX12_begin_269 (by decide) ?_
                                refine lv_iload_n hx hb dX12_begin_271 rfl (lv_at hl 1 rfl) ?_
                                refine r_imul hx hb dX12_begin_272 ?_
                                refine rLald Cx hW (k := 290) (by decide) rfl (by decide) (by omega) (by omega) dX12_begin_273 ?_
                                have q_103 : -9223372036854775808 ≤ S.2.2.1 290 (13 * i) ∧ S.2.2.1 290 (13 * i) ≤ 9223372036854775807 := hI.li 290 (13 * i)
                                refine r_j (b := S.2.2.1 290 (13 * i)) (((hL221_ 290 rfl).2.2.1 (13 * i)).trans ((uA_l).trans (((hL198_ 290 rfl).2.2.1 (13 * i)).trans (((hL138_ 290 rfl).2.2.1 (13 * i)).trans (((fu_57 290 rfl).2.2.1 (13 * i)).trans (((hL105_ 290 rfl).2.2.1 (13 * i)).trans ((uF_l).trans ((uF_l).trans ((uF_l).trans ((uF_l).trans ((uF_l).trans ((uF_l).trans ((uF_l).trans ((uF_l).trans ((uF_l).trans ((uF_l).trans ((uF_l).trans ((uF_l).trans ((uF_l).trans ((uF_l).trans (uF_l))))))))))))))))))))) ?_
                                have hgr : -100000 ≤ S.2.2.1 290 (13 * i) ∧ S.2.2.1 290 (13 * i) ≤ 100000 := hMR.2.1.2 _
                                refine lv_lconst (v := jv 0) hx hb dX12_begin_274 (by decide) ?_
                                refine r_lcmp hx hb ⟨(by omega), (by omega)⟩ ⟨(by omega), (by omega)⟩ dX12_begin_275 (fun z_104 az_104 bz_104 cz_104 => ?_)
                                refine r_if_ge (tgt := 283) hx hb ⟨(by omega), (by omega)⟩ dX12_begin_276 (by decide) (fun c_105 => ?_) (fun c_105 => ?_)
                                · refine lv_iconst (v := iv 0) hx hb dX12_begin_283 (by decide) ?_
                                  exact join_284 0 _ _ _ (by omega) hW hL (lv_sub hl [0, 1, 2, 3, 4] rfl)
                                · refine lv_iconst (v := iv 1) hx hb dX12_begin_279 (by decide) ?_
                                  refine lv_goto (tgt := 284) hx hb dX12_begin_280 (by decide) ?_
                                  exact join_284 1 _ _ _ (by omega) hW hL (lv_sub hl [0, 1, 2, 3, 4] rfl)
                              · refine lv_aload_n hx hb dX12_begin_230 rfl (lv_at hl 3 rfl) ?_
                                refine g_X12_103 Cx hW (k := 231) (by decide) rfl (v := .ref (G.2.2.1 + 262)) (rd_53 hI221) dX12_begin_231 ?_
                                refine lv_aload_n hx hb dX12_begin_234 rfl (lv_at hl 3 rfl) ?_
                                refine lv_iload_n hx hb dX12_begin_235 rfl (lv_at hl 1 rfl) ?_
                                refine lv_iconst (v := iv 1) hx hb dX12_begin_236 (by decide) ?_
                                refine r_iadd hx hb dX12_begin_237 ?_
                                refine lv_iload hx hb dX12_begin_238 (lv_at hl 0 rfl) ?_
                                refine sBi (sV (As := [.int (iv (i + 1)), .int (iv j)]) (rest := [.ref (G.2.2.1 + 262)]) (k := 231) Cx (s_X12_cell l G S221 (i := i + 1) (j := j) (by omega) (by omega)) (c_X12_529 Cx rfl rfl (rmk_ok (by omega) (by decide))) hW (by decide) rfl rfl rfl hl.1 rfl (Nat.le_of_ble_eq_true rfl) dX12_begin_240 ⟨Nat.le_of_ble_eq_true rfl, Nat.le_of_ble_eq_true rfl⟩) hL (fun q2 u_106 H locs k_107 hW hL => ?_)
                                obtain ⟨eu_106, xu_106⟩ := k_107
                                rw [eu_106] at hW
                                refine lv_aload_n hx hb dX12_begin_243 rfl (lv_at hl 3 rfl) ?_
                                refine g_X12_190 Cx hW (k := 231) (by decide) rfl (v := .ref (G.2.2.1 + 290)) (rd_101 hI221) dX12_begin_244 ?_
                                refine lv_bipush (v := iv 13) hx hb dX12_begin_247 (by decide) ?_
                                refine lv_iload_n hx hb dX12_begin_249 rfl (lv_at hl 1 rfl) ?_
                                refine r_imul hx hb dX12_begin_250 ?_
                                refine lv_iload hx hb dX12_begin_251 (lv_at hl 0 rfl) ?_
                                refine r_iadd hx hb dX12_begin_253 ?_
                                refine rLald Cx hW (k := 290) (by decide) rfl (by decide) (by omega) (by omega) dX12_begin_254 ?_
                                have q_108 : -9223372036854775808 ≤ S.2.2.1 290 ((13 * i) + j) ∧ S.2.2.1 290 ((13 * i) + j) ≤ 9223372036854775807 := hI.li 290 ((13 * i) + j)
                                refine r_j (b := S.2.2.1 290 ((13 * i) + j)) (((hL221_ 290 rfl).2.2.1 ((13 * i) + j)).trans ((uA_l).trans (((hL198_ 290 rfl).2.2.1 ((13 * i) + j)).trans (((hL138_ 290 rfl).2.2.1 ((13 * i) + j)).trans (((fu_57 290 rfl).2.2.1 ((13 * i) + j)).trans (((hL105_ 290 rfl).2.2.1 ((13 * i) + j)).trans ((uF_l).trans ((uF_l).trans ((uF_l).trans ((uF_l).trans ((uF_l).trans ((uF_l).trans ((uF_l).trans ((uF_l).trans ((uF_l).trans ((uF_l).trans ((uF_l).trans ((uF_l).trans ((uF_l).trans ((uF_l).trans (uF_l))))))))))))))))))))) ?_
                                have hgr : -100000 ≤ S.2.2.1 290 ((13 * i) + j) ∧ S.2.2.1 290 ((13 * i) + j) ≤ 100000 := hMR.2.1.2 _
                                refine sBv (sSt (As := [.ref (G.2.2.1 + 262), .int (iv q2), .long (jv (S.2.2.1 290 ((13 * i) + j)))]) (rest := []) Cx (s_X12_put l G S221 (ka := 262) (po := q2) (v := S.2.2.1 290 ((13 * i) + j)) (Nka := 5280) hI221 ⟨rfl, by decide, by decide, by decide, rfl⟩ (by omega) (by omega)) (c_X12_241 Cx rfl rfl (rmk_ok (by omega) (by decide))) hW rfl hl.1 rfl (Nat.le_of_ble_eq_true rfl) dX12_begin_255 ⟨Nat.le_of_ble_eq_true rfl, Nat.le_of_ble_eq_true rfl⟩) hL (fun u_109 H locs k_110 hW hL => ?_)
                                obtain ⟨iu_109, fu_109, xu_109⟩ := k_110
                                have F_111 := hFm221.trans (fu_109.to (p1_sub rfl))
                                have F_112 := hFL198221.trans (fu_109.to (p1_sub rfl))
                                have F_113 := hL221_.trans (fu_109.to (p1_sub rfl))
                                have g_114 : FF S u_109 (fl [58, 59, 60, 61, 62, 63, 64, 65, 66, 67, 68, 69, 70, 78, 79, 84, 86]) := FF.fr hGm221 fu_109 rfl
                                have g_115 : FF S138 u_109 (fl []) := FF.fr hGL198221 fu_109 rfl
                                have g_116 : FF ((uA S198 265 i ((S.1 231 46) + i))) u_109 (fl []) := FF.fr gL221_ fu_109 rfl
                                refine lv_iinc (v := iv (j + 1)) (lv' := [(4, .int (iv (j + 1))), (3, .int (iv i)), (2, .int (iv bl)), (0, .ref (G.2.2.1 + 231)), (1, .int (iv ct))]) hx hb dX12_begin_258 hl (k := 0) rfl ((Int32.ofInt_add _ _).symm) (by decide) rfl (fun ls hl => ?_)
                                refine lv_goto (tgt := 221) hx hb dX12_begin_261 (by decide) ?_
                                exact ih_221 u_109 (j + 1) _ _ _ (by omega) iu_109 F_111 F_112 F_113 g_114 g_115 g_116 (by omega) (by have e8 := BGo.put (f' := u_109.2.1 262) (a := i + 1) (b := j) (K := 8 * (15 * (i + 1) + j)) hG3 (by unfold cl; omega) (by omega) (by omega) (by rw [show 8 * (15 * (i + 1) + j) = q2 by omega]; exact xu_109.1) (by rw [show 8 * (15 * (i + 1) + j) = q2 by omega, xu_109.2.1]; exact (by rw [bgv_m (by omega) (by omega)]; exact congrArg (S.2.2.1 290) (by omega))) (fun x a => by have k := xu_109.2.2 x (by omega); exact k); rw [show 8 * (15 * (i + 1) + (j + 1)) = 8 * (15 * (i + 1) + j) + 8 by omega]; exact e8) hW hL (lv_sub hl [0, 1, 2, 3, 4] rfl)
                          exact loop_221 (_ + 1) (uA S198 265 i ((S.1 231 46) + i)) 0 _ _ _ (Nat.lt_succ_self _) i_100 F_98 F_99 Fr.rf hGm198 gL198_ FF.rf (by omega) (by rw [show 8 * (15 * (i + 1) + 0) = 8 * (15 * (i + 1)) by omega, show (uA S198 265 i ((S.1 231 46) + i)).2.1 262 = S198.2.1 262 from (funext fun j => uA_ne (fun h => absurd h.1 (by decide)))]; exact hG2) hW hL (lv_sub hl [0, 1, 2, 3, 4] rfl)
                    exact loop_198 (_ + 1) S138 1 0 _ _ _ (Nat.lt_succ_self _) hI138 hFm138 Fr.rf hGm138 FF.rf (by omega) (by omega) (by have e8 := hG; rw [show j = S.1 231 46 + 1 by omega] at e8; exact e8.skip (by omega) (fun a b a0 _ b0 b1 h0 h1 => bgv_z1 a0 ⟨b0, b1⟩ h0 h1)) (fun x a b => absurd b (by omega)) hW hL (lv_sub hl [0, 1, 2, 3] rfl)
                  · refine lv_aload_n hx hb dX12_begin_146 rfl (lv_at hl 2 rfl) ?_
                    refine g_X12_103 Cx hW (k := 231) (by decide) rfl (v := .ref (G.2.2.1 + 262)) (rd_53 hI138) dX12_begin_147 ?_
                    refine lv_aload_n hx hb dX12_begin_150 rfl (lv_at hl 2 rfl) ?_
                    refine lv_iconst (v := iv 0) hx hb dX12_begin_151 (by decide) ?_
                    refine lv_iload_n hx hb dX12_begin_152 rfl (lv_at hl 0 rfl) ?_
                    refine sBi (sV (As := [.int (iv 0), .int (iv j)]) (rest := [.ref (G.2.2.1 + 262)]) (k := 231) Cx (s_X12_cell l G S138 (i := 0) (j := j) (by omega) (by omega)) (c_X12_529 Cx rfl rfl (rmk_ok (by omega) (by decide))) hW (by decide) rfl rfl rfl hl.1 rfl (Nat.le_of_ble_eq_true rfl) dX12_begin_153 ⟨Nat.le_of_ble_eq_true rfl, Nat.le_of_ble_eq_true rfl⟩) hL (fun q u_117 H locs k_118 hW hL => ?_)
                    obtain ⟨eu_117, xu_117⟩ := k_118
                    rw [eu_117] at hW
                    have join_176 : ∀ (gv : Int) (H : Heap) (locs : List Loc) (ls : Array Slot), (gv = bgv S 0 j ∧ -100000 ≤ gv ∧ gv ≤ 100000) → sW G 294 S138 H → sL G locs → lv_has ls 5 [(3, .int (iv j)), (2, .int (iv 0)), (0, .ref (G.2.2.1 + 231)), (1, .int (iv ct))] → W p l e (rmk 3 0 0) s m args below meth c H locs 0 0 (MQ below (sQi G 294 (fun r u => dX G u ∧ Fr S u (pl [231, 262, 264, 265, 266]) ∧ FF S u (fl [58, 59, 60, 61, 62, 63, 64, 65, 66, 67, 68, 69, 70, 78, 79, 84, 86]) ∧ ((0 ≤ r ∧ r ≤ 1) ∧ Hd (r = 0 → u = S) ∧ Hd (r = 1 → GI u ∧ u.1 231 61 = 1 ∧ u.1 231 70 = 0) ∧ (r = 1 ↔ (S.1 231 45 = 1 ∧ 0 ≤ ct ∧ ct ≤ 20))))) args s 0 0 (sF G)) (F0 m 176 ls [.long (jv gv), .int (iv q), .ref (G.2.2.1 + 262)]) := by
                      intro gv H locs ls hgv hW hL hl
                      refine sBv (sSt (As := [.ref (G.2.2.1 + 262), .int (iv q), .long (jv gv)]) (rest := []) Cx (s_X12_put l G S138 (ka := 262) (po := q) (v := gv) (Nka := 5280) hI138 ⟨rfl, by decide, by decide, by decide, rfl⟩ (by omega) (by omega)) (c_X12_241 Cx rfl rfl (rmk_ok (by omega) (by decide))) hW rfl hl.1 rfl (Nat.le_of_ble_eq_true rfl) dX12_begin_176 ⟨Nat.le_of_ble_eq_true rfl, Nat.le_of_ble_eq_true rfl⟩) hL (fun u_119 H locs k_120 hW hL => ?_)
                      obtain ⟨iu_119, fu_119, xu_119⟩ := k_120
                      have F_121 := hFm138.trans (fu_119.to (p1_sub rfl))
                      have F_122 := hL138_.trans (fu_119.to (p1_sub rfl))
                      have g_123 : FF S u_119 (fl [58, 59, 60, 61, 62, 63, 64, 65, 66, 67, 68, 69, 70, 78, 79, 84, 86]) := FF.fr hGm138 fu_119 rfl
                      have g_124 : FF u_57 u_119 (fl []) := FF.fr gL138_ fu_119 rfl
                      refine lv_iload_n hx hb dX12_begin_179 rfl (lv_at hl 0 rfl) ?_
                      refine r_if_le (tgt := 190) hx hb ⟨(by omega), (by omega)⟩ dX12_begin_180 (by decide) (fun c_125 => ?_) (fun c_125 => ?_)
                      · refine lv_iinc (v := iv (j + 1)) (lv' := [(3, .int (iv (j + 1))), (2, .int (iv 0)), (0, .ref (G.2.2.1 + 231)), (1, .int (iv ct))]) hx hb dX12_begin_190 hl (k := 0) rfl ((Int32.ofInt_add _ _).symm) (by decide) rfl (fun ls hl => ?_)
                        refine lv_goto (tgt := 138) hx hb dX12_begin_193 (by decide) ?_
                        exact ih_138 u_119 (j + 1) _ _ _ (by omega) iu_119 F_121 F_122 g_123 g_124 (by omega) (by have e8 := BGo.put (f' := u_119.2.1 262) (a := 0) (b := j) (K := 8 * j) hG (by unfold cl; omega) (by omega) (by omega) (by rw [show 8 * j = q by omega]; exact xu_119.1) (by rw [show 8 * j = q by omega, xu_119.2.1]; exact hgv.1) (fun x a => by have k := xu_119.2.2 x (by omega); exact k); rw [show 8 * (j + 1) = 8 * j + 8 by omega]; exact e8) (fun x a b => by rw [show u_119.2.1 266 x = S138.2.1 266 x from (fu_119 266 rfl).2.1 x]; exact hO x a (by omega)) hW hL (lv_sub hl [0, 1, 2, 3] rfl)
                      · refine lv_aload_n hx hb dX12_begin_183 rfl (lv_at hl 2 rfl) ?_
                        refine g_X12_115 Cx hW (k := 231) (by decide) rfl (v := .ref (G.2.2.1 + 266)) (rd_57 iu_119) dX12_begin_184 ?_
                        refine lv_iload_n hx hb dX12_begin_187 rfl (lv_at hl 0 rfl) ?_
                        refine lv_iload_n hx hb dX12_begin_188 rfl (lv_at hl 0 rfl) ?_
                        refine rIast Cx hW hL (k := 266) (by decide) rfl (by decide) (by omega) (by omega) dX12_begin_189 (fun H locs hW hL => ?_)
                        have F_126 : Fr S (uA u_119 266 j j) (pl [231, 262, 264, 265, 266]) := F_121.A rfl
                        have F_127 : Fr u_57 (uA u_119 266 j j) (pl [262, 266]) := F_122.A rfl
                        have i_128 : dX G (uA u_119 266 j j) := iu_119.A (k := 266) (show (-2147483648) ≤ j ∧ j ≤ 2147483647 from ⟨by omega, by omega⟩)
                        refine lv_iinc (v := iv (j + 1)) (lv' := [(3, .int (iv (j + 1))), (2, .int (iv 0)), (0, .ref (G.2.2.1 + 231)), (1, .int (iv ct))]) hx hb dX12_begin_190 hl (k := 0) rfl ((Int32.ofInt_add _ _).symm) (by decide) rfl (fun ls hl => ?_)
                        refine lv_goto (tgt := 138) hx hb dX12_begin_193 (by decide) ?_
                        exact ih_138 (uA u_119 266 j j) (j + 1) _ _ _ (by omega) i_128 F_126 F_127 g_123 g_124 (by omega) (by rw [show (uA u_119 266 j j).2.1 262 = u_119.2.1 262 from (funext fun j => uA_ne (fun h => absurd h.1 (by decide)))]; have e8 := BGo.put (f' := u_119.2.1 262) (a := 0) (b := j) (K := 8 * j) hG (by unfold cl; omega) (by omega) (by omega) (by rw [show 8 * j = q by omega]; exact xu_119.1) (by rw [show 8 * j = q by omega, xu_119.2.1]; exact hgv.1) (fun x a => by have k := xu_119.2.2 x (by omega); exact k); rw [show 8 * (j + 1) = 8 * j + 8 by omega]; exact e8) (fun x a b => by rw [uA_get]; by_cases z : x = j; (rw [if_pos ⟨rfl, z⟩]; exact z.symm); rw [if_neg (fun h => z h.2), (fu_119 266 rfl).2.1 x]; exact hO x a (by omega)) hW hL (lv_sub hl [0, 1, 2, 3] rfl)
                    refine lv_iload_n hx hb dX12_begin_156 rfl (lv_at hl 0 rfl) ?_
                    refine r_if_ne (tgt := 169) hx hb ⟨(by omega), (by omega)⟩ dX12_begin_157 (by decide) (fun c_129 => ?_) (fun c_129 => ?_)
                    · have hg0 := hMR.2.1.1 j
                      refine lv_aload_n hx hb dX12_begin_169 rfl (lv_at hl 2 rfl) ?_
                      refine g_X12_97 Cx hW (k := 231) (by decide) rfl (v := .ref (G.2.2.1 + 260)) (rd_51 hI138) dX12_begin_170 ?_
                      refine lv_iload_n hx hb dX12_begin_173 rfl (lv_at hl 0 rfl) ?_
                      refine rLald Cx hW (k := 260) (by decide) rfl (by decide) (by omega) (by omega) dX12_begin_174 ?_
                      have q_130 : -9223372036854775808 ≤ S.2.2.1 260 j ∧ S.2.2.1 260 j ≤ 9223372036854775807 := hI.li 260 j
                      refine r_j (b := S.2.2.1 260 j) (((hL138_ 260 rfl).2.2.1 j).trans (((fu_57 260 rfl).2.2.1 j).trans (((hL105_ 260 rfl).2.2.1 j).trans ((uF_l).trans ((uF_l).trans ((uF_l).trans ((uF_l).trans ((uF_l).trans ((uF_l).trans ((uF_l).trans ((uF_l).trans ((uF_l).trans ((uF_l).trans ((uF_l).trans ((uF_l).trans ((uF_l).trans ((uF_l).trans (uF_l)))))))))))))))))) ?_
                      refine r_lneg hx hb dX12_begin_175 ?_
                      exact join_176 (-(S.2.2.1 260 j)) _ _ _ ⟨(bgv_j (by omega)).symm, (by omega)⟩ hW hL (lv_sub hl [0, 1, 2, 3] rfl)
                    · have hg0 := hMR.2.1.1 0
                      refine lv_aload_n hx hb dX12_begin_160 rfl (lv_at hl 2 rfl) ?_
                      refine g_X12_97 Cx hW (k := 231) (by decide) rfl (v := .ref (G.2.2.1 + 260)) (rd_51 hI138) dX12_begin_161 ?_
                      refine lv_iconst (v := iv 0) hx hb dX12_begin_164 (by decide) ?_
                      refine rLald Cx hW (k := 260) (by decide) rfl (by decide) (by omega) (by omega) dX12_begin_165 ?_
                      have q_131 : -9223372036854775808 ≤ S.2.2.1 260 0 ∧ S.2.2.1 260 0 ≤ 9223372036854775807 := hI.li 260 0
                      refine r_j (b := S.2.2.1 260 0) (((hL138_ 260 rfl).2.2.1 0).trans (((fu_57 260 rfl).2.2.1 0).trans (((hL105_ 260 rfl).2.2.1 0).trans ((uF_l).trans ((uF_l).trans ((uF_l).trans ((uF_l).trans ((uF_l).trans ((uF_l).trans ((uF_l).trans ((uF_l).trans ((uF_l).trans ((uF_l).trans ((uF_l).trans ((uF_l).trans ((uF_l).trans ((uF_l).trans (uF_l)))))))))))))))))) ?_
                      refine lv_goto (tgt := 176) hx hb dX12_begin_166 (by decide) ?_
                      exact join_176 (S.2.2.1 260 0) _ _ _ ⟨(bgv_0 (by omega) (by omega)).symm, (by omega)⟩ hW hL (lv_sub hl [0, 1, 2, 3] rfl)
              exact loop_138 (_ + 1) u_57 0 _ _ _ (Nat.lt_succ_self _) iu_57 F_59 Fr.rf g_60 FF.rf (by omega) (by rw [show u_57.2.1 262 = S105.2.1 262 from (funext fun j => (fu_57 262 rfl).2.1 j)]; exact ⟨fun a b a0 _ b0 _ k => absurd k (by unfold cl; omega), fun x x0 x1 => hz x (by omega) (by omega)⟩) (fun x a b => absurd b (by omega)) hW hL (lv_sub hl [0, 1, 2, 3] rfl)
            · refine lv_aload_n hx hb dX12_begin_112 rfl (lv_at hl 1 rfl) ?_
              refine g_X12_103 Cx hW (k := 231) (by decide) rfl (v := .ref (G.2.2.1 + 262)) (rd_53 hI105) dX12_begin_113 ?_
              refine lv_iload_n hx hb dX12_begin_116 rfl (lv_at hl 0 rfl) ?_
              refine lv_iconst (v := iv 0) hx hb dX12_begin_117 (by decide) ?_
              refine rIast Cx hW hL (k := 262) (by decide) rfl (by decide) (by omega) (by omega) dX12_begin_118 (fun H locs hW hL => ?_)
              have F_132 : Fr S (uA S105 262 k 0) (pl [231, 262, 264, 265, 266]) := hFm105.A rfl
              have F_133 : Fr ((uF (uF (uF (uF (uF (uF (uF (uF (uF (uF (uF (uF (uF (uF (uF S 231 61 1) 231 68 ct) 231 64 0) 231 65 1) 231 66 0) 231 67 0) 231 69 0) 231 78 0) 231 79 0) 231 70 0) 231 84 0) 231 86 0) 231 63 (S.1 231 47)) 231 58 (S.1 231 47)) 231 59 (S.1 231 46))) (uA S105 262 k 0) (pl [262]) := hL105_.A rfl
              have i_134 : dX G (uA S105 262 k 0) := hI105.A (k := 262) (show (-2147483648) ≤ 0 ∧ 0 ≤ 2147483647 from ⟨by omega, by omega⟩)
              refine lv_iinc (v := iv (k + 1)) (lv' := [(2, .int (iv (k + 1))), (0, .ref (G.2.2.1 + 231)), (1, .int (iv ct))]) hx hb dX12_begin_119 hl (k := 0) rfl ((Int32.ofInt_add _ _).symm) (by decide) rfl (fun ls hl => ?_)
              refine lv_goto (tgt := 105) hx hb dX12_begin_122 (by decide) ?_
              exact ih_105 (uA S105 262 k 0) (k + 1) _ _ _ (by omega) i_134 F_132 F_133 hGm105 gL105_ (by omega) (fun x a b => by rw [uA_get]; split; rfl; rename_i z; exact hz x a (by omega)) hW hL (lv_sub hl [0, 1, 2] rfl)
        exact loop_105 (_ + 1) (uF (uF (uF (uF (uF (uF (uF (uF (uF (uF (uF (uF (uF (uF (uF S 231 61 1) 231 68 ct) 231 64 0) 231 65 1) 231 66 0) 231 67 0) 231 69 0) 231 78 0) 231 79 0) 231 70 0) 231 84 0) 231 86 0) 231 63 (S.1 231 47)) 231 58 (S.1 231 47)) 231 59 (S.1 231 46)) 0 _ _ _ (Nat.lt_succ_self _) i_55 F_53 Fr.rf g_54 FF.rf (by omega) (fun x a b => absurd b (by omega)) hW hL (lv_sub hl [0, 1, 2] rfl)
      · refine lv_iconst (v := iv 0) hx hb dX12_begin_17 (by decide) ?_
        have q_135 : (-2147483648) ≤ S.1 231 61 ∧ S.1 231 61 ≤ 2147483647 := hI.fi 61
        have q_136 : 0 ≤ S.1 231 70 ∧ S.1 231 70 ≤ 1 := hI.fi 70
        exact sZret Cx hr hlk hW hL (by omega) ⟨hI, (Fr.rf : Fr S S (pl [231, 262, 264, 265, 266])), FF.rf, ⟨(by omega), (fun _ => rfl), (fun q => absurd q (by omega)), (by omega)⟩⟩ dX12_begin_18
