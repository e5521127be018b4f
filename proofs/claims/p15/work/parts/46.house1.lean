theorem rfL_no0 : ∀ q ∈ rfL, ¬ (q.1 = 0 ∧ q.2.1 = 5) ∧ ¬ (q.1 = 0 ∧ q.2.1 = 6) := by decide
theorem tau0 : tau 0 = .inl 11 := rfl
theorem cX.swapM {G : sG} {S : sS} {x y : Nat} {b : Int} {oc od : Nat} (h : cX G S x y b) (h0 : S.2.2.2 0 5 = .ref (G.2.2.1 + oc)) (h1 : S.2.2.2 0 6 = .ref (G.2.2.1 + od)) : cX G (uR (uR S 0 5 (.ref (G.2.2.1 + od))) 0 6 (.ref (G.2.2.1 + oc))) x y b := by
  have e0 : (uR (uR S 0 5 (.ref (G.2.2.1 + od))) 0 6 (.ref (G.2.2.1 + oc))).2.2.2 0 5 = .ref (G.2.2.1 + od) := (uR_ne (by decide)).trans uR_on
  have e1 : (uR (uR S 0 5 (.ref (G.2.2.1 + od))) 0 6 (.ref (G.2.2.1 + oc))).2.2.2 0 6 = .ref (G.2.2.1 + oc) := uR_on
  have en : ∀ k i, ¬ (k = 0 ∧ i = 5) → ¬ (k = 0 ∧ i = 6) → (uR (uR S 0 5 (.ref (G.2.2.1 + od))) 0 6 (.ref (G.2.2.1 + oc))).2.2.2 k i = S.2.2.2 k i := fun k i q1 q2 => (uR_ne q2).trans (uR_ne q1)
  have eo : ∀ k i, k ≠ 0 → (uR (uR S 0 5 (.ref (G.2.2.1 + od))) 0 6 (.ref (G.2.2.1 + oc))).2.2.2 k i = S.2.2.2 k i := fun k i q => en k i (fun z => q z.1) (fun z => q z.1)
  obtain ⟨m1, ⟨m2, m3, m4⟩, ⟨m5, m6, m7⟩, ⟨m8, m9, m10⟩, m11, m12⟩ := h.rm
  have nt : ∀ {o ci : Nat}, tau o = .inl ci → ci ≠ 11 → o ≠ 0 := fun ht hc e => by rw [e, tau0] at ht; cases ht; exact hc rfl
  refine ⟨h.1, ⟨fun q hq => by rw [en _ _ (rfL_no0 q hq).1 (rfL_no0 q hq).2]; exact h.ri q hq, ⟨fun o ho => by rw [eo _ _ (nt ho (by decide))]; exact h.rq.1 o ho, fun o hl ho => by rw [eo _ _ (nt ho (by decide))]; exact h.rq.2.1 o hl ho, fun o hl ho => by rw [eo _ _ (nt ho (by decide)), eo _ _ (nt ho (by decide))]; exact h.rq.2.2 o hl ho⟩, fun i hi => by rw [eo _ _ (by decide), eo _ _ (by decide), eo _ _ (by decide)]; exact h.r2 i hi, ?_⟩, h.nb, h.ns, h.ub, h.ko⟩
  refine ⟨?_, ⟨m2, m3, by rw [eo _ _ (by decide)]; exact m4⟩, ⟨m5, m6, by rw [eo _ _ (by decide)]; exact m7⟩, ⟨m8, m9, by rw [eo _ _ (by decide)]; exact m10⟩, by rw [eo _ _ (by decide), eo _ _ (by decide)]; exact m11, by rw [eo _ _ (by decide)]; exact m12⟩
  rw [e0, e1]
  rcases m1 with q | q
  · right; rw [h0] at q; rw [h1] at q; exact ⟨q.2, q.1⟩
  · left; rw [h0] at q; rw [h1] at q; exact ⟨q.2, q.1⟩
set_option maxRecDepth 100000 in
set_option maxHeartbeats 4000000 in
theorem s_X11_feed (l : Launch) (G : sG) (S : sS) {a b c1 d1 e1 : Int} (hI : cX G S 0 0 0) (ha : -2147483648 ≤ a ∧ a ≤ 2147483647) (hb : -2147483648 ≤ b ∧ b ≤ 2147483647) (hc1 : -2147483648 ≤ c1 ∧ c1 ≤ 2147483647) (hd1 : -2147483648 ≤ d1 ∧ d1 ≤ 2147483647) (he1 : -2147483648 ≤ e1 ∧ e1 ≤ 2147483647) : Met l yX11_feed (.code yX11_feed cX11_feed 6 (some .int) :: tb) (rmk 3 0 0) (sPc G 294 S [.ref (G.2.2.1 + 0), .int (iv a), .int (iv b), .int (iv c1), .int (iv d1), .int (iv e1)]) (sQi G 294 (fun r u => cX G u 0 0 0 ∧ Fr S u (pB 1) ∧ ((S.1 1 1 + 20 ≤ 30000 → r = S.1 1 1 + 20 ∧ u.1 1 1 = S.1 1 1 + 20) ∧ (30000 < S.1 1 1 + 20 → r = -1 ∧ u.1 1 1 = S.1 1 1)))) 0 0 (sF G) := by
  refine sEnter (by decide) (Nat.le_of_ble_eq_true rfl) ?_
  intro p e s m args below meth c Cx hr hlk hnm hW ls hl
  have Cx : sC G p m c cX11_feed 6 s args RX11 := Cx
  obtain ⟨hx, hb, hml, hown, hts⟩ := id Cx.1
  have hL : sL G [] := sL_nil
  have hl : lv_has ls 6 [(0, .ref (G.2.2.1 + 0)), (1, .int (iv a)), (2, .int (iv b)), (3, .int (iv c1)), (4, .int (iv d1)), (5, .int (iv e1))] := hl
  have hW0 := hW
  refine lv_aload_n hx hb dX11_feed_0 rfl (lv_at hl 0 rfl) ?_
  refine g_X11_14 Cx hW (k := 0) (by decide) rfl (v := .ref (G.2.2.1 + 1)) (rf_0_0 hI) dX11_feed_1 ?_
  have q_1 : 0 ≤ S.1 1 1 ∧ S.1 1 1 ≤ 30000 := hI.fi 1 1 10 (by decide) rfl
  refine sBi (sV (As := []) (rest := []) (k := 1) Cx (s_X10_length l G S (o := 1) (N := 30000) hI ⟨by decide, rfl, rfl, rfl, rfl, by decide⟩) (c_X11_56 Cx rfl rfl (rmk_ok (by omega) (by decide))) hW (by decide) rfl rfl rfl hl.1 rfl (Nat.le_of_ble_eq_true rfl) dX11_feed_4 ⟨Nat.le_of_ble_eq_true rfl, Nat.le_of_ble_eq_true rfl⟩) hL (fun r_4 u_2 H locs k_3 hW hL => ?_)
  obtain ⟨eu_2, xu_2⟩ := k_3
  rw [eu_2] at hW
  refine lv_bipush (v := iv 20) hx hb dX11_feed_7 (by decide) ?_
  refine r_iadd hx hb dX11_feed_9 ?_
  refine lv_sipush (v := iv 30000) hx hb dX11_feed_10 (by decide) ?_
  refine r_icmp_le (tgt := 18) hx hb ⟨(by omega), (by omega)⟩ ⟨(by omega), (by omega)⟩ dX11_feed_13 (by decide) (fun c_5 => ?_) (fun c_5 => ?_)
  · refine lv_aload_n hx hb dX11_feed_18 rfl (lv_at hl 0 rfl) ?_
    refine g_X11_14 Cx hW (k := 0) (by decide) rfl (v := .ref (G.2.2.1 + 1)) (rf_0_0 hI) dX11_feed_19 ?_
    refine lv_iload_n hx hb dX11_feed_22 rfl (lv_at hl 1 rfl) ?_
    refine sBv (sV (As := [.int (iv a)]) (rest := []) (k := 1) Cx (s_X10_putFour l G S (o := 1) (k := a) (N := 30000) hI ⟨by decide, rfl, rfl, rfl, rfl, by decide⟩ (by omega)) (c_X11_60 Cx rfl rfl (rmk_ok (by omega) (by decide))) hW (by decide) rfl rfl rfl hl.1 rfl (Nat.le_of_ble_eq_true rfl) dX11_feed_23 ⟨Nat.le_of_ble_eq_true rfl, Nat.le_of_ble_eq_true rfl⟩) hL (fun u_6 H locs k_7 hW hL => ?_)
    obtain ⟨iu_6, fu_6, xu_6⟩ := k_7
    have F_8 := (Fr.rf : Fr S S (pB 1)).trans fu_6
    refine lv_aload_n hx hb dX11_feed_26 rfl (lv_at hl 0 rfl) ?_
    refine g_X11_14 Cx hW (k := 0) (by decide) rfl (v := .ref (G.2.2.1 + 1)) (rf_0_0 iu_6) dX11_feed_27 ?_
    refine lv_iload_n hx hb dX11_feed_30 rfl (lv_at hl 2 rfl) ?_
    have q_9 : 0 ≤ u_6.1 1 1 ∧ u_6.1 1 1 ≤ 30000 := iu_6.fi 1 1 10 (by decide) rfl
    refine sBv (sV (As := [.int (iv b)]) (rest := []) (k := 1) Cx (s_X10_putFour l G u_6 (o := 1) (k := b) (N := 30000) iu_6 ⟨by decide, rfl, rfl, rfl, rfl, by decide⟩ (by omega)) (c_X11_60 Cx rfl rfl (rmk_ok (by omega) (by decide))) hW (by decide) rfl rfl rfl hl.1 rfl (Nat.le_of_ble_eq_true rfl) dX11_feed_31 ⟨Nat.le_of_ble_eq_true rfl, Nat.le_of_ble_eq_true rfl⟩) hL (fun u_10 H locs k_11 hW hL => ?_)
    obtain ⟨iu_10, fu_10, xu_10⟩ := k_11
    have F_12 := F_8.trans fu_10
    refine lv_aload_n hx hb dX11_feed_34 rfl (lv_at hl 0 rfl) ?_
    refine g_X11_14 Cx hW (k := 0) (by decide) rfl (v := .ref (G.2.2.1 + 1)) (rf_0_0 iu_10) dX11_feed_35 ?_
    refine lv_iload_n hx hb dX11_feed_38 rfl (lv_at hl 3 rfl) ?_
    have q_13 : 0 ≤ u_10.1 1 1 ∧ u_10.1 1 1 ≤ 30000 := iu_10.fi 1 1 10 (by decide) rfl
    refine sBv (sV (As := [.int (iv c1)]) (rest := []) (k := 1) Cx (s_X10_putFour l G u_10 (o := 1) (k := c1) (N := 30000) iu_10 ⟨by decide, rfl, rfl, rfl, rfl, by decide⟩ (by omega)) (c_X11_60 Cx rfl rfl (rmk_ok (by omega) (by decide))) hW (by decide) rfl rfl rfl hl.1 rfl (Nat.le_of_ble_eq_true rfl) dX11_feed_39 ⟨Nat.le_of_ble_eq_true rfl, Nat.le_of_ble_eq_true rfl⟩) hL (fun u_14 H locs k_15 hW hL => ?_)
    obtain ⟨iu_14, fu_14, xu_14⟩ := k_15
    have F_16 := F_12.trans fu_14
    refine lv_aload_n hx hb dX11_feed_42 rfl (lv_at hl 0 rfl) ?_
    refine g_X11_14 Cx hW (k := 0) (by decide) rfl (v := .ref (G.2.2.1 + 1)) (rf_0_0 iu_14) dX11_feed_43 ?_
    refine lv_iload hx hb dX11_feed_46 (lv_at hl 4 rfl) ?_
    have q_17 : 0 ≤ u_14.1 1 1 ∧ u_14.1 1 1 ≤ 30000 := iu_14.fi 1 1 10 (by decide) rfl
    refine sBv (sV (As := [.int (iv d1)]) (rest := []) (k := 1) Cx (s_X10_putFour l G u_14 (o := 1) (k := d1) (N := 30000) iu_14 ⟨by decide, rfl, rfl, rfl, rfl, by decide⟩ (by omega)) (c_X11_60 Cx rfl rfl (rmk_ok (by omega) (by decide))) hW (by decide) rfl rfl rfl hl.1 rfl (Nat.le_of_ble_eq_true rfl) dX11_feed_48 ⟨Nat.le_of_ble_eq_true rfl, Nat.le_of_ble_eq_true rfl⟩) hL (fun u_18 H locs k_19 hW hL => ?_)
    obtain ⟨iu_18, fu_18, xu_18⟩ := k_19
    have F_20 := F_16.trans fu_18
    refine lv_aload_n hx hb dX11_feed_51 rfl (lv_at hl 0 rfl) ?_
    refine g_X11_14 Cx hW (k := 0) (by decide) rfl (v := .ref (G.2.2.1 + 1)) (rf_0_0 iu_18) dX11_feed_52 ?_
    refine lv_iload hx hb dX11_feed_55 (lv_at hl 5 rfl) ?_
    have q_21 : 0 ≤ u_18.1 1 1 ∧ u_18.1 1 1 ≤ 30000 := iu_18.fi 1 1 10 (by decide) rfl
    refine sBv (sV (As := [.int (iv e1)]) (rest := []) (k := 1) Cx (s_X10_putFour l G u_18 (o := 1) (k := e1) (N := 30000) iu_18 ⟨by decide, rfl, rfl, rfl, rfl, by decide⟩ (by omega)) (c_X11_60 Cx rfl rfl (rmk_ok (by omega) (by decide))) hW (by decide) rfl rfl rfl hl.1 rfl (Nat.le_of_ble_eq_true rfl) dX11_feed_57 ⟨Nat.le_of_ble_eq_true rfl, Nat.le_of_ble_eq_true rfl⟩) hL (fun u_22 H locs k_23 hW hL => ?_)
    obtain ⟨iu_22, fu_22, xu_22⟩ := k_23
    have F_24 := F_20.trans fu_22
    refine lv_aload_n hx hb dX11_feed_60 rfl (lv_at hl 0 rfl) ?_
    refine g_X11_14 Cx hW (k := 0) (by decide) rfl (v := .ref (G.2.2.1 + 1)) (rf_0_0 iu_22) dX11_feed_61 ?_
    have q_25 : 0 ≤ u_22.1 1 1 ∧ u_22.1 1 1 ≤ 30000 := iu_22.fi 1 1 10 (by decide) rfl
    refine sBi (sV (As := []) (rest := []) (k := 1) Cx (s_X10_length l G u_22 (o := 1) (N := 30000) iu_22 ⟨by decide, rfl, rfl, rfl, rfl, by decide⟩) (c_X11_56 Cx rfl rfl (rmk_ok (by omega) (by decide))) hW (by decide) rfl rfl rfl hl.1 rfl (Nat.le_of_ble_eq_true rfl) dX11_feed_64 ⟨Nat.le_of_ble_eq_true rfl, Nat.le_of_ble_eq_true rfl⟩) hL (fun r_28 u_26 H locs k_27 hW hL => ?_)
    obtain ⟨eu_26, xu_26⟩ := k_27
    rw [eu_26] at hW
    exact sIret Cx hr hlk hW hL ⟨iu_22, F_24, (by omega)⟩ dX11_feed_67
  · refine lv_iconst (v := iv (-1)) hx hb dX11_feed_16 (by decide) ?_
    exact sIret Cx hr hlk hW hL ⟨hI, (Fr.rf : Fr S S (pB 1)), (by omega)⟩ dX11_feed_17

set_option maxRecDepth 100000 in
set_option maxHeartbeats 4000000 in
theorem s_X11_end (l : Launch) (G : sG) (S : sS) {n : Int} (hI : cX G S 0 0 0) (hn : -2147483648 ≤ n ∧ n ≤ 2147483647) : Met l yX11_end (.code yX11_end cX11_end 2 (some .boolean) :: tb) (rmk 2 0 0) (sPc G 294 S [.ref (G.2.2.1 + 0), .int (iv n)]) (sQi G 294 (fun r u => cX G u 0 0 0 ∧ Fr S u (pB 1) ∧ ((0 ≤ n ∧ n ≤ S.1 1 1 → r = 1 ∧ u.1 1 1 = n) ∧ (¬ (0 ≤ n ∧ n ≤ S.1 1 1) → r = 0 ∧ u.1 1 1 = S.1 1 1)))) 0 0 (sF G) := by
  refine sEnter (by decide) (Nat.le_of_ble_eq_true rfl) ?_
  intro p e s m args below meth c Cx hr hlk hnm hW ls hl
  have Cx : sC G p m c cX11_end 2 s args RX11 := Cx
  obtain ⟨hx, hb, hml, hown, hts⟩ := id Cx.1
  have hL : sL G [] := sL_nil
  have hl : lv_has ls 2 [(0, .ref (G.2.2.1 + 0)), (1, .int (iv n))] := hl
  have hW0 := hW
  refine lv_aload_n hx hb dX11_end_0 rfl (lv_at hl 0 rfl) ?_
  refine g_X11_14 Cx hW (k := 0) (by decide) rfl (v := .ref (G.2.2.1 + 1)) (rf_0_0 hI) dX11_end_1 ?_
  refine lv_iload_n hx hb dX11_end_4 rfl (lv_at hl 1 rfl) ?_
  have q_1 : 0 ≤ S.1 1 1 ∧ S.1 1 1 ≤ 30000 := hI.fi 1 1 10 (by decide) rfl
  have q_2 : 0 ≤ S.1 1 2 ∧ S.1 1 2 ≤ 1 := hI.fi 1 2 10 (by decide) rfl
  refine sBi (sV (As := [.int (iv n)]) (rest := []) (k := 1) Cx (s_X10_shorten l G S (o := 1) (k := n) (N := 30000) hI ⟨by decide, rfl, rfl, rfl, rfl, by decide⟩ (by omega)) (c_X11_63 Cx rfl rfl (rmk_ok (by omega) (by decide))) hW (by decide) rfl rfl rfl hl.1 rfl (Nat.le_of_ble_eq_true rfl) dX11_end_5 ⟨Nat.le_of_ble_eq_true rfl, Nat.le_of_ble_eq_true rfl⟩) hL (fun r_5 u_3 H locs k_4 hW hL => ?_)
  obtain ⟨iu_3, fu_3, xu_3⟩ := k_4
  have F_6 := (Fr.rf : Fr S S (pB 1)).trans fu_3
  have q_7 : 0 ≤ u_3.1 1 1 ∧ u_3.1 1 1 ≤ 30000 := iu_3.fi 1 1 10 (by decide) rfl
  exact sZret Cx hr hlk hW hL (by omega) ⟨iu_3, F_6, (by omega)⟩ dX11_end_8

set_option maxRecDepth 100000 in
set_option maxHeartbeats 4000000 in
theorem s_X11_tell (l : Launch) (G : sG) (S : sS)  (hI : cX G S 0 0 0) : Met l yX11_tell (.code yX11_tell cX11_tell 2 (some .int) :: tb) (rmk 136 0 0) (sPc G 294 S [.ref (G.2.2.1 + 0)]) (sQi G 294 (fun r u => cX G u 0 0 0 ∧ Fr S u pA ∧ (u.1 1 1 = 0))) 0 0 (sF G) := by
  refine sEnter (by decide) (Nat.le_of_ble_eq_true rfl) ?_
  intro p e s m args below meth c Cx hr hlk hnm hW ls hl
  have Cx : sC G p m c cX11_tell 2 s args RX11 := Cx
  obtain ⟨hx, hb, hml, hown, hts⟩ := id Cx.1
  have hL : sL G [] := sL_nil
  have hl : lv_has ls 2 [(0, .ref (G.2.2.1 + 0))] := hl
  have hW0 := hW
  refine lv_aload_n hx hb dX11_tell_0 rfl (lv_at hl 0 rfl) ?_
  refine lv_aload_n hx hb dX11_tell_1 rfl (lv_at hl 0 rfl) ?_
  refine g_X11_34 Cx hW (k := 0) (by decide) rfl (v := .ref (G.2.2.1 + 11)) (rf_0_2 hI) dX11_tell_2 ?_
  refine lv_aload_n hx hb dX11_tell_5 rfl (lv_at hl 0 rfl) ?_
  refine g_X11_14 Cx hW (k := 0) (by decide) rfl (v := .ref (G.2.2.1 + 1)) (rf_0_0 hI) dX11_tell_6 ?_
  refine lv_aload_n hx hb dX11_tell_9 rfl (lv_at hl 0 rfl) ?_
  obtain ⟨o_1, mo_1, eo_1⟩ := rm_0_6 hI
  refine g_X11_28 Cx hW (k := 0) (by decide) rfl (v := .ref (G.2.2.1 + o_1)) eo_1 dX11_tell_10 ?_
  refine sBi (sV (As := [.ref (G.2.2.1 + 1), .ref (G.2.2.1 + o_1)]) (rest := [.ref (G.2.2.1 + 0)]) (k := 11) Cx (s_X9_read l G S (t := 1) (o := o_1) (N := 30000) hI ⟨by decide, rfl, rfl, rfl, rfl, by decide⟩ mo_1) (c_X11_67 Cx rfl rfl (rmk_ok (by omega) (by decide))) hW (by decide) rfl rfl rfl hl.1 rfl (Nat.le_of_ble_eq_true rfl) dX11_tell_13 ⟨Nat.le_of_ble_eq_true rfl, Nat.le_of_ble_eq_true rfl⟩) hL (fun r_4 u_2 H locs k_3 hW hL => ?_)
  obtain ⟨iu_2, fu_2, xu_2⟩ := k_3
  have F_5 := (Fr.rf : Fr S S pA).trans (fu_2.to (fun k h => pC_A k (pI_C k h)))
  refine p_X11_71 Cx hW hL (k := 0) (by decide) rfl dX11_tell_16 (fun H locs hW hL => ?_)
  have F_6 : Fr S (uF u_2 0 9 r_4) pA := F_5.F rfl
  have i_7 : cX G (uF u_2 0 9 r_4) 0 0 0 := iu_2.F rfl rfl (show (-2147483648) ≤ r_4 ∧ r_4 ≤ 2147483647 from ⟨by omega, by omega⟩)
  refine lv_aload_n hx hb dX11_tell_19 rfl (lv_at hl 0 rfl) ?_
  refine lv_aload_n hx hb dX11_tell_20 rfl (lv_at hl 0 rfl) ?_
  refine g_X11_34 Cx hW (k := 0) (by decide) rfl (v := .ref (G.2.2.1 + 11)) (rf_0_2 i_7) dX11_tell_21 ?_
  refine sBi (sV (As := []) (rest := [.ref (G.2.2.1 + 0)]) (k := 11) Cx (s_X9_faultPlace l G (uF u_2 0 9 r_4)  i_7) (c_X11_74 Cx rfl rfl (rmk_ok (by omega) (by decide))) hW (by decide) rfl rfl rfl hl.1 rfl (Nat.le_of_ble_eq_true rfl) dX11_tell_24 ⟨Nat.le_of_ble_eq_true rfl, Nat.le_of_ble_eq_true rfl⟩) hL (fun r_10 u_8 H locs k_9 hW hL => ?_)
  obtain ⟨eu_8, xu_8⟩ := k_9
  rw [eu_8] at hW
  refine p_X11_52 Cx hW hL (k := 0) (by decide) rfl dX11_tell_27 (fun H locs hW hL => ?_)
  have F_11 : Fr S (uF (uF u_2 0 9 r_4) 0 10 r_10) pA := F_6.F rfl
  have i_12 : cX G (uF (uF u_2 0 9 r_4) 0 10 r_10) 0 0 0 := i_7.F rfl rfl (show (-2147483648) ≤ r_10 ∧ r_10 ≤ 2147483647 from ⟨by omega, by omega⟩)
  refine lv_aload_n hx hb dX11_tell_30 rfl (lv_at hl 0 rfl) ?_
  refine g_X11_14 Cx hW (k := 0) (by decide) rfl (v := .ref (G.2.2.1 + 1)) (rf_0_0 i_12) dX11_tell_31 ?_
  refine sBv (sV (As := []) (rest := []) (k := 1) Cx (s_X10_clear l G (uF (uF u_2 0 9 r_4) 0 10 r_10) (o := 1) (N := 30000) i_12 ⟨by decide, rfl, rfl, rfl, rfl, by decide⟩) (c_X11_76 Cx rfl rfl (rmk_ok (by omega) (by decide))) hW (by decide) rfl rfl rfl hl.1 rfl (Nat.le_of_ble_eq_true rfl) dX11_tell_34 ⟨Nat.le_of_ble_eq_true rfl, Nat.le_of_ble_eq_true rfl⟩) hL (fun u_13 H locs k_14 hW hL => ?_)
  obtain ⟨iu_13, fu_13, xu_13⟩ := k_14
  have F_15 := F_11.trans (fu_13.to (pB_sub rfl rfl))
  refine lv_aload_n hx hb dX11_tell_37 rfl (lv_at hl 0 rfl) ?_
  refine g_X11_71 Cx hW (k := 0) (by decide) rfl (v := r_4) (((fu_13 0 rfl).1 9).trans ((uF_ne (fun h => absurd h.2 (by decide))).trans (uF_on))) dX11_tell_38 ?_
  refine r_if_ne (tgt := 72) hx hb ⟨(by omega), (by omega)⟩ dX11_tell_41 (by decide) (fun c_16 => ?_) (fun c_16 => ?_)
  · refine lv_aload_n hx hb dX11_tell_72 rfl (lv_at hl 0 rfl) ?_
    refine g_X11_71 Cx hW (k := 0) (by decide) rfl (v := r_4) (((fu_13 0 rfl).1 9).trans ((uF_ne (fun h => absurd h.2 (by decide))).trans (uF_on))) dX11_tell_73 ?_
    have q_17 : 0 ≤ u_13.1 1 1 ∧ u_13.1 1 1 ≤ 30000 := iu_13.fi 1 1 10 (by decide) rfl
    exact sIret Cx hr hlk hW hL ⟨iu_13, F_15, (by omega)⟩ dX11_tell_76
  · refine lv_aload_n hx hb dX11_tell_44 rfl (lv_at hl 0 rfl) ?_
    obtain ⟨o_18, mo_18, eo_18⟩ := rm_0_5 hI
    refine g_X11_24 Cx hW (k := 0) (by decide) rfl (v := .ref (G.2.2.1 + o_18)) ((((fu_13 0 rfl).2.2.2 5).trans ((uF_r).trans ((uF_r).trans ((fu_2 0 rfl).2.2.2 5)))).trans eo_18) dX11_tell_45 ?_
    refine lv_astore_n (lv' := [(1, .ref (G.2.2.1 + o_18)), (0, .ref (G.2.2.1 + 0))]) hx hb dX11_tell_48 rfl hl (by decide) rfl (fun ls hl => ?_)
    refine lv_aload_n hx hb dX11_tell_49 rfl (lv_at hl 1 rfl) ?_
    refine lv_aload_n hx hb dX11_tell_50 rfl (lv_at hl 1 rfl) ?_
    refine g_X11_28 Cx hW (k := 0) (by decide) rfl (v := .ref (G.2.2.1 + o_1)) ((((fu_13 0 rfl).2.2.2 6).trans ((uF_r).trans ((uF_r).trans ((fu_2 0 rfl).2.2.2 6)))).trans eo_1) dX11_tell_51 ?_
    refine p_X11_24 Cx hW hL (k := 0) (by decide) rfl dX11_tell_54 (fun H locs hW hL => ?_)
    have F_19 : Fr S (uR u_13 0 5 (.ref (G.2.2.1 + o_1))) pA := F_15.R rfl
    refine lv_aload_n hx hb dX11_tell_57 rfl (lv_at hl 1 rfl) ?_
    refine lv_aload_n hx hb dX11_tell_58 rfl (lv_at hl 0 rfl) ?_
    refine p_X11_28 Cx hW hL (k := 0) (by decide) rfl dX11_tell_59 (fun H locs hW hL => ?_)
    have F_20 : Fr S (uR (uR u_13 0 5 (.ref (G.2.2.1 + o_1))) 0 6 (.ref (G.2.2.1 + o_18))) pA := F_19.R rfl
    have i_21 : cX G (uR (uR u_13 0 5 (.ref (G.2.2.1 + o_1))) 0 6 (.ref (G.2.2.1 + o_18))) 0 0 0 := iu_13.swapM ((((fu_13 0 rfl).2.2.2 5).trans ((uF_r).trans ((uF_r).trans ((fu_2 0 rfl).2.2.2 5)))).trans eo_18) ((((fu_13 0 rfl).2.2.2 6).trans ((uF_r).trans ((uF_r).trans ((fu_2 0 rfl).2.2.2 6)))).trans eo_1)
    refine lv_aload_n hx hb dX11_tell_62 rfl (lv_at hl 1 rfl) ?_
    refine lv_iconst (v := iv 1) hx hb dX11_tell_63 (by decide) ?_
    refine p_X11_79 Cx hW hL (k := 0) (by decide) rfl (by omega) dX11_tell_64 (fun H locs hW hL => ?_)
    have F_22 : Fr S (uF (uR (uR u_13 0 5 (.ref (G.2.2.1 + o_1))) 0 6 (.ref (G.2.2.1 + o_18))) 0 7 1) pA := F_20.F rfl
    have i_23 : cX G (uF (uR (uR u_13 0 5 (.ref (G.2.2.1 + o_1))) 0 6 (.ref (G.2.2.1 + o_18))) 0 7 1) 0 0 0 := i_21.F rfl rfl (show 0 ≤ 1 ∧ 1 ≤ 1 from ⟨by omega, by omega⟩)
    refine lv_aload_n hx hb dX11_tell_67 rfl (lv_at hl 1 rfl) ?_
    refine lv_iconst (v := iv 0) hx hb dX11_tell_68 (by decide) ?_
    refine p_X11_83 Cx hW hL (k := 0) (by decide) rfl (by omega) dX11_tell_69 (fun H locs hW hL => ?_)
    have F_24 : Fr S (uF (uF (uR (uR u_13 0 5 (.ref (G.2.2.1 + o_1))) 0 6 (.ref (G.2.2.1 + o_18))) 0 7 1) 0 8 0) pA := F_22.F rfl
    have i_25 : cX G (uF (uF (uR (uR u_13 0 5 (.ref (G.2.2.1 + o_1))) 0 6 (.ref (G.2.2.1 + o_18))) 0 7 1) 0 8 0) 0 0 0 := i_23.F rfl rfl (show 0 ≤ 0 ∧ 0 ≤ 1 from ⟨by omega, by omega⟩)
    refine lv_aload_n hx hb dX11_tell_72 rfl (lv_at hl 1 rfl) ?_
    refine g_X11_71 Cx hW (k := 0) (by decide) rfl (v := r_4) ((uF_ne (fun h => absurd h.2 (by decide))).trans ((uF_ne (fun h => absurd h.2 (by decide))).trans ((uR_f).trans ((uR_f).trans (((fu_13 0 rfl).1 9).trans ((uF_ne (fun h => absurd h.2 (by decide))).trans (uF_on))))))) dX11_tell_73 ?_
    have q_26 : 0 ≤ u_13.1 1 1 ∧ u_13.1 1 1 ≤ 30000 := iu_13.fi 1 1 10 (by decide) rfl
    have lk_27 : (uF (uF (uR (uR u_13 0 5 (.ref (G.2.2.1 + o_1))) 0 6 (.ref (G.2.2.1 + o_18))) 0 7 1) 0 8 0).1 1 1 = u_13.1 1 1 := (uF_ne (fun h => absurd h.2 (by decide))).trans ((uF_ne (fun h => absurd h.2 (by decide))).trans ((uR_f).trans (uR_f)))
    exact sIret Cx hr hlk hW hL ⟨i_25, F_24, (by omega)⟩ dX11_tell_76

set_option maxRecDepth 100000 in
set_option maxHeartbeats 4000000 in
theorem s_X11_fault (l : Launch) (G : sG) (S : sS) {k : Int} (hI : cX G S 0 0 0) (hk : -2147483648 ≤ k ∧ k ≤ 2147483647) : Met l yX11_fault (.code yX11_fault cX11_fault 2 (some .int) :: tb) (rmk 1 0 0) (sPc G 294 S [.ref (G.2.2.1 + 0), .int (iv k)]) (sQi G 294 (fun r u => u = S ∧ (-2147483648 ≤ r ∧ r ≤ 2147483647))) 0 0 (sF G) := by
  refine sEnter (by decide) (Nat.le_of_ble_eq_true rfl) ?_
  intro p e s m args below meth c Cx hr hlk hnm hW ls hl
  have Cx : sC G p m c cX11_fault 2 s args RX11 := Cx
  obtain ⟨hx, hb, hml, hown, hts⟩ := id Cx.1
  have hL : sL G [] := sL_nil
  have hl : lv_has ls 2 [(0, .ref (G.2.2.1 + 0)), (1, .int (iv k))] := hl
  have hW0 := hW
  refine lv_iload_n hx hb dX11_fault_0 rfl (lv_at hl 1 rfl) ?_
  by_cases c_1 : k = 0
  · refine lv_lookup (off := 27) (tgt := 28) hx hb dX11_fault_1 (by decide) (by rw [c_1]; decide) (by decide) ?_
    refine lv_aload_n hx hb dX11_fault_28 rfl (lv_at hl 0 rfl) ?_
    have q_2 : (-2147483648) ≤ S.1 0 9 ∧ S.1 0 9 ≤ 2147483647 := hI.fi 0 9 11 (by decide) rfl
    refine g_X11_71 Cx hW (k := 0) (by decide) rfl (v := S.1 0 9) rfl dX11_fault_29 ?_
    exact sIret Cx hr hlk hW hL ⟨rfl, (by omega)⟩ dX11_fault_32
  by_cases c_3 : k = 1
  · refine lv_lookup (off := 32) (tgt := 33) hx hb dX11_fault_1 (by decide) (by rw [c_3]; decide) (by decide) ?_
    refine lv_aload_n hx hb dX11_fault_33 rfl (lv_at hl 0 rfl) ?_
    have q_4 : (-2147483648) ≤ S.1 0 10 ∧ S.1 0 10 ≤ 2147483647 := hI.fi 0 10 11 (by decide) rfl
    refine g_X11_52 Cx hW (k := 0) (by decide) rfl (v := S.1 0 10) rfl dX11_fault_34 ?_
    exact sIret Cx hr hlk hW hL ⟨rfl, (by omega)⟩ dX11_fault_37
  refine lv_lookup (off := 37) (tgt := 38) hx hb dX11_fault_1 (by decide) (by rw [iv_toInt ⟨(by omega), (by omega)⟩]; exact lk_out (by simp [List.forall_mem_cons]; omega)) (by decide) ?_
  refine lv_iconst (v := iv (-1)) hx hb dX11_fault_38 (by decide) ?_
  exact sIret Cx hr hlk hW hL ⟨rfl, (by omega)⟩ dX11_fault_39

set_option maxRecDepth 100000 in
set_option maxHeartbeats 4000000 in
theorem s_X11_size (l : Launch) (G : sG) (S : sS) {k : Int} (hI : cX G S 0 0 0) (hk : -2147483648 ≤ k ∧ k ≤ 2147483647) : Met l yX11_size (.code yX11_size cX11_size 2 (some .int) :: tb) (rmk 2 0 0) (sPc G 294 S [.ref (G.2.2.1 + 0), .int (iv k)]) (sQi G 294 (fun r u => u = S ∧ (-2147483648 ≤ r ∧ r ≤ 2147483647))) 0 0 (sF G) := by
  refine sEnter (by decide) (Nat.le_of_ble_eq_true rfl) ?_
  intro p e s m args below meth c Cx hr hlk hnm hW ls hl
  have Cx : sC G p m c cX11_size 2 s args RX11 := Cx
  obtain ⟨hx, hb, hml, hown, hts⟩ := id Cx.1
  have hL : sL G [] := sL_nil
  have hl : lv_has ls 2 [(0, .ref (G.2.2.1 + 0)), (1, .int (iv k))] := hl
  have hW0 := hW
  refine lv_iload_n hx hb dX11_size_0 rfl (lv_at hl 1 rfl) ?_
  refine r_if_lt (tgt := 9) hx hb ⟨(by omega), (by omega)⟩ dX11_size_1 (by decide) (fun c_1 => ?_) (fun c_1 => ?_)
  · refine lv_iconst (v := iv (-1)) hx hb dX11_size_9 (by decide) ?_
    exact sIret Cx hr hlk hW hL ⟨rfl, (by omega)⟩ dX11_size_10
  · refine lv_iload_n hx hb dX11_size_4 rfl (lv_at hl 1 rfl) ?_
    refine lv_iconst (v := iv 3) hx hb dX11_size_5 (by decide) ?_
    refine r_icmp_le (tgt := 11) hx hb ⟨(by omega), (by omega)⟩ ⟨(by omega), (by omega)⟩ dX11_size_6 (by decide) (fun c_2 => ?_) (fun c_2 => ?_)
    · refine lv_aload_n hx hb dX11_size_11 rfl (lv_at hl 0 rfl) ?_
      have q_3 : 0 ≤ S.1 0 7 ∧ S.1 0 7 ≤ 1 := hI.fi 0 7 11 (by decide) rfl
      refine g_X11_79 Cx hW (k := 0) (by decide) rfl (v := S.1 0 7) rfl dX11_size_12 ?_
      refine r_if_ne (tgt := 20) hx hb ⟨(by omega), (by omega)⟩ dX11_size_15 (by decide) (fun c_4 => ?_) (fun c_4 => ?_)
      · refine lv_iload_n hx hb dX11_size_20 rfl (lv_at hl 1 rfl) ?_
        by_cases c_5 : k = 0
        · refine lv_tableIn (off := 27) (tgt := 48) hx hb dX11_size_21 (by rw [c_5]; decide) (by rw [c_5]; decide) (by rw [c_5]; decide) (by decide) ?_
          refine lv_aload_n hx hb dX11_size_48 rfl (lv_at hl 0 rfl) ?_
          obtain ⟨o_6, mo_6, eo_6⟩ := rm_0_5 hI
          refine g_X11_24 Cx hW (k := 0) (by decide) rfl (v := .ref (G.2.2.1 + o_6)) eo_6 dX11_size_49 ?_
          have q_7 : 0 ≤ S.1 o_6 2 ∧ S.1 o_6 2 ≤ 12 := hI.fi o_6 2 3 (mdl_k mo_6) mo_6.1
          refine g_X11_86 Cx hW (k := o_6) (mdl_l mo_6) mo_6.1 (v := S.1 o_6 2) rfl dX11_size_52 ?_
          exact sIret Cx hr hlk hW hL ⟨rfl, (by omega)⟩ dX11_size_55
        by_cases c_8 : k = 1
        · refine lv_tableIn (off := 35) (tgt := 56) hx hb dX11_size_21 (by rw [c_8]; decide) (by rw [c_8]; decide) (by rw [c_8]; decide) (by decide) ?_
          refine lv_aload_n hx hb dX11_size_56 rfl (lv_at hl 0 rfl) ?_
          obtain ⟨o_9, mo_9, eo_9⟩ := rm_0_5 hI
          refine g_X11_24 Cx hW (k := 0) (by decide) rfl (v := .ref (G.2.2.1 + o_9)) eo_9 dX11_size_57 ?_
          have q_10 : 0 ≤ S.1 o_9 3 ∧ S.1 o_9 3 ≤ 16 := hI.fi o_9 3 3 (mdl_k mo_9) mo_9.1
          refine g_X11_89 Cx hW (k := o_9) (mdl_l mo_9) mo_9.1 (v := S.1 o_9 3) rfl dX11_size_60 ?_
          exact sIret Cx hr hlk hW hL ⟨rfl, (by omega)⟩ dX11_size_63
        by_cases c_11 : k = 2
        · refine lv_tableIn (off := 43) (tgt := 64) hx hb dX11_size_21 (by rw [c_11]; decide) (by rw [c_11]; decide) (by rw [c_11]; decide) (by decide) ?_
          refine lv_aload_n hx hb dX11_size_64 rfl (lv_at hl 0 rfl) ?_
          obtain ⟨o_12, mo_12, eo_12⟩ := rm_0_5 hI
          refine g_X11_24 Cx hW (k := 0) (by decide) rfl (v := .ref (G.2.2.1 + o_12)) eo_12 dX11_size_65 ?_
          refine sBi (sV (As := []) (rest := []) (k := o_12) Cx (s_X3_wholes l G S (o := o_12) hI mo_12) (c_X11_92 Cx rfl rfl (rmk_ok (by omega) (by decide))) hW (mdl_l mo_12) mo_12.1 rfl rfl hl.1 rfl (Nat.le_of_ble_eq_true rfl) dX11_size_68 ⟨Nat.le_of_ble_eq_true rfl, Nat.le_of_ble_eq_true rfl⟩) hL (fun r_15 u_13 H locs k_14 hW hL => ?_)
          obtain ⟨eu_13, xu_13⟩ := k_14
          rw [eu_13] at hW
          exact sIret Cx hr hlk hW hL ⟨rfl, (by omega)⟩ dX11_size_71
        refine lv_tableOut (tgt := 72) hx hb dX11_size_21 (by rw [iv_toInt ⟨(by omega), (by omega)⟩]; omega) (by decide) ?_
        refine lv_aload_n hx hb dX11_size_72 rfl (lv_at hl 0 rfl) ?_
        obtain ⟨o_16, mo_16, eo_16⟩ := rm_0_5 hI
        refine g_X11_24 Cx hW (k := 0) (by decide) rfl (v := .ref (G.2.2.1 + o_16)) eo_16 dX11_size_73 ?_
        have q_17 : 0 ≤ S.1 o_16 4 ∧ S.1 o_16 4 ≤ 1 := hI.fi o_16 4 3 (mdl_k mo_16) mo_16.1
        refine g_X11_95 Cx hW (k := o_16) (mdl_l mo_16) mo_16.1 (v := S.1 o_16 4) rfl dX11_size_76 ?_
        refine r_if_eq (tgt := 86) hx hb ⟨(by omega), (by omega)⟩ dX11_size_79 (by decide) (fun c_18 => ?_) (fun c_18 => ?_)
        · refine lv_iconst (v := iv 0) hx hb dX11_size_86 (by decide) ?_
          exact sIret Cx hr hlk hW hL ⟨rfl, (by omega)⟩ dX11_size_87
        · refine lv_iconst (v := iv 1) hx hb dX11_size_82 (by decide) ?_
          refine lv_goto (tgt := 87) hx hb dX11_size_83 (by decide) ?_
          exact sIret Cx hr hlk hW hL ⟨rfl, (by omega)⟩ dX11_size_87
      · refine lv_iconst (v := iv 0) hx hb dX11_size_18 (by decide) ?_
        exact sIret Cx hr hlk hW hL ⟨rfl, (by omega)⟩ dX11_size_19
    · refine lv_iconst (v := iv (-1)) hx hb dX11_size_9 (by decide) ?_
      exact sIret Cx hr hlk hW hL ⟨rfl, (by omega)⟩ dX11_size_10

set_option maxRecDepth 100000 in
set_option maxHeartbeats 4000000 in
theorem s_X11_coefficient (l : Launch) (G : sG) (S : sS) {k j : Int} (hI : cX G S 0 0 0) (hk : -2147483648 ≤ k ∧ k ≤ 2147483647) (hj : -2147483648 ≤ j ∧ j ≤ 2147483647) : Met l yX11_coefficient (.code yX11_coefficient cX11_coefficient 3 (some .long) :: tb) (rmk 5 0 0) (sPc G 294 S [.ref (G.2.2.1 + 0), .int (iv k), .int (iv j)]) (sQl G 294 (fun r u => cX G u 0 0 0 ∧ Fr S u pN ∧ (-9223372036854775808 ≤ r ∧ r ≤ 9223372036854775807))) 0 0 (sF G) := by
  refine sEnter (by decide) (Nat.le_of_ble_eq_true rfl) ?_
  intro p e s m args below meth c Cx hr hlk hnm hW ls hl
  have Cx : sC G p m c cX11_coefficient 3 s args RX11 := Cx
  obtain ⟨hx, hb, hml, hown, hts⟩ := id Cx.1
  have hL : sL G [] := sL_nil
  have hl : lv_has ls 3 [(0, .ref (G.2.2.1 + 0)), (1, .int (iv k)), (2, .int (iv j))] := hl
  have hW0 := hW
  refine lv_aload_n hx hb dX11_coefficient_0 rfl (lv_at hl 0 rfl) ?_
  have q_1 : 0 ≤ S.1 0 7 ∧ S.1 0 7 ≤ 1 := hI.fi 0 7 11 (by decide) rfl
  refine g_X11_79 Cx hW (k := 0) (by decide) rfl (v := S.1 0 7) rfl dX11_coefficient_1 ?_
  refine r_if_eq (tgt := 26) hx hb ⟨(by omega), (by omega)⟩ dX11_coefficient_4 (by decide) (fun c_2 => ?_) (fun c_2 => ?_)
  · refine lv_lconst (v := jv 0) hx hb dX11_coefficient_26 (by decide) ?_
    exact sLret Cx hr hlk hW hL ⟨hI, (Fr.rf : Fr S S pN), (by omega)⟩ dX11_coefficient_27
  · refine lv_iload_n hx hb dX11_coefficient_7 rfl (lv_at hl 2 rfl) ?_
    refine r_if_lt (tgt := 26) hx hb ⟨(by omega), (by omega)⟩ dX11_coefficient_8 (by decide) (fun c_3 => ?_) (fun c_3 => ?_)
    · refine lv_lconst (v := jv 0) hx hb dX11_coefficient_26 (by decide) ?_
      exact sLret Cx hr hlk hW hL ⟨hI, (Fr.rf : Fr S S pN), (by omega)⟩ dX11_coefficient_27
    · refine lv_iload_n hx hb dX11_coefficient_11 rfl (lv_at hl 2 rfl) ?_
      refine lv_aload_n hx hb dX11_coefficient_12 rfl (lv_at hl 0 rfl) ?_
      obtain ⟨o_4, mo_4, eo_4⟩ := rm_0_5 hI
      refine g_X11_24 Cx hW (k := 0) (by decide) rfl (v := .ref (G.2.2.1 + o_4)) eo_4 dX11_coefficient_13 ?_
      have q_5 : 0 ≤ S.1 o_4 2 ∧ S.1 o_4 2 ≤ 12 := hI.fi o_4 2 3 (mdl_k mo_4) mo_4.1
      refine g_X11_86 Cx hW (k := o_4) (mdl_l mo_4) mo_4.1 (v := S.1 o_4 2) rfl dX11_coefficient_16 ?_
      refine r_icmp_gt (tgt := 26) hx hb ⟨(by omega), (by omega)⟩ ⟨(by omega), (by omega)⟩ dX11_coefficient_19 (by decide) (fun c_6 => ?_) (fun c_6 => ?_)
      · refine lv_lconst (v := jv 0) hx hb dX11_coefficient_26 (by decide) ?_
        exact sLret Cx hr hlk hW hL ⟨hI, (Fr.rf : Fr S S pN), (by omega)⟩ dX11_coefficient_27
      · refine lv_iload_n hx hb dX11_coefficient_22 rfl (lv_at hl 1 rfl) ?_
        refine r_if_ge (tgt := 28) hx hb ⟨(by omega), (by omega)⟩ dX11_coefficient_23 (by decide) (fun c_7 => ?_) (fun c_7 => ?_)
        · refine lv_aload_n hx hb dX11_coefficient_28 rfl (lv_at hl 0 rfl) ?_
          have q_8 : 0 ≤ S.1 0 8 ∧ S.1 0 8 ≤ 1 := hI.fi 0 8 11 (by decide) rfl
          refine g_X11_83 Cx hW (k := 0) (by decide) rfl (v := S.1 0 8) rfl dX11_coefficient_29 ?_
          refine r_if_eq (tgt := 45) hx hb ⟨(by omega), (by omega)⟩ dX11_coefficient_32 (by decide) (fun c_9 => ?_) (fun c_9 => ?_)
          · refine lv_iload_n hx hb dX11_coefficient_45 rfl (lv_at hl 1 rfl) ?_
            refine lv_aload_n hx hb dX11_coefficient_46 rfl (lv_at hl 0 rfl) ?_
            refine g_X11_24 Cx hW (k := 0) (by decide) rfl (v := .ref (G.2.2.1 + o_4)) eo_4 dX11_coefficient_47 ?_
            have q_10 : 0 ≤ S.1 o_4 3 ∧ S.1 o_4 3 ≤ 16 := hI.fi o_4 3 3 (mdl_k mo_4) mo_4.1
            refine g_X11_89 Cx hW (k := o_4) (mdl_l mo_4) mo_4.1 (v := S.1 o_4 3) rfl dX11_coefficient_50 ?_
            refine r_icmp_gt (tgt := 69) hx hb ⟨(by omega), (by omega)⟩ ⟨(by omega), (by omega)⟩ dX11_coefficient_53 (by decide) (fun c_11 => ?_) (fun c_11 => ?_)
            · refine lv_lconst (v := jv 0) hx hb dX11_coefficient_69 (by decide) ?_
              exact sLret Cx hr hlk hW hL ⟨hI, (Fr.rf : Fr S S pN), (by omega)⟩ dX11_coefficient_70
            · refine lv_aload_n hx hb dX11_coefficient_56 rfl (lv_at hl 0 rfl) ?_
              refine g_X11_24 Cx hW (k := 0) (by decide) rfl (v := .ref (G.2.2.1 + o_4)) eo_4 dX11_coefficient_57 ?_
              refine lv_iload_n hx hb dX11_coefficient_60 rfl (lv_at hl 1 rfl) ?_
              refine lv_iload_n hx hb dX11_coefficient_61 rfl (lv_at hl 2 rfl) ?_
              refine sBi (sV (As := [.int (iv k), .int (iv j)]) (rest := []) (k := o_4) Cx (s_X3_number l G S (o := o_4) (k := k) (j := j) hI mo_4 (by omega) (by omega)) (c_X11_102 Cx rfl rfl (rmk_ok (by omega) (by decide))) hW (mdl_l mo_4) mo_4.1 rfl rfl hl.1 rfl (Nat.le_of_ble_eq_true rfl) dX11_coefficient_62 ⟨Nat.le_of_ble_eq_true rfl, Nat.le_of_ble_eq_true rfl⟩) hL (fun r_14 u_12 H locs k_13 hW hL => ?_)
              obtain ⟨eu_12, xu_12⟩ := k_13
              rw [eu_12] at hW
              refine r_i2l hx hb ⟨(by omega), (by omega)⟩ dX11_coefficient_65 ?_
              refine lv_goto (tgt := 70) hx hb dX11_coefficient_66 (by decide) ?_
              exact sLret Cx hr hlk hW hL ⟨hI, (Fr.rf : Fr S S pN), (by omega)⟩ dX11_coefficient_70
          · refine lv_aload_n hx hb dX11_coefficient_35 rfl (lv_at hl 0 rfl) ?_
            refine g_X11_41 Cx hW (k := 0) (by decide) rfl (v := .ref (G.2.2.1 + 119)) (rf_0_3 hI) dX11_coefficient_36 ?_
            refine lv_iload_n hx hb dX11_coefficient_39 rfl (lv_at hl 1 rfl) ?_
            refine lv_iload_n hx hb dX11_coefficient_40 rfl (lv_at hl 2 rfl) ?_
            refine sBl (sV (As := [.int (iv k), .int (iv j)]) (rest := []) (k := 119) Cx (s_X7_rowNumber l G S (k := k) (j := j) hI (by omega) (by omega)) (c_X11_98 Cx rfl rfl (rmk_ok (by omega) (by decide))) hW (by decide) rfl rfl rfl hl.1 rfl (Nat.le_of_ble_eq_true rfl) dX11_coefficient_41 ⟨Nat.le_of_ble_eq_true rfl, Nat.le_of_ble_eq_true rfl⟩) hL (fun r_17 u_15 H locs k_16 hW hL => ?_)
            obtain ⟨iu_15, fu_15, xu_15⟩ := k_16
            have F_18 := (Fr.rf : Fr S S pN).trans fu_15
            exact sLret Cx hr hlk hW hL ⟨iu_15, F_18, (by omega)⟩ dX11_coefficient_44
        · refine lv_lconst (v := jv 0) hx hb dX11_coefficient_26 (by decide) ?_
          exact sLret Cx hr hlk hW hL ⟨hI, (Fr.rf : Fr S S pN), (by omega)⟩ dX11_coefficient_27

set_option maxRecDepth 100000 in
set_option maxHeartbeats 4000000 in
theorem s_X11_begin (l : Launch) (G : sG) (S : sS) {k : Int} (hI : cX G S 0 0 0) (hk : -2147483648 ≤ k ∧ k ≤ 2147483647) : Met l yX11_begin (.code yX11_begin cX11_begin 2 (some .boolean) :: tb) (rmk 6 0 0) (sPc G 294 S [.ref (G.2.2.1 + 0), .int (iv k)]) (sQi G 294 (fun r u => cX G u 0 0 0 ∧ Fr S u pC ∧ (0 ≤ r ∧ r ≤ 1))) 0 0 (sF G) := by
  refine sEnter (by decide) (Nat.le_of_ble_eq_true rfl) ?_
  intro p e s m args below meth c Cx hr hlk hnm hW ls hl
  have Cx : sC G p m c cX11_begin 2 s args RX11 := Cx
  obtain ⟨hx, hb, hml, hown, hts⟩ := id Cx.1
  have hL : sL G [] := sL_nil
  have hl : lv_has ls 2 [(0, .ref (G.2.2.1 + 0)), (1, .int (iv k))] := hl
  have hW0 := hW
  refine lv_aload_n hx hb dX11_begin_0 rfl (lv_at hl 0 rfl) ?_
  have q_1 : 0 ≤ S.1 0 7 ∧ S.1 0 7 ≤ 1 := hI.fi 0 7 11 (by decide) rfl
  refine g_X11_79 Cx hW (k := 0) (by decide) rfl (v := S.1 0 7) rfl dX11_begin_1 ?_
  refine r_if_eq (tgt := 17) hx hb ⟨(by omega), (by omega)⟩ dX11_begin_4 (by decide) (fun c_2 => ?_) (fun c_2 => ?_)
  · refine lv_iconst (v := iv 0) hx hb dX11_begin_17 (by decide) ?_
    exact sZret Cx hr hlk hW hL (by omega) ⟨hI, (Fr.rf : Fr S S pC), (by omega)⟩ dX11_begin_18
  · refine lv_iload_n hx hb dX11_begin_7 rfl (lv_at hl 1 rfl) ?_
    refine r_if_lt (tgt := 17) hx hb ⟨(by omega), (by omega)⟩ dX11_begin_8 (by decide) (fun c_3 => ?_) (fun c_3 => ?_)
    · refine lv_iconst (v := iv 0) hx hb dX11_begin_17 (by decide) ?_
      exact sZret Cx hr hlk hW hL (by omega) ⟨hI, (Fr.rf : Fr S S pC), (by omega)⟩ dX11_begin_18
    · refine lv_iload_n hx hb dX11_begin_11 rfl (lv_at hl 1 rfl) ?_
      refine lv_bipush (v := iv 20) hx hb dX11_begin_12 (by decide) ?_
      refine r_icmp_le (tgt := 19) hx hb ⟨(by omega), (by omega)⟩ ⟨(by omega), (by omega)⟩ dX11_begin_14 (by decide) (fun c_4 => ?_) (fun c_4 => ?_)
      · refine lv_aload_n hx hb dX11_begin_19 rfl (lv_at hl 0 rfl) ?_
        refine g_X11_41 Cx hW (k := 0) (by decide) rfl (v := .ref (G.2.2.1 + 119)) (rf_0_3 hI) dX11_begin_20 ?_
        refine lv_aload_n hx hb dX11_begin_23 rfl (lv_at hl 0 rfl) ?_
        obtain ⟨o_5, mo_5, eo_5⟩ := rm_0_5 hI
        refine g_X11_24 Cx hW (k := 0) (by decide) rfl (v := .ref (G.2.2.1 + o_5)) eo_5 dX11_begin_24 ?_
        refine lv_iload_n hx hb dX11_begin_27 rfl (lv_at hl 1 rfl) ?_
        refine sBv (sV (As := [.ref (G.2.2.1 + o_5), .int (iv k)]) (rest := []) (k := 119) Cx (s_X7_start l G S (md := o_5) (al := k) hI mo_5 (by omega)) (c_X11_106 Cx rfl rfl (rmk_ok (by omega) (by decide))) hW (by decide) rfl rfl rfl hl.1 rfl (Nat.le_of_ble_eq_true rfl) dX11_begin_28 ⟨Nat.le_of_ble_eq_true rfl, Nat.le_of_ble_eq_true rfl⟩) hL (fun u_6 H locs k_7 hW hL => ?_)
        obtain ⟨iu_6, fu_6⟩ := k_7
        have F_8 := (Fr.rf : Fr S S pC).trans (fu_6.to pH_C)
        refine lv_aload_n hx hb dX11_begin_31 rfl (lv_at hl 0 rfl) ?_
        refine lv_iconst (v := iv 1) hx hb dX11_begin_32 (by decide) ?_
        refine p_X11_83 Cx hW hL (k := 0) (by decide) rfl (by omega) dX11_begin_33 (fun H locs hW hL => ?_)
        have F_9 : Fr S (uF u_6 0 8 1) pC := F_8.F rfl
        have i_10 : cX G (uF u_6 0 8 1) 0 0 0 := iu_6.F rfl rfl (show 0 ≤ 1 ∧ 1 ≤ 1 from ⟨by omega, by omega⟩)
        refine lv_iconst (v := iv 1) hx hb dX11_begin_36 (by decide) ?_
        exact sZret Cx hr hlk hW hL (by omega) ⟨i_10, F_9, (by omega)⟩ dX11_begin_37
      · refine lv_iconst (v := iv 0) hx hb dX11_begin_17 (by decide) ?_
        exact sZret Cx hr hlk hW hL (by omega) ⟨hI, (Fr.rf : Fr S S pC), (by omega)⟩ dX11_begin_18

set_option maxRecDepth 100000 in
set_option maxHeartbeats 4000000 in
theorem s_X11_work (l : Launch) (G : sG) (S : sS) {k : Int} (hI : cX G S 0 0 0) (hk : -2147483648 ≤ k ∧ k ≤ 2147483647) : Met l yX11_work (.code yX11_work cX11_work 3 (some .int) :: tb) (rmk 10 0 0) (sPc G 294 S [.ref (G.2.2.1 + 0), .int (iv k)]) (sQi G 294 (fun r u => cX G u 0 0 0 ∧ Fr S u pC ∧ (-2147483648 ≤ r ∧ r ≤ 2147483647))) 0 0 (sF G) := by
  refine sEnter (by decide) (Nat.le_of_ble_eq_true rfl) ?_
  intro p e s m args below meth c Cx hr hlk hnm hW ls hl
  have Cx : sC G p m c cX11_work 3 s args RX11 := Cx
  obtain ⟨hx, hb, hml, hown, hts⟩ := id Cx.1
  have hL : sL G [] := sL_nil
  have hl : lv_has ls 3 [(0, .ref (G.2.2.1 + 0)), (1, .int (iv k))] := hl
  have hW0 := hW
  refine lv_iload_n hx hb dX11_work_0 rfl (lv_at hl 1 rfl) ?_
  refine lv_iconst (v := iv 1) hx hb dX11_work_1 (by decide) ?_
  refine r_icmp_lt (tgt := 12) hx hb ⟨(by omega), (by omega)⟩ ⟨(by omega), (by omega)⟩ dX11_work_2 (by decide) (fun c_1 => ?_) (fun c_1 => ?_)
  · refine lv_iconst (v := iv (-1)) hx hb dX11_work_12 (by decide) ?_
    exact sIret Cx hr hlk hW hL ⟨hI, (Fr.rf : Fr S S pC), (by omega)⟩ dX11_work_13
  · refine lv_iload_n hx hb dX11_work_5 rfl (lv_at hl 1 rfl) ?_
    refine lv_sipush (v := iv 500) hx hb dX11_work_6 (by decide) ?_
    refine r_icmp_le (tgt := 14) hx hb ⟨(by omega), (by omega)⟩ ⟨(by omega), (by omega)⟩ dX11_work_9 (by decide) (fun c_2 => ?_) (fun c_2 => ?_)
    · refine lv_aload_n hx hb dX11_work_14 rfl (lv_at hl 0 rfl) ?_
      have q_3 : 0 ≤ S.1 0 8 ∧ S.1 0 8 ≤ 1 := hI.fi 0 8 11 (by decide) rfl
      refine g_X11_83 Cx hW (k := 0) (by decide) rfl (v := S.1 0 8) rfl dX11_work_15 ?_
      refine r_if_ne (tgt := 23) hx hb ⟨(by omega), (by omega)⟩ dX11_work_18 (by decide) (fun c_4 => ?_) (fun c_4 => ?_)
      · refine lv_aload_n hx hb dX11_work_23 rfl (lv_at hl 0 rfl) ?_
        refine g_X11_41 Cx hW (k := 0) (by decide) rfl (v := .ref (G.2.2.1 + 119)) (rf_0_3 hI) dX11_work_24 ?_
        refine lv_iload_n hx hb dX11_work_27 rfl (lv_at hl 1 rfl) ?_
        refine sBi (sV (As := [.int (iv k)]) (rest := []) (k := 119) Cx (s_X7_run l G S (mo := k) hI (by omega)) (c_X11_110 Cx rfl rfl (rmk_ok (by omega) (by decide))) hW (by decide) rfl rfl rfl hl.1 rfl (Nat.le_of_ble_eq_true rfl) dX11_work_28 ⟨Nat.le_of_ble_eq_true rfl, Nat.le_of_ble_eq_true rfl⟩) hL (fun r_7 u_5 H locs k_6 hW hL => ?_)
        obtain ⟨iu_5, fu_5, xu_5⟩ := k_6
        have F_8 := (Fr.rf : Fr S S pC).trans (fu_5.to pH_C)
        refine lv_istore_n (lv' := [(2, .int (iv r_7)), (0, .ref (G.2.2.1 + 0)), (1, .int (iv k))]) hx hb dX11_work_31 rfl hl (by decide) rfl (fun ls hl => ?_)
        refine lv_aload_n hx hb dX11_work_32 rfl (lv_at hl 1 rfl) ?_
        refine g_X11_41 Cx hW (k := 0) (by decide) rfl (v := .ref (G.2.2.1 + 119)) (rf_0_3 iu_5) dX11_work_33 ?_
        refine sBv (sV (As := []) (rest := []) (k := 119) Cx (s_X7_prove l G u_5  iu_5) (c_X11_114 Cx rfl rfl (rmk_ok (by omega) (by decide))) hW (by decide) rfl rfl rfl hl.1 rfl (Nat.le_of_ble_eq_true rfl) dX11_work_36 ⟨Nat.le_of_ble_eq_true rfl, Nat.le_of_ble_eq_true rfl⟩) hL (fun u_9 H locs k_10 hW hL => ?_)
        obtain ⟨iu_9, fu_9⟩ := k_10
        have F_11 := F_8.trans (fu_9.to pH_C)
        refine lv_iload_n hx hb dX11_work_39 rfl (lv_at hl 0 rfl) ?_
        exact sIret Cx hr hlk hW hL ⟨iu_9, F_11, (by omega)⟩ dX11_work_40
      · refine lv_iconst (v := iv 0) hx hb dX11_work_21 (by decide) ?_
        exact sIret Cx hr hlk hW hL ⟨hI, (Fr.rf : Fr S S pC), (by omega)⟩ dX11_work_22
    · refine lv_iconst (v := iv (-1)) hx hb dX11_work_12 (by decide) ?_
      exact sIret Cx hr hlk hW hL ⟨hI, (Fr.rf : Fr S S pC), (by omega)⟩ dX11_work_13

set_option maxRecDepth 100000 in
set_option maxHeartbeats 4000000 in
theorem s_X11_look (l : Launch) (G : sG) (S : sS) {k : Int} (hI : cX G S 0 0 0) (hk : -2147483648 ≤ k ∧ k ≤ 2147483647) : Met l yX11_look (.code yX11_look cX11_look 2 (some .int) :: tb) (rmk 4 0 0) (sPc G 294 S [.ref (G.2.2.1 + 0), .int (iv k)]) (sQi G 294 (fun r u => u = S ∧ (-2147483648 ≤ r ∧ r ≤ 2147483647))) 0 0 (sF G) := by
  refine sEnter (by decide) (Nat.le_of_ble_eq_true rfl) ?_
  intro p e s m args below meth c Cx hr hlk hnm hW ls hl
  have Cx : sC G p m c cX11_look 2 s args RX11 := Cx
  obtain ⟨hx, hb, hml, hown, hts⟩ := id Cx.1
  have hL : sL G [] := sL_nil
  have hl : lv_has ls 2 [(0, .ref (G.2.2.1 + 0)), (1, .int (iv k))] := hl
  have hW0 := hW
  refine lv_iload_n hx hb dX11_look_0 rfl (lv_at hl 1 rfl) ?_
  refine r_if_lt (tgt := 10) hx hb ⟨(by omega), (by omega)⟩ dX11_look_1 (by decide) (fun c_1 => ?_) (fun c_1 => ?_)
  · refine lv_iconst (v := iv (-1)) hx hb dX11_look_10 (by decide) ?_
    exact sIret Cx hr hlk hW hL ⟨rfl, (by omega)⟩ dX11_look_11
  · refine lv_iload_n hx hb dX11_look_4 rfl (lv_at hl 1 rfl) ?_
    refine lv_bipush (v := iv 9) hx hb dX11_look_5 (by decide) ?_
    refine r_icmp_le (tgt := 12) hx hb ⟨(by omega), (by omega)⟩ ⟨(by omega), (by omega)⟩ dX11_look_7 (by decide) (fun c_2 => ?_) (fun c_2 => ?_)
    · refine lv_iload_n hx hb dX11_look_12 rfl (lv_at hl 1 rfl) ?_
      refine lv_bipush (v := iv 9) hx hb dX11_look_13 (by decide) ?_
      refine r_icmp_ne (tgt := 26) hx hb ⟨(by omega), (by omega)⟩ ⟨(by omega), (by omega)⟩ dX11_look_15 (by decide) (fun c_3 => ?_) (fun c_3 => ?_)
      · refine lv_aload_n hx hb dX11_look_26 rfl (lv_at hl 0 rfl) ?_
        have q_4 : 0 ≤ S.1 0 8 ∧ S.1 0 8 ≤ 1 := hI.fi 0 8 11 (by decide) rfl
        refine g_X11_83 Cx hW (k := 0) (by decide) rfl (v := S.1 0 8) rfl dX11_look_27 ?_
        refine r_if_eq (tgt := 44) hx hb ⟨(by omega), (by omega)⟩ dX11_look_30 (by decide) (fun c_5 => ?_) (fun c_5 => ?_)
        · refine lv_iconst (v := iv 0) hx hb dX11_look_44 (by decide) ?_
          exact sIret Cx hr hlk hW hL ⟨rfl, (by omega)⟩ dX11_look_45
        · refine lv_aload_n hx hb dX11_look_33 rfl (lv_at hl 0 rfl) ?_
          refine g_X11_41 Cx hW (k := 0) (by decide) rfl (v := .ref (G.2.2.1 + 119)) (rf_0_3 hI) dX11_look_34 ?_
          refine lv_iload_n hx hb dX11_look_37 rfl (lv_at hl 1 rfl) ?_
          refine sBi (sV (As := [.int (iv k)]) (rest := []) (k := 119) Cx (s_X7_state l G S (k := k) hI (by omega)) (c_X11_117 Cx rfl rfl (rmk_ok (by omega) (by decide))) hW (by decide) rfl rfl rfl hl.1 rfl (Nat.le_of_ble_eq_true rfl) dX11_look_38 ⟨Nat.le_of_ble_eq_true rfl, Nat.le_of_ble_eq_true rfl⟩) hL (fun r_8 u_6 H locs k_7 hW hL => ?_)
          obtain ⟨eu_6, xu_6⟩ := k_7
          rw [eu_6] at hW
          refine lv_goto (tgt := 45) hx hb dX11_look_41 (by decide) ?_
          exact sIret Cx hr hlk hW hL ⟨rfl, (by omega)⟩ dX11_look_45
      · refine lv_aload_n hx hb dX11_look_18 rfl (lv_at hl 0 rfl) ?_
        refine g_X11_14 Cx hW (k := 0) (by decide) rfl (v := .ref (G.2.2.1 + 1)) (rf_0_0 hI) dX11_look_19 ?_
        have q_9 : 0 ≤ S.1 1 1 ∧ S.1 1 1 ≤ 30000 := hI.fi 1 1 10 (by decide) rfl
        refine sBi (sV (As := []) (rest := []) (k := 1) Cx (s_X10_length l G S (o := 1) (N := 30000) hI ⟨by decide, rfl, rfl, rfl, rfl, by decide⟩) (c_X11_56 Cx rfl rfl (rmk_ok (by omega) (by decide))) hW (by decide) rfl rfl rfl hl.1 rfl (Nat.le_of_ble_eq_true rfl) dX11_look_22 ⟨Nat.le_of_ble_eq_true rfl, Nat.le_of_ble_eq_true rfl⟩) hL (fun r_12 u_10 H locs k_11 hW hL => ?_)
        obtain ⟨eu_10, xu_10⟩ := k_11
        rw [eu_10] at hW
        exact sIret Cx hr hlk hW hL ⟨rfl, (by omega)⟩ dX11_look_25
    · refine lv_iconst (v := iv (-1)) hx hb dX11_look_10 (by decide) ?_
      exact sIret Cx hr hlk hW hL ⟨rfl, (by omega)⟩ dX11_look_11

set_option maxRecDepth 100000 in
set_option maxHeartbeats 4000000 in
theorem s_X11_place (l : Launch) (G : sG) (S : sS) {k : Int} (hI : cX G S 0 0 0) (hk : -2147483648 ≤ k ∧ k ≤ 2147483647) : Met l yX11_place (.code yX11_place cX11_place 2 (some .int) :: tb) (rmk 2 0 0) (sPc G 294 S [.ref (G.2.2.1 + 0), .int (iv k)]) (sQi G 294 (fun r u => u = S ∧ (-2147483648 ≤ r ∧ r ≤ 2147483647))) 0 0 (sF G) := by
  refine sEnter (by decide) (Nat.le_of_ble_eq_true rfl) ?_
  intro p e s m args below meth c Cx hr hlk hnm hW ls hl
  have Cx : sC G p m c cX11_place 2 s args RX11 := Cx
  obtain ⟨hx, hb, hml, hown, hts⟩ := id Cx.1
  have hL : sL G [] := sL_nil
  have hl : lv_has ls 2 [(0, .ref (G.2.2.1 + 0)), (1, .int (iv k))] := hl
  have hW0 := hW
  refine lv_aload_n hx hb dX11_place_0 rfl (lv_at hl 0 rfl) ?_
  have q_1 : 0 ≤ S.1 0 8 ∧ S.1 0 8 ≤ 1 := hI.fi 0 8 11 (by decide) rfl
  refine g_X11_83 Cx hW (k := 0) (by decide) rfl (v := S.1 0 8) rfl dX11_place_1 ?_
  refine r_if_eq (tgt := 21) hx hb ⟨(by omega), (by omega)⟩ dX11_place_4 (by decide) (fun c_2 => ?_) (fun c_2 => ?_)
  · refine lv_iconst (v := iv (-1)) hx hb dX11_place_21 (by decide) ?_
    exact sIret Cx hr hlk hW hL ⟨rfl, (by omega)⟩ dX11_place_22
  · refine lv_aload_n hx hb dX11_place_7 rfl (lv_at hl 0 rfl) ?_
    refine g_X11_41 Cx hW (k := 0) (by decide) rfl (v := .ref (G.2.2.1 + 119)) (rf_0_3 hI) dX11_place_8 ?_
    refine g_X11_120 Cx hW (k := 119) (by decide) rfl (v := .ref (G.2.2.1 + 135)) (rf_119_1 hI) dX11_place_11 ?_
    refine lv_iload_n hx hb dX11_place_14 rfl (lv_at hl 1 rfl) ?_
    refine sBi (sV (As := [.int (iv k)]) (rest := []) (k := 135) Cx (s_X2_numberAt l G S (i := k) hI (by omega)) (c_X11_124 Cx rfl rfl (rmk_ok (by omega) (by decide))) hW (by decide) rfl rfl rfl hl.1 rfl (Nat.le_of_ble_eq_true rfl) dX11_place_15 ⟨Nat.le_of_ble_eq_true rfl, Nat.le_of_ble_eq_true rfl⟩) hL (fun r_5 u_3 H locs k_4 hW hL => ?_)
    obtain ⟨eu_3, xu_3⟩ := k_4
    rw [eu_3] at hW
    refine lv_goto (tgt := 22) hx hb dX11_place_18 (by decide) ?_
    exact sIret Cx hr hlk hW hL ⟨rfl, (by omega)⟩ dX11_place_22

set_option maxRecDepth 100000 in
set_option maxHeartbeats 4000000 in
theorem s_X11_entry (l : Launch) (G : sG) (S : sS) {k j z : Int} (hI : cX G S 0 0 0) (hk : -2147483648 ≤ k ∧ k ≤ 2147483647) (hj : -2147483648 ≤ j ∧ j ≤ 2147483647) (hz : -2147483648 ≤ z ∧ z ≤ 2147483647) : Met l yX11_entry (.code yX11_entry cX11_entry 4 (some .int) :: tb) (rmk 4 0 0) (sPc G 294 S [.ref (G.2.2.1 + 0), .int (iv k), .int (iv j), .int (iv z)]) (sQi G 294 (fun r u => cX G u 0 0 0 ∧ Fr S u pN ∧ (-2147483648 ≤ r ∧ r ≤ 2147483647))) 0 0 (sF G) := by
  refine sEnter (by decide) (Nat.le_of_ble_eq_true rfl) ?_
  intro p e s m args below meth c Cx hr hlk hnm hW ls hl
  have Cx : sC G p m c cX11_entry 4 s args RX11 := Cx
  obtain ⟨hx, hb, hml, hown, hts⟩ := id Cx.1
  have hL : sL G [] := sL_nil
  have hl : lv_has ls 4 [(0, .ref (G.2.2.1 + 0)), (1, .int (iv k)), (2, .int (iv j)), (3, .int (iv z))] := hl
  have hW0 := hW
  refine lv_aload_n hx hb dX11_entry_0 rfl (lv_at hl 0 rfl) ?_
  have q_1 : 0 ≤ S.1 0 8 ∧ S.1 0 8 ≤ 1 := hI.fi 0 8 11 (by decide) rfl
  refine g_X11_83 Cx hW (k := 0) (by decide) rfl (v := S.1 0 8) rfl dX11_entry_1 ?_
  refine r_if_eq (tgt := 26) hx hb ⟨(by omega), (by omega)⟩ dX11_entry_4 (by decide) (fun c_2 => ?_) (fun c_2 => ?_)
  · refine lv_iconst (v := iv (-1)) hx hb dX11_entry_26 (by decide) ?_
    exact sIret Cx hr hlk hW hL ⟨hI, (Fr.rf : Fr S S pN), (by omega)⟩ dX11_entry_27
  · refine lv_aload_n hx hb dX11_entry_7 rfl (lv_at hl 0 rfl) ?_
    refine g_X11_41 Cx hW (k := 0) (by decide) rfl (v := .ref (G.2.2.1 + 119)) (rf_0_3 hI) dX11_entry_8 ?_
    refine g_X11_120 Cx hW (k := 119) (by decide) rfl (v := .ref (G.2.2.1 + 135)) (rf_119_1 hI) dX11_entry_11 ?_
    refine lv_iload_n hx hb dX11_entry_14 rfl (lv_at hl 1 rfl) ?_
    refine lv_iload_n hx hb dX11_entry_15 rfl (lv_at hl 2 rfl) ?_
    refine lv_aload_n hx hb dX11_entry_16 rfl (lv_at hl 0 rfl) ?_
    refine g_X11_18 Cx hW (k := 0) (by decide) rfl (v := .ref (G.2.2.1 + 3)) (rf_0_1 hI) dX11_entry_17 ?_
    refine sBi (sV (As := [.int (iv k), .int (iv j), .ref (G.2.2.1 + 3)]) (rest := []) (k := 135) Cx (s_X2_write l G S (i := k) (j := j) hI (by omega) (by omega)) (c_X11_129 Cx rfl rfl (rmk_ok (by omega) (by decide))) hW (by decide) rfl rfl rfl hl.1 rfl (Nat.le_of_ble_eq_true rfl) dX11_entry_20 ⟨Nat.le_of_ble_eq_true rfl, Nat.le_of_ble_eq_true rfl⟩) hL (fun r_5 u_3 H locs k_4 hW hL => ?_)
    obtain ⟨iu_3, fu_3, xu_3⟩ := k_4
    have F_6 := (Fr.rf : Fr S S pN).trans fu_3
    refine r_if_ne (tgt := 28) hx hb ⟨(by omega), (by omega)⟩ dX11_entry_23 (by decide) (fun c_7 => ?_) (fun c_7 => ?_)
    · refine lv_aload_n hx hb dX11_entry_28 rfl (lv_at hl 0 rfl) ?_
      refine g_X11_18 Cx hW (k := 0) (by decide) rfl (v := .ref (G.2.2.1 + 3)) (rf_0_1 iu_3) dX11_entry_29 ?_
      refine lv_iload_n hx hb dX11_entry_32 rfl (lv_at hl 3 rfl) ?_
      have q_8 : 0 ≤ u_3.1 3 1 ∧ u_3.1 3 1 ≤ 120 := iu_3.fi 3 1 10 (by decide) rfl
      refine sBi (sV (As := [.int (iv z)]) (rest := []) (k := 3) Cx (s_X10_byteAt l G u_3 (o := 3) (k := z) (N := 120) iu_3 ⟨by decide, rfl, rfl, rfl, rfl, by decide⟩ (by omega)) (c_X11_133 Cx rfl rfl (rmk_ok (by omega) (by decide))) hW (by decide) rfl rfl rfl hl.1 rfl (Nat.le_of_ble_eq_true rfl) dX11_entry_33 ⟨Nat.le_of_ble_eq_true rfl, Nat.le_of_ble_eq_true rfl⟩) hL (fun r_11 u_9 H locs k_10 hW hL => ?_)
      obtain ⟨eu_9, xu_9⟩ := k_10
      rw [eu_9] at hW
      exact sIret Cx hr hlk hW hL ⟨iu_3, F_6, (by omega)⟩ dX11_entry_36
    · refine lv_iconst (v := iv (-1)) hx hb dX11_entry_26 (by decide) ?_
      exact sIret Cx hr hlk hW hL ⟨iu_3, F_6, (by omega)⟩ dX11_entry_27

set_option maxRecDepth 100000 in
set_option maxHeartbeats 4000000 in
theorem s_X11_told (l : Launch) (G : sG) (S : sS) {j z : Int} (hI : cX G S 0 0 0) (hj : -2147483648 ≤ j ∧ j ≤ 2147483647) (hz : -2147483648 ≤ z ∧ z ≤ 2147483647) : Met l yX11_told (.code yX11_told cX11_told 3 (some .int) :: tb) (rmk 9 0 0) (sPc G 294 S [.ref (G.2.2.1 + 0), .int (iv j), .int (iv z)]) (sQi G 294 (fun r u => cX G u 0 0 0 ∧ Fr S u pN ∧ (-2147483648 ≤ r ∧ r ≤ 2147483647))) 0 0 (sF G) := by
  refine sEnter (by decide) (Nat.le_of_ble_eq_true rfl) ?_
  intro p e s m args below meth c Cx hr hlk hnm hW ls hl
  have Cx : sC G p m c cX11_told 3 s args RX11 := Cx
  obtain ⟨hx, hb, hml, hown, hts⟩ := id Cx.1
  have hL : sL G [] := sL_nil
  have hl : lv_has ls 3 [(0, .ref (G.2.2.1 + 0)), (1, .int (iv j)), (2, .int (iv z))] := hl
  have hW0 := hW
  refine lv_aload_n hx hb dX11_told_0 rfl (lv_at hl 0 rfl) ?_
  have q_1 : 0 ≤ S.1 0 8 ∧ S.1 0 8 ≤ 1 := hI.fi 0 8 11 (by decide) rfl
  refine g_X11_83 Cx hW (k := 0) (by decide) rfl (v := S.1 0 8) rfl dX11_told_1 ?_
  refine r_if_eq (tgt := 22) hx hb ⟨(by omega), (by omega)⟩ dX11_told_4 (by decide) (fun c_2 => ?_) (fun c_2 => ?_)
  · refine lv_iconst (v := iv (-1)) hx hb dX11_told_22 (by decide) ?_
    exact sIret Cx hr hlk hW hL ⟨hI, (Fr.rf : Fr S S pN), (by omega)⟩ dX11_told_23
  · refine lv_aload_n hx hb dX11_told_7 rfl (lv_at hl 0 rfl) ?_
    refine g_X11_41 Cx hW (k := 0) (by decide) rfl (v := .ref (G.2.2.1 + 119)) (rf_0_3 hI) dX11_told_8 ?_
    refine lv_iload_n hx hb dX11_told_11 rfl (lv_at hl 1 rfl) ?_
    refine lv_aload_n hx hb dX11_told_12 rfl (lv_at hl 0 rfl) ?_
    refine g_X11_18 Cx hW (k := 0) (by decide) rfl (v := .ref (G.2.2.1 + 3)) (rf_0_1 hI) dX11_told_13 ?_
    refine sBi (sV (As := [.int (iv j), .ref (G.2.2.1 + 3)]) (rest := []) (k := 119) Cx (s_X7_writeFraction l G S (j := j) hI (by omega)) (c_X11_136 Cx rfl rfl (rmk_ok (by omega) (by decide))) hW (by decide) rfl rfl rfl hl.1 rfl (Nat.le_of_ble_eq_true rfl) dX11_told_16 ⟨Nat.le_of_ble_eq_true rfl, Nat.le_of_ble_eq_true rfl⟩) hL (fun r_5 u_3 H locs k_4 hW hL => ?_)
    obtain ⟨iu_3, fu_3, xu_3⟩ := k_4
    have F_6 := (Fr.rf : Fr S S pN).trans fu_3
    refine r_if_ne (tgt := 24) hx hb ⟨(by omega), (by omega)⟩ dX11_told_19 (by decide) (fun c_7 => ?_) (fun c_7 => ?_)
    · refine lv_aload_n hx hb dX11_told_24 rfl (lv_at hl 0 rfl) ?_
      refine g_X11_18 Cx hW (k := 0) (by decide) rfl (v := .ref (G.2.2.1 + 3)) (rf_0_1 iu_3) dX11_told_25 ?_
      refine lv_iload_n hx hb dX11_told_28 rfl (lv_at hl 2 rfl) ?_
      have q_8 : 0 ≤ u_3.1 3 1 ∧ u_3.1 3 1 ≤ 120 := iu_3.fi 3 1 10 (by decide) rfl
      refine sBi (sV (As := [.int (iv z)]) (rest := []) (k := 3) Cx (s_X10_byteAt l G u_3 (o := 3) (k := z) (N := 120) iu_3 ⟨by decide, rfl, rfl, rfl, rfl, by decide⟩ (by omega)) (c_X11_133 Cx rfl rfl (rmk_ok (by omega) (by decide))) hW (by decide) rfl rfl rfl hl.1 rfl (Nat.le_of_ble_eq_true rfl) dX11_told_29 ⟨Nat.le_of_ble_eq_true rfl, Nat.le_of_ble_eq_true rfl⟩) hL (fun r_11 u_9 H locs k_10 hW hL => ?_)
      obtain ⟨eu_9, xu_9⟩ := k_10
      rw [eu_9] at hW
      exact sIret Cx hr hlk hW hL ⟨iu_3, F_6, (by omega)⟩ dX11_told_32
    · refine lv_iconst (v := iv (-1)) hx hb dX11_told_22 (by decide) ?_
      exact sIret Cx hr hlk hW hL ⟨iu_3, F_6, (by omega)⟩ dX11_told_23

set_option maxRecDepth 100000 in
set_option maxHeartbeats 4000000 in
theorem s_X11_proof (l : Launch) (G : sG) (S : sS) {k : Int} (hI : cX G S 0 0 0) (hk : -2147483648 ≤ k ∧ k ≤ 2147483647) : Met l yX11_proof (.code yX11_proof cX11_proof 2 (some .int) :: tb) (rmk 3 0 0) (sPc G 294 S [.ref (G.2.2.1 + 0), .int (iv k)]) (sQi G 294 (fun r u => u = S ∧ (-2147483648 ≤ r ∧ r ≤ 2147483647))) 0 0 (sF G) := by
  refine sEnter (by decide) (Nat.le_of_ble_eq_true rfl) ?_
  intro p e s m args below meth c Cx hr hlk hnm hW ls hl
  have Cx : sC G p m c cX11_proof 2 s args RX11 := Cx
  obtain ⟨hx, hb, hml, hown, hts⟩ := id Cx.1
  have hL : sL G [] := sL_nil
  have hl : lv_has ls 2 [(0, .ref (G.2.2.1 + 0)), (1, .int (iv k))] := hl
  have hW0 := hW
  refine lv_aload_n hx hb dX11_proof_0 rfl (lv_at hl 0 rfl) ?_
  have q_1 : 0 ≤ S.1 0 8 ∧ S.1 0 8 ≤ 1 := hI.fi 0 8 11 (by decide) rfl
  refine g_X11_83 Cx hW (k := 0) (by decide) rfl (v := S.1 0 8) rfl dX11_proof_1 ?_
  refine r_if_eq (tgt := 31) hx hb ⟨(by omega), (by omega)⟩ dX11_proof_4 (by decide) (fun c_2 => ?_) (fun c_2 => ?_)
  · refine lv_iconst (v := iv (-1)) hx hb dX11_proof_31 (by decide) ?_
    exact sIret Cx hr hlk hW hL ⟨rfl, (by omega)⟩ dX11_proof_32
  · refine lv_aload_n hx hb dX11_proof_7 rfl (lv_at hl 0 rfl) ?_
    refine g_X11_41 Cx hW (k := 0) (by decide) rfl (v := .ref (G.2.2.1 + 119)) (rf_0_3 hI) dX11_proof_8 ?_
    refine sBi (sV (As := []) (rest := []) (k := 119) Cx (s_X7_isProved l G S  hI) (c_X11_140 Cx rfl rfl (rmk_ok (by omega) (by decide))) hW (by decide) rfl rfl rfl hl.1 rfl (Nat.le_of_ble_eq_true rfl) dX11_proof_11 ⟨Nat.le_of_ble_eq_true rfl, Nat.le_of_ble_eq_true rfl⟩) hL (fun r_5 u_3 H locs k_4 hW hL => ?_)
    obtain ⟨eu_3, xu_3⟩ := k_4
    rw [eu_3] at hW
    refine r_if_eq (tgt := 31) hx hb ⟨(by omega), (by omega)⟩ dX11_proof_14 (by decide) (fun c_6 => ?_) (fun c_6 => ?_)
    · refine lv_iconst (v := iv (-1)) hx hb dX11_proof_31 (by decide) ?_
      exact sIret Cx hr hlk hW hL ⟨rfl, (by omega)⟩ dX11_proof_32
    · refine lv_aload_n hx hb dX11_proof_17 rfl (lv_at hl 0 rfl) ?_
      refine g_X11_41 Cx hW (k := 0) (by decide) rfl (v := .ref (G.2.2.1 + 119)) (rf_0_3 hI) dX11_proof_18 ?_
      refine g_X11_144 Cx hW (k := 119) (by decide) rfl (v := .ref (G.2.2.1 + 157)) (rf_119_2 hI) dX11_proof_21 ?_
      refine lv_iload_n hx hb dX11_proof_24 rfl (lv_at hl 1 rfl) ?_
      refine sBi (sV (As := [.int (iv k)]) (rest := []) (k := 157) Cx (s_X5_proofByte l G S (k := k) hI (by omega)) (c_X11_148 Cx rfl rfl (rmk_ok (by omega) (by decide))) hW (by decide) rfl rfl rfl hl.1 rfl (Nat.le_of_ble_eq_true rfl) dX11_proof_25 ⟨Nat.le_of_ble_eq_true rfl, Nat.le_of_ble_eq_true rfl⟩) hL (fun r_9 u_7 H locs k_8 hW hL => ?_)
      obtain ⟨eu_7, xu_7⟩ := k_8
      rw [eu_7] at hW
      refine lv_goto (tgt := 32) hx hb dX11_proof_28 (by decide) ?_
      exact sIret Cx hr hlk hW hL ⟨rfl, (by omega)⟩ dX11_proof_32

set_option maxRecDepth 100000 in
set_option maxHeartbeats 4000000 in
theorem s_X11_check (l : Launch) (G : sG) (S : sS)  (hI : cX G S 0 0 0) : Met l yX11_check (.code yX11_check cX11_check 1 (some .int) :: tb) (rmk 10 0 0) (sPc G 294 S [.ref (G.2.2.1 + 0)]) (sQi G 294 (fun r u => cX G u 0 0 0 ∧ Fr S u pA ∧ (u.1 1 1 = 0))) 0 0 (sF G) := by
  refine sEnter (by decide) (Nat.le_of_ble_eq_true rfl) ?_
  intro p e s m args below meth c Cx hr hlk hnm hW ls hl
  have Cx : sC G p m c cX11_check 1 s args RX11 := Cx
  obtain ⟨hx, hb, hml, hown, hts⟩ := id Cx.1
  have hL : sL G [] := sL_nil
  have hl : lv_has ls 1 [(0, .ref (G.2.2.1 + 0))] := hl
  have hW0 := hW
  refine lv_aload_n hx hb dX11_check_0 rfl (lv_at hl 0 rfl) ?_
  refine lv_iconst (v := iv 0) hx hb dX11_check_1 (by decide) ?_
  refine p_X11_71 Cx hW hL (k := 0) (by decide) rfl dX11_check_2 (fun H locs hW hL => ?_)
  have F_1 : Fr S (uF S 0 9 0) pA := (Fr.rf : Fr S S pA).F rfl
  have i_2 : cX G (uF S 0 9 0) 0 0 0 := hI.F rfl rfl (show (-2147483648) ≤ 0 ∧ 0 ≤ 2147483647 from ⟨by omega, by omega⟩)
  refine lv_aload_n hx hb dX11_check_5 rfl (lv_at hl 0 rfl) ?_
  refine lv_iconst (v := iv (-1)) hx hb dX11_check_6 (by decide) ?_
  refine p_X11_52 Cx hW hL (k := 0) (by decide) rfl dX11_check_7 (fun H locs hW hL => ?_)
  have F_3 : Fr S (uF (uF S 0 9 0) 0 10 ((-1))) pA := F_1.F rfl
  have i_4 : cX G (uF (uF S 0 9 0) 0 10 ((-1))) 0 0 0 := i_2.F rfl rfl (show (-2147483648) ≤ (-1) ∧ (-1) ≤ 2147483647 from ⟨by omega, by omega⟩)
  refine lv_aload_n hx hb dX11_check_10 rfl (lv_at hl 0 rfl) ?_
  have q_5 : 0 ≤ S.1 0 7 ∧ S.1 0 7 ≤ 1 := hI.fi 0 7 11 (by decide) rfl
  refine g_X11_79 Cx hW (k := 0) (by decide) rfl (v := S.1 0 7) ((uF_ne (fun h => absurd h.2 (by decide))).trans (uF_ne (fun h => absurd h.2 (by decide)))) dX11_check_11 ?_
  refine r_if_ne (tgt := 26) hx hb ⟨(by omega), (by omega)⟩ dX11_check_14 (by decide) (fun c_6 => ?_) (fun c_6 => ?_)
  · refine lv_aload_n hx hb dX11_check_26 rfl (lv_at hl 0 rfl) ?_
    refine lv_aload_n hx hb dX11_check_27 rfl (lv_at hl 0 rfl) ?_
    refine g_X11_48 Cx hW (k := 0) (by decide) rfl (v := .ref (G.2.2.1 + 188)) (rf_0_4 i_4) dX11_check_28 ?_
    refine lv_aload_n hx hb dX11_check_31 rfl (lv_at hl 0 rfl) ?_
    refine g_X11_14 Cx hW (k := 0) (by decide) rfl (v := .ref (G.2.2.1 + 1)) (rf_0_0 i_4) dX11_check_32 ?_
    refine lv_aload_n hx hb dX11_check_35 rfl (lv_at hl 0 rfl) ?_
    obtain ⟨o_7, mo_7, eo_7⟩ := rm_0_5 hI
    refine g_X11_24 Cx hW (k := 0) (by decide) rfl (v := .ref (G.2.2.1 + o_7)) (((uF_r).trans (uF_r)).trans eo_7) dX11_check_36 ?_
    refine sBi (sV (As := [.ref (G.2.2.1 + 1), .ref (G.2.2.1 + o_7)]) (rest := [.ref (G.2.2.1 + 0)]) (k := 188) Cx (s_X1_hold l G (uF (uF S 0 9 0) 0 10 ((-1))) (o := o_7) i_4 mo_7) (c_X11_153 Cx rfl rfl (rmk_ok (by omega) (by decide))) hW (by decide) rfl rfl rfl hl.1 rfl (Nat.le_of_ble_eq_true rfl) dX11_check_39 ⟨Nat.le_of_ble_eq_true rfl, Nat.le_of_ble_eq_true rfl⟩) hL (fun r_10 u_8 H locs k_9 hW hL => ?_)
    obtain ⟨iu_8, fu_8, xu_8⟩ := k_9
    have F_11 := F_3.trans (fu_8.to (fun k h => pC_A k (pE_C k h)))
    refine p_X11_71 Cx hW hL (k := 0) (by decide) rfl dX11_check_42 (fun H locs hW hL => ?_)
    have F_12 : Fr S (uF u_8 0 9 r_10) pA := F_11.F rfl
    have i_13 : cX G (uF u_8 0 9 r_10) 0 0 0 := iu_8.F rfl rfl (show (-2147483648) ≤ r_10 ∧ r_10 ≤ 2147483647 from ⟨by omega, by omega⟩)
    refine lv_aload_n hx hb dX11_check_45 rfl (lv_at hl 0 rfl) ?_
    refine lv_aload_n hx hb dX11_check_46 rfl (lv_at hl 0 rfl) ?_
    refine g_X11_48 Cx hW (k := 0) (by decide) rfl (v := .ref (G.2.2.1 + 188)) (rf_0_4 i_13) dX11_check_47 ?_
    refine sBi (sV (As := []) (rest := [.ref (G.2.2.1 + 0)]) (k := 188) Cx (s_X1_faultPlace l G (uF u_8 0 9 r_10)  i_13) (c_X11_156 Cx rfl rfl (rmk_ok (by omega) (by decide))) hW (by decide) rfl rfl rfl hl.1 rfl (Nat.le_of_ble_eq_true rfl) dX11_check_50 ⟨Nat.le_of_ble_eq_true rfl, Nat.le_of_ble_eq_true rfl⟩) hL (fun r_16 u_14 H locs k_15 hW hL => ?_)
    obtain ⟨eu_14, xu_14⟩ := k_15
    rw [eu_14] at hW
    refine p_X11_52 Cx hW hL (k := 0) (by decide) rfl dX11_check_53 (fun H locs hW hL => ?_)
    have F_17 : Fr S (uF (uF u_8 0 9 r_10) 0 10 r_16) pA := F_12.F rfl
    have i_18 : cX G (uF (uF u_8 0 9 r_10) 0 10 r_16) 0 0 0 := i_13.F rfl rfl (show (-2147483648) ≤ r_16 ∧ r_16 ≤ 2147483647 from ⟨by omega, by omega⟩)
    refine lv_aload_n hx hb dX11_check_56 rfl (lv_at hl 0 rfl) ?_
    refine g_X11_14 Cx hW (k := 0) (by decide) rfl (v := .ref (G.2.2.1 + 1)) (rf_0_0 i_18) dX11_check_57 ?_
    refine sBv (sV (As := []) (rest := []) (k := 1) Cx (s_X10_clear l G (uF (uF u_8 0 9 r_10) 0 10 r_16) (o := 1) (N := 30000) i_18 ⟨by decide, rfl, rfl, rfl, rfl, by decide⟩) (c_X11_76 Cx rfl rfl (rmk_ok (by omega) (by decide))) hW (by decide) rfl rfl rfl hl.1 rfl (Nat.le_of_ble_eq_true rfl) dX11_check_60 ⟨Nat.le_of_ble_eq_true rfl, Nat.le_of_ble_eq_true rfl⟩) hL (fun u_19 H locs k_20 hW hL => ?_)
    obtain ⟨iu_19, fu_19, xu_19⟩ := k_20
    have F_21 := F_17.trans (fu_19.to (pB_sub rfl rfl))
    refine lv_aload_n hx hb dX11_check_63 rfl (lv_at hl 0 rfl) ?_
    refine g_X11_71 Cx hW (k := 0) (by decide) rfl (v := r_10) (((fu_19 0 rfl).1 9).trans ((uF_ne (fun h => absurd h.2 (by decide))).trans (uF_on))) dX11_check_64 ?_
    have q_22 : 0 ≤ u_19.1 1 1 ∧ u_19.1 1 1 ≤ 30000 := iu_19.fi 1 1 10 (by decide) rfl
    exact sIret Cx hr hlk hW hL ⟨iu_19, F_21, (by omega)⟩ dX11_check_67
  · refine lv_aload_n hx hb dX11_check_17 rfl (lv_at hl 0 rfl) ?_
    refine g_X11_14 Cx hW (k := 0) (by decide) rfl (v := .ref (G.2.2.1 + 1)) (rf_0_0 i_4) dX11_check_18 ?_
    refine sBv (sV (As := []) (rest := []) (k := 1) Cx (s_X10_clear l G (uF (uF S 0 9 0) 0 10 ((-1))) (o := 1) (N := 30000) i_4 ⟨by decide, rfl, rfl, rfl, rfl, by decide⟩) (c_X11_76 Cx rfl rfl (rmk_ok (by omega) (by decide))) hW (by decide) rfl rfl rfl hl.1 rfl (Nat.le_of_ble_eq_true rfl) dX11_check_21 ⟨Nat.le_of_ble_eq_true rfl, Nat.le_of_ble_eq_true rfl⟩) hL (fun u_23 H locs k_24 hW hL => ?_)
    obtain ⟨iu_23, fu_23, xu_23⟩ := k_24
    have F_25 := F_3.trans (fu_23.to (pB_sub rfl rfl))
    refine lv_iconst (v := iv (-1)) hx hb dX11_check_24 (by decide) ?_
    have q_26 : 0 ≤ u_23.1 1 1 ∧ u_23.1 1 1 ≤ 30000 := iu_23.fi 1 1 10 (by decide) rfl
    exact sIret Cx hr hlk hW hL ⟨iu_23, F_25, (by omega)⟩ dX11_check_25
