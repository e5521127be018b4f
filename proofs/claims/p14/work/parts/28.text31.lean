set_option maxRecDepth 100000 in
set_option maxHeartbeats 4000000 in
theorem s_X10_length (l : Launch) (G : sG) (S : sS) {o N : Nat} (hI : cX G S 0 0 0) (ht : txt o N) : Met l yX10_length (.code yX10_length cX10_length 1 (some .int) :: tb) (rmk 1 0 0) (sPc G 294 S [.ref (G.2.2.1 + o)]) (sQi G 294 (fun r u => u = S ∧ (r = S.1 o 1 ∧ 0 ≤ r ∧ r ≤ N))) 0 0 (sF G) := by
  refine sEnter (by decide) (Nat.le_of_ble_eq_true rfl) ?_
  intro p e s m args below meth c Cx hr hlk hnm hW ls hl
  have Cx : sC G p m c cX10_length 1 s args RX10 := Cx
  obtain ⟨hx, hb, hml, hown, hts⟩ := id Cx.1
  have hL : sL G [] := sL_nil
  have hl : lv_has ls 1 [(0, .ref (G.2.2.1 + o))] := hl
  have hW0 := hW
  have hN3 := ht.2.2.2.2.2
  refine lv_aload_n hx hb dX10_length_0 rfl (lv_at hl 0 rfl) ?_
  have q_1 : 0 ≤ S.1 o 1 ∧ S.1 o 1 ≤ (N : Int) := txt_len ht hI
  refine g_X10_21 Cx hW (k := o) (Nat.lt_trans ht.1 (by decide)) ht.2.1 (v := S.1 o 1) rfl dX10_length_1 ?_
  exact sIret Cx hr hlk hW hL ⟨rfl, (by omega)⟩ dX10_length_4

set_option maxRecDepth 100000 in
set_option maxHeartbeats 4000000 in
theorem s_X10_isOver (l : Launch) (G : sG) (S : sS) {o N : Nat} (hI : cX G S 0 0 0) (ht : txt o N) : Met l yX10_isOver (.code yX10_isOver cX10_isOver 1 (some .boolean) :: tb) (rmk 1 0 0) (sPc G 294 S [.ref (G.2.2.1 + o)]) (sQi G 294 (fun r u => u = S ∧ (r = S.1 o 2 ∧ 0 ≤ r ∧ r ≤ 1))) 0 0 (sF G) := by
  refine sEnter (by decide) (Nat.le_of_ble_eq_true rfl) ?_
  intro p e s m args below meth c Cx hr hlk hnm hW ls hl
  have Cx : sC G p m c cX10_isOver 1 s args RX10 := Cx
  obtain ⟨hx, hb, hml, hown, hts⟩ := id Cx.1
  have hL : sL G [] := sL_nil
  have hl : lv_has ls 1 [(0, .ref (G.2.2.1 + o))] := hl
  have hW0 := hW
  have hN3 := ht.2.2.2.2.2
  refine lv_aload_n hx hb dX10_isOver_0 rfl (lv_at hl 0 rfl) ?_
  have q_1 : 0 ≤ S.1 o 2 ∧ S.1 o 2 ≤ 1 := hI.fi o 2 10 ht.1 ht.2.1
  refine g_X10_25 Cx hW (k := o) (Nat.lt_trans ht.1 (by decide)) ht.2.1 (v := S.1 o 2) rfl dX10_isOver_1 ?_
  exact sZret Cx hr hlk hW hL (by omega) ⟨rfl, (by omega)⟩ dX10_isOver_4

set_option maxRecDepth 100000 in
set_option maxHeartbeats 4000000 in
theorem s_X10_clear (l : Launch) (G : sG) (S : sS) {o N : Nat} (hI : cX G S 0 0 0) (ht : txt o N) : Met l yX10_clear (.code yX10_clear cX10_clear 1 none :: tb) (rmk 1 0 0) (sPc G 294 S [.ref (G.2.2.1 + o)]) (sQv G 294 (fun u => cX G u 0 0 0 ∧ Fr S u (pB o) ∧ (u.1 o 1 = 0 ∧ u.1 o 2 = 0 ∧ u.2 = S.2))) 0 0 (sF G) := by
  refine sEnter (by decide) (Nat.le_of_ble_eq_true rfl) ?_
  intro p e s m args below meth c Cx hr hlk hnm hW ls hl
  have Cx : sC G p m c cX10_clear 1 s args RX10 := Cx
  obtain ⟨hx, hb, hml, hown, hts⟩ := id Cx.1
  have hL : sL G [] := sL_nil
  have hl : lv_has ls 1 [(0, .ref (G.2.2.1 + o))] := hl
  have hW0 := hW
  have hN3 := ht.2.2.2.2.2
  refine lv_aload_n hx hb dX10_clear_0 rfl (lv_at hl 0 rfl) ?_
  refine lv_iconst (v := iv 0) hx hb dX10_clear_1 (by decide) ?_
  refine p_X10_21 Cx hW hL (k := o) (Nat.lt_trans ht.1 (by decide)) ht.2.1 dX10_clear_2 (fun H locs hW hL => ?_)
  have F_1 : Fr S (uF S o 1 0) (pB o) := (Fr.rf : Fr S S (pB o)).F pB_0
  have i_2 : cX G (uF S o 1 0) 0 0 0 := hI.len ht ⟨by omega, by omega⟩
  refine lv_aload_n hx hb dX10_clear_5 rfl (lv_at hl 0 rfl) ?_
  refine lv_iconst (v := iv 0) hx hb dX10_clear_6 (by decide) ?_
  refine p_X10_25 Cx hW hL (k := o) (Nat.lt_trans ht.1 (by decide)) ht.2.1 (by omega) dX10_clear_7 (fun H locs hW hL => ?_)
  have F_3 : Fr S (uF (uF S o 1 0) o 2 0) (pB o) := F_1.F pB_0
  have i_4 : cX G (uF (uF S o 1 0) o 2 0) 0 0 0 := i_2.F ht.2.1 rfl (show 0 ≤ 0 ∧ 0 ≤ 1 from ⟨by omega, by omega⟩)
  have lk_5 : (uF (uF S o 1 0) o 2 0).1 o 1 = 0 := (uF_ne (fun h => absurd h.2 (by decide))).trans (uF_on)
  have lk_6 : (uF (uF S o 1 0) o 2 0).1 o 2 = 0 := uF_on
  exact sVret Cx hr hlk hW hL ⟨i_4, F_3, ⟨by omega, by omega, rfl⟩⟩ dX10_clear_10

set_option maxRecDepth 100000 in
set_option maxHeartbeats 4000000 in
theorem s_X10_byteAt (l : Launch) (G : sG) (S : sS) {o N : Nat} {k : Int} (hI : cX G S 0 0 0) (ht : txt o N) (hk : -2147483648 ≤ k ∧ k ≤ 2147483647) : Met l yX10_byteAt (.code yX10_byteAt cX10_byteAt 2 (some .int) :: tb) (rmk 1 0 0) (sPc G 294 S [.ref (G.2.2.1 + o), .int (iv k)]) (sQi G 294 (fun r u => u = S ∧ (r = bt S o k ∧ -1 ≤ r ∧ r ≤ 255 ∧ (0 ≤ k → k < S.1 o 1 → 0 ≤ r)))) 0 0 (sF G) := by
  refine sEnter (by decide) (Nat.le_of_ble_eq_true rfl) ?_
  intro p e s m args below meth c Cx hr hlk hnm hW ls hl
  have Cx : sC G p m c cX10_byteAt 2 s args RX10 := Cx
  obtain ⟨hx, hb, hml, hown, hts⟩ := id Cx.1
  have hL : sL G [] := sL_nil
  have hl : lv_has ls 2 [(0, .ref (G.2.2.1 + o)), (1, .int (iv k))] := hl
  have hW0 := hW
  have hN3 := ht.2.2.2.2.2
  refine lv_iload_n hx hb dX10_byteAt_0 rfl (lv_at hl 1 rfl) ?_
  refine r_if_lt (tgt := 12) hx hb ⟨(by omega), (by omega)⟩ dX10_byteAt_1 (by decide) (fun c_1 => ?_) (fun c_1 => ?_)
  · refine lv_iconst (v := iv (-1)) hx hb dX10_byteAt_12 (by decide) ?_
    refine lv_goto (tgt := 26) hx hb dX10_byteAt_13 (by decide) ?_
    exact sIret Cx hr hlk hW hL ⟨rfl, ⟨(bt_out (by omega)).symm, by omega, by omega, by omega⟩⟩ dX10_byteAt_26
  · refine lv_iload_n hx hb dX10_byteAt_4 rfl (lv_at hl 1 rfl) ?_
    refine lv_aload_n hx hb dX10_byteAt_5 rfl (lv_at hl 0 rfl) ?_
    have q_2 : 0 ≤ S.1 o 1 ∧ S.1 o 1 ≤ (N : Int) := txt_len ht hI
    refine g_X10_21 Cx hW (k := o) (Nat.lt_trans ht.1 (by decide)) ht.2.1 (v := S.1 o 1) rfl dX10_byteAt_6 ?_
    refine r_icmp_lt (tgt := 16) hx hb ⟨(by omega), (by omega)⟩ ⟨(by omega), (by omega)⟩ dX10_byteAt_9 (by decide) (fun c_3 => ?_) (fun c_3 => ?_)
    · refine lv_aload_n hx hb dX10_byteAt_16 rfl (lv_at hl 0 rfl) ?_
      refine g_X10_15 Cx hW (k := o) (Nat.lt_trans ht.1 (by decide)) ht.2.1 (v := .ref (G.2.2.1 + (o + 1))) (hI.rq.2.1 o ht.1 ht.2.1) dX10_byteAt_17 ?_
      refine lv_iload_n hx hb dX10_byteAt_20 rfl (lv_at hl 1 rfl) ?_
      refine rBald Cx hW (k := o + 1) (txt_l1 ht) ht.2.2.1 (by omega) (by omega) (by omega) dX10_byteAt_21 ?_
      have q_4 : (-128) ≤ S.2.1 (o + 1) k ∧ S.2.1 (o + 1) k ≤ 127 := txt_r ht hI k 
      refine r_i (b := S.2.1 (o + 1) k) rfl ?_
      refine lv_sipush (v := iv 255) hx hb dX10_byteAt_22 (by decide) ?_
      refine r_and255e hx hb ⟨(by omega), (by omega)⟩ dX10_byteAt_25 (fun z_5 hz_5 kz_5 ez_5 => ?_)
      exact sIret Cx hr hlk hW hL ⟨rfl, ⟨by rw [bt_in (by omega) (by omega)]; assumption, by omega, by omega, by omega⟩⟩ dX10_byteAt_26
    · refine lv_iconst (v := iv (-1)) hx hb dX10_byteAt_12 (by decide) ?_
      refine lv_goto (tgt := 26) hx hb dX10_byteAt_13 (by decide) ?_
      exact sIret Cx hr hlk hW hL ⟨rfl, ⟨(bt_out (by omega)).symm, by omega, by omega, by omega⟩⟩ dX10_byteAt_26

set_option maxRecDepth 100000 in
set_option maxHeartbeats 4000000 in
theorem s_X10_put (l : Launch) (G : sG) (S : sS) {o N : Nat} {k : Int} (hI : cX G S 0 0 0) (ht : txt o N) (hk : -2147483648 ≤ k ∧ k ≤ 2147483647) : Met l yX10_put (.code yX10_put cX10_put 2 none :: tb) (rmk 1 0 0) (sPc G 294 S [.ref (G.2.2.1 + o), .int (iv k)]) (sQv G 294 (fun u => cX G u 0 0 0 ∧ Fr S u (pB o) ∧ ((S.1 o 1 < N → u.1 o 1 = S.1 o 1 + 1) ∧ ((N : Int) ≤ S.1 o 1 → u.1 o 1 = S.1 o 1)))) 0 0 (sF G) := by
  refine sEnter (by decide) (Nat.le_of_ble_eq_true rfl) ?_
  intro p e s m args below meth c Cx hr hlk hnm hW ls hl
  have Cx : sC G p m c cX10_put 2 s args RX10 := Cx
  obtain ⟨hx, hb, hml, hown, hts⟩ := id Cx.1
  have hL : sL G [] := sL_nil
  have hl : lv_has ls 2 [(0, .ref (G.2.2.1 + o)), (1, .int (iv k))] := hl
  have hW0 := hW
  have hN3 := ht.2.2.2.2.2
  refine lv_aload_n hx hb dX10_put_0 rfl (lv_at hl 0 rfl) ?_
  have q_1 : 0 ≤ S.1 o 1 ∧ S.1 o 1 ≤ (N : Int) := txt_len ht hI
  refine g_X10_21 Cx hW (k := o) (Nat.lt_trans ht.1 (by decide)) ht.2.1 (v := S.1 o 1) rfl dX10_put_1 ?_
  refine lv_aload_n hx hb dX10_put_4 rfl (lv_at hl 0 rfl) ?_
  refine g_X10_15 Cx hW (k := o) (Nat.lt_trans ht.1 (by decide)) ht.2.1 (v := .ref (G.2.2.1 + (o + 1))) (hI.rq.2.1 o ht.1 ht.2.1) dX10_put_5 ?_
  refine sAlen Cx hW (k := o + 1) (txt_l1 ht) ht.2.2.1 2 rfl dX10_put_8 ?_
  refine r_icmp_lt (tgt := 18) hx hb ⟨(by omega), (by omega)⟩ ⟨(by omega), (by omega)⟩ dX10_put_9 (by decide) (fun c_2 => ?_) (fun c_2 => ?_)
  · refine lv_aload_n hx hb dX10_put_18 rfl (lv_at hl 0 rfl) ?_
    refine g_X10_15 Cx hW (k := o) (Nat.lt_trans ht.1 (by decide)) ht.2.1 (v := .ref (G.2.2.1 + (o + 1))) (hI.rq.2.1 o ht.1 ht.2.1) dX10_put_19 ?_
    refine lv_aload_n hx hb dX10_put_22 rfl (lv_at hl 0 rfl) ?_
    refine g_X10_21 Cx hW (k := o) (Nat.lt_trans ht.1 (by decide)) ht.2.1 (v := S.1 o 1) rfl dX10_put_23 ?_
    refine lv_iload_n hx hb dX10_put_26 rfl (lv_at hl 1 rfl) ?_
    refine r_i2b hx hb dX10_put_27 (fun z_3 hz_3 kz_3 => ?_)
    refine rBast Cx hW hL (k := o + 1) (txt_l1 ht) ht.2.2.1 (by omega) (by omega) (by omega) (nar_b (by omega) (by omega)) dX10_put_28 (fun H locs hW hL => ?_)
    have F_4 : Fr S (uA S (o + 1) (S.1 o 1) z_3) (pB o) := (Fr.rf : Fr S S (pB o)).A pB_1
    have i_5 : cX G (uA S (o + 1) (S.1 o 1) z_3) 0 0 0 := hI.byt ht ⟨by omega, by omega⟩
    refine lv_aload_n hx hb dX10_put_29 rfl (lv_at hl 0 rfl) ?_
    refine lv_dup hx hb dX10_put_30 rfl ?_
    refine g_X10_21 Cx hW (k := o) (Nat.lt_trans ht.1 (by decide)) ht.2.1 (v := S.1 o 1) uA_f dX10_put_31 ?_
    refine lv_iconst (v := iv 1) hx hb dX10_put_34 (by decide) ?_
    refine r_iadd hx hb dX10_put_35 ?_
    refine p_X10_21 Cx hW hL (k := o) (Nat.lt_trans ht.1 (by decide)) ht.2.1 dX10_put_36 (fun H locs hW hL => ?_)
    have F_6 : Fr S (uF (uA S (o + 1) (S.1 o 1) z_3) o 1 ((S.1 o 1) + 1)) (pB o) := F_4.F pB_0
    have i_7 : cX G (uF (uA S (o + 1) (S.1 o 1) z_3) o 1 ((S.1 o 1) + 1)) 0 0 0 := i_5.len ht ⟨by omega, by omega⟩
    have lk_8 : (uF (uA S (o + 1) (S.1 o 1) z_3) o 1 ((S.1 o 1) + 1)).1 o 1 = (S.1 o 1) + 1 := uF_on
    exact sVret Cx hr hlk hW hL ⟨i_7, F_6, (by omega)⟩ dX10_put_39
  · refine lv_aload_n hx hb dX10_put_12 rfl (lv_at hl 0 rfl) ?_
    refine lv_iconst (v := iv 1) hx hb dX10_put_13 (by decide) ?_
    refine p_X10_25 Cx hW hL (k := o) (Nat.lt_trans ht.1 (by decide)) ht.2.1 (by omega) dX10_put_14 (fun H locs hW hL => ?_)
    have F_9 : Fr S (uF S o 2 1) (pB o) := (Fr.rf : Fr S S (pB o)).F pB_0
    have i_10 : cX G (uF S o 2 1) 0 0 0 := hI.F ht.2.1 rfl (show 0 ≤ 1 ∧ 1 ≤ 1 from ⟨by omega, by omega⟩)
    have lk_11 : (uF S o 2 1).1 o 1 = S.1 o 1 := uF_ne (fun h => absurd h.2 (by decide))
    exact sVret Cx hr hlk hW hL ⟨i_10, F_9, (by omega)⟩ dX10_put_17

set_option maxRecDepth 100000 in
set_option maxHeartbeats 4000000 in
theorem s_X10_number (l : Launch) (G : sG) (S : sS) {o N v : Nat} {ap : Int} (hI : cX G S 0 0 0) (ht : txt o N) (hv : tau v = .inl 0) (hap : 0 ≤ ap ∧ ap ≤ 1) : Met l yX10_number (.code yX10_number cX10_number 7 none :: tb) (rmk 2 0 0) (sPc G 294 S [.ref (G.2.2.1 + o), .ref (G.2.2.1 + v), .int (iv ap)]) (sQv G 294 (fun u => cX G u 0 0 0 ∧ Fr S u (pB o))) 0 0 (sF G) := by
  refine sEnter (by decide) (Nat.le_of_ble_eq_true rfl) ?_
  intro p e s m args below meth c Cx hr hlk hnm hW ls hl
  have Cx : sC G p m c cX10_number 7 s args RX10 := Cx
  obtain ⟨hx, hb, hml, hown, hts⟩ := id Cx.1
  have hL : sL G [] := sL_nil
  have hl : lv_has ls 7 [(0, .ref (G.2.2.1 + o)), (1, .ref (G.2.2.1 + v)), (2, .int (iv ap))] := hl
  have hW0 := hW
  have hN3 := ht.2.2.2.2.2
  have join_17 : ∀ (S17 : sS)  (H : Heap) (locs : List Loc) (ls : Array Slot), (cX G S17 0 0 0) → (Fr S S17 (pB o)) → (Fr S S17 (pB o)) → sW G 294 S17 H → sL G locs → lv_has ls 7 [(0, .ref (G.2.2.1 + o)), (1, .ref (G.2.2.1 + v)), (2, .int (iv ap))] → W p l e (rmk 2 0 0) s m args below meth c H locs 0 0 (MQ below (sQv G 294 (fun u => cX G u 0 0 0 ∧ Fr S u (pB o))) args s 0 0 (sF G)) (F0 m 17 ls []) := by
    intro S17  H locs ls hI17 hFm17 hL17_ hW hL hl
    have join_30 : ∀ (S30 : sS)  (H : Heap) (locs : List Loc) (ls : Array Slot), (cX G S30 0 0 0) → (Fr S S30 (pB o)) → (Fr S S30 (pB o)) → (Fr S17 S30 (pB o)) → sW G 294 S30 H → sL G locs → lv_has ls 7 [(0, .ref (G.2.2.1 + o)), (1, .ref (G.2.2.1 + v)), (2, .int (iv ap))] → W p l e (rmk 2 0 0) s m args below meth c H locs 0 0 (MQ below (sQv G 294 (fun u => cX G u 0 0 0 ∧ Fr S u (pB o))) args s 0 0 (sF G)) (F0 m 30 ls []) := by
      intro S30  H locs ls hI30 hFm30 hFL1730 hL30_ hW hL hl
      have join_43 : ∀ (S43 : sS)  (H : Heap) (locs : List Loc) (ls : Array Slot), (cX G S43 0 0 0) → (Fr S S43 (pB o)) → (Fr S S43 (pB o)) → (Fr S17 S43 (pB o)) → (Fr S30 S43 (pB o)) → sW G 294 S43 H → sL G locs → lv_has ls 7 [(0, .ref (G.2.2.1 + o)), (1, .ref (G.2.2.1 + v)), (2, .int (iv ap))] → W p l e (rmk 2 0 0) s m args below meth c H locs 0 0 (MQ below (sQv G 294 (fun u => cX G u 0 0 0 ∧ Fr S u (pB o))) args s 0 0 (sF G)) (F0 m 43 ls []) := by
        intro S43  H locs ls hI43 hFm43 hFL1743 hFL3043 hL43_ hW hL hl
        refine lv_iconst (v := iv 0) hx hb dX10_number_43 (by decide) ?_
        refine lv_istore_n (lv' := [(3, .int (iv 0)), (0, .ref (G.2.2.1 + o)), (1, .ref (G.2.2.1 + v)), (2, .int (iv ap))]) hx hb dX10_number_44 rfl hl (by decide) rfl (fun ls hl => ?_)
        refine lv_aload_n hx hb dX10_number_45 rfl (lv_at hl 2 rfl) ?_
        have q_1 : 0 ≤ S.1 v 1 ∧ S.1 v 1 ≤ 32 := hI.fi v 1 0 (big_lt hv) hv
        refine g_X10_48 Cx hW (k := v) (big_l hv) hv (v := S.1 v 1) (((hL43_ v (pB_no (tau_ne hv ht.2.1 (fun h => by cases h)) (tau_ne hv ht.2.2.1 (fun h => by cases h)))).1 1).trans (((hL30_ v (pB_no (tau_ne hv ht.2.1 (fun h => by cases h)) (tau_ne hv ht.2.2.1 (fun h => by cases h)))).1 1).trans ((hL17_ v (pB_no (tau_ne hv ht.2.1 (fun h => by cases h)) (tau_ne hv ht.2.2.1 (fun h => by cases h)))).1 1))) dX10_number_46 ?_
        refine lv_iconst (v := iv 1) hx hb dX10_number_49 (by decide) ?_
        refine r_isub hx hb dX10_number_50 ?_
        refine lv_istore (lv' := [(4, .int (iv ((S.1 v 1) - 1))), (3, .int (iv 0)), (0, .ref (G.2.2.1 + o)), (1, .ref (G.2.2.1 + v)), (2, .int (iv ap))]) hx hb dX10_number_51 hl (by decide) rfl (fun ls hl => ?_)
        have loop_53 : ∀ (fuel : Nat) (S53 : sS) (i : Int) (sd : Int) (H : Heap) (locs : List Loc) (ls : Array Slot), (i + 1).toNat < fuel → (cX G S53 0 0 0) → (Fr S S53 (pB o)) → (Fr S S53 (pB o)) → (Fr S17 S53 (pB o)) → (Fr S30 S53 (pB o)) → (Fr S43 S53 (pB o)) → (-1 ≤ i ∧ i < S.1 v 1) → (0 ≤ sd ∧ sd ≤ 1) → sW G 294 S53 H → sL G locs → lv_has ls 7 [(4, .int (iv i)), (3, .int (iv sd)), (0, .ref (G.2.2.1 + o)), (1, .ref (G.2.2.1 + v)), (2, .int (iv ap))] → W p l e (rmk 2 0 0) s m args below meth c H locs 0 0 (MQ below (sQv G 294 (fun u => cX G u 0 0 0 ∧ Fr S u (pB o))) args s 0 0 (sF G)) (F0 m 53 ls []) := by
          intro fuel
          induction fuel with
          | zero => intro S53 i sd H locs ls hmeas hI53 hFm53 hFL1753 hFL3053 hFL4353 hL53_ hi hsd hW hL hl; exact absurd hmeas (Nat.not_lt_zero _)
          | succ fuel ih_53 =>
            intro S53 i sd H locs ls hmeas hI53 hFm53 hFL1753 hFL3053 hFL4353 hL53_ hi hsd hW hL hl
            refine lv_iload hx hb dX10_number_53 (lv_at hl 0 rfl) ?_
            refine r_if_lt (tgt := 126) hx hb ⟨(by omega), (by omega)⟩ dX10_number_55 (by decide) (fun c_2 => ?_) (fun c_2 => ?_)
            · exact sVret Cx hr hlk hW hL ⟨hI53, hFm53⟩ dX10_number_126
            · refine lv_ldc hx hb hown (hts _ w_1439) dX10_number_58 ?_
              refine lv_istore (lv' := [(5, .int (iv 100000000)), (4, .int (iv i)), (3, .int (iv sd)), (0, .ref (G.2.2.1 + o)), (1, .ref (G.2.2.1 + v)), (2, .int (iv ap))]) hx hb dX10_number_60 hl (by decide) rfl (fun ls hl => ?_)
              have loop_62 : ∀ (fuel : Nat) (S62 : sS) (un : Int) (sd2 : Int) (H : Heap) (locs : List Loc) (ls : Array Slot), un.toNat < fuel → (cX G S62 0 0 0) → (Fr S S62 (pB o)) → (Fr S S62 (pB o)) → (Fr S17 S62 (pB o)) → (Fr S30 S62 (pB o)) → (Fr S43 S62 (pB o)) → (Fr S53 S62 (pB o)) → (0 ≤ un ∧ un ≤ 100000000) → (0 ≤ sd2 ∧ sd2 ≤ 1) → sW G 294 S62 H → sL G locs → lv_has ls 7 [(5, .int (iv un)), (4, .int (iv i)), (3, .int (iv sd2)), (0, .ref (G.2.2.1 + o)), (1, .ref (G.2.2.1 + v)), (2, .int (iv ap))] → W p l e (rmk 2 0 0) s m args below meth c H locs 0 0 (MQ below (sQv G 294 (fun u => cX G u 0 0 0 ∧ Fr S u (pB o))) args s 0 0 (sF G)) (F0 m 62 ls []) := by
                intro fuel
                induction fuel with
                | zero => intro S62 un sd2 H locs ls hmeas hI62 hFm62 hFL1762 hFL3062 hFL4362 hFL5362 hL62_ hun hsd2 hW hL hl; exact absurd hmeas (Nat.not_lt_zero _)
                | succ fuel ih_62 =>
                  intro S62 un sd2 H locs ls hmeas hI62 hFm62 hFL1762 hFL3062 hFL4362 hFL5362 hL62_ hun hsd2 hW hL hl
                  refine lv_iload hx hb dX10_number_62 (lv_at hl 0 rfl) ?_
                  refine r_if_le (tgt := 120) hx hb ⟨(by omega), (by omega)⟩ dX10_number_64 (by decide) (fun c_3 => ?_) (fun c_3 => ?_)
                  · refine lv_iinc (v := iv (i + (-1))) (lv' := [(4, .int (iv (i + (-1)))), (5, .int (iv un)), (3, .int (iv sd2)), (0, .ref (G.2.2.1 + o)), (1, .ref (G.2.2.1 + v)), (2, .int (iv ap))]) hx hb dX10_number_120 hl (k := 1) rfl ((Int32.ofInt_add _ _).symm) (by decide) rfl (fun ls hl => ?_)
                    refine lv_goto (tgt := 53) hx hb dX10_number_123 (by decide) ?_
                    exact ih_53 S62 (i + (-1)) sd2 _ _ _ (by omega) hI62 hFm62 hFL1762 hFL3062 hFL4362 hFL5362 (by omega) (by omega) hW hL (lv_sub hl [0, 2, 3, 4, 5] rfl)
                  · refine lv_aload_n hx hb dX10_number_67 rfl (lv_at hl 4 rfl) ?_
                    refine g_X10_52 Cx hW (k := v) (big_l hv) hv (v := .ref (G.2.2.1 + (v + 1))) (hI62.rq.1 v hv) dX10_number_68 ?_
                    refine lv_iload hx hb dX10_number_71 (lv_at hl 1 rfl) ?_
                    refine rIald Cx hW (k := v + 1) (big_l1 hv) (big_row hv).1 (by decide) (by omega) (by omega) dX10_number_73 ?_
                    have q_4 := limbR hI hv i
                    refine r_i (b := S.2.1 (v + 1) i) (((hL62_ (v + 1) (pB_no (tau_ne (big_row hv).1 ht.2.1 (fun h => by cases h)) (tau_ne (big_row hv).1 ht.2.2.1 (fun h => by cases h)))).2.1 i).trans (((hL53_ (v + 1) (pB_no (tau_ne (big_row hv).1 ht.2.1 (fun h => by cases h)) (tau_ne (big_row hv).1 ht.2.2.1 (fun h => by cases h)))).2.1 i).trans (((hL43_ (v + 1) (pB_no (tau_ne (big_row hv).1 ht.2.1 (fun h => by cases h)) (tau_ne (big_row hv).1 ht.2.2.1 (fun h => by cases h)))).2.1 i).trans (((hL30_ (v + 1) (pB_no (tau_ne (big_row hv).1 ht.2.1 (fun h => by cases h)) (tau_ne (big_row hv).1 ht.2.2.1 (fun h => by cases h)))).2.1 i).trans ((hL17_ (v + 1) (pB_no (tau_ne (big_row hv).1 ht.2.1 (fun h => by cases h)) (tau_ne (big_row hv).1 ht.2.2.1 (fun h => by cases h)))).2.1 i))))) ?_
                    refine lv_iload hx hb dX10_number_74 (lv_at hl 0 rfl) ?_
                    refine r_idiv hx hb ⟨(by omega), (by omega)⟩ ⟨(by omega), (by omega)⟩ (by omega) dX10_number_76 ?_
                    obtain ⟨z_5, ez_5, hz_5, kz_5⟩ := iv_of (iv ((S.2.1 (v + 1) i).tdiv un))
                    rw [ez_5]
                    refine lv_bipush (v := iv 10) hx hb dX10_number_77 (by decide) ?_
                    refine r_irem hx hb ⟨(by omega), (by omega)⟩ ⟨(by omega), (by omega)⟩ (by omega) dX10_number_79 ?_
                    obtain ⟨z_6, ez_6⟩ : ∃ z : Int, z = z_5.tmod 10 := ⟨_, rfl⟩
                    have hz_6 := tmodL (a := z_5) (b := 10) (by omega)
                    rw [← ez_6] at hz_6
                    refine r_i (b := z_6) ez_6.symm ?_
                    clear ez_6
                    refine lv_istore (lv' := [(6, .int (iv z_6)), (5, .int (iv un)), (4, .int (iv i)), (3, .int (iv sd2)), (0, .ref (G.2.2.1 + o)), (1, .ref (G.2.2.1 + v)), (2, .int (iv ap))]) hx hb dX10_number_80 hl (by decide) rfl (fun ls hl => ?_)
                    refine lv_iload_n hx hb dX10_number_82 rfl (lv_at hl 3 rfl) ?_
                    refine r_if_ne (tgt := 91) hx hb ⟨(by omega), (by omega)⟩ dX10_number_83 (by decide) (fun c_7 => ?_) (fun c_7 => ?_)
                    · refine lv_iconst (v := iv 1) hx hb dX10_number_91 (by decide) ?_
                      refine lv_goto (tgt := 96) hx hb dX10_number_92 (by decide) ?_
                      refine lv_istore_n (lv' := [(3, .int (iv 1)), (6, .int (iv z_6)), (5, .int (iv un)), (4, .int (iv i)), (0, .ref (G.2.2.1 + o)), (1, .ref (G.2.2.1 + v)), (2, .int (iv ap))]) hx hb dX10_number_96 rfl hl (by decide) rfl (fun ls hl => ?_)
                      have join_110 : ∀ (S110 : sS)  (H : Heap) (locs : List Loc) (ls : Array Slot), (cX G S110 0 0 0) → (Fr S S110 (pB o)) → (Fr S S110 (pB o)) → (Fr S17 S110 (pB o)) → (Fr S30 S110 (pB o)) → (Fr S43 S110 (pB o)) → (Fr S53 S110 (pB o)) → (Fr S62 S110 (pB o)) → sW G 294 S110 H → sL G locs → lv_has ls 7 [(3, .int (iv 1)), (6, .int (iv z_6)), (5, .int (iv un)), (4, .int (iv i)), (0, .ref (G.2.2.1 + o)), (1, .ref (G.2.2.1 + v)), (2, .int (iv ap))] → W p l e (rmk 2 0 0) s m args below meth c H locs 0 0 (MQ below (sQv G 294 (fun u => cX G u 0 0 0 ∧ Fr S u (pB o))) args s 0 0 (sF G)) (F0 m 110 ls []) := by
                        intro S110  H locs ls hI110 hFm110 hFL17110 hFL30110 hFL43110 hFL53110 hFL62110 hL110_ hW hL hl
                        refine lv_iload hx hb dX10_number_110 (lv_at hl 2 rfl) ?_
                        refine lv_bipush (v := iv 10) hx hb dX10_number_112 (by decide) ?_
                        refine r_idiv hx hb ⟨(by omega), (by omega)⟩ ⟨(by omega), (by omega)⟩ (by omega) dX10_number_114 ?_
                        obtain ⟨z_8, ez_8⟩ : ∃ z : Int, z = un.tdiv 10 := ⟨_, rfl⟩
                        have hz_8 := tdivL (a := un) (b := 10) (by omega)
                        rw [← ez_8] at hz_8
                        refine r_i (b := z_8) ez_8.symm ?_
                        clear ez_8
                        refine lv_istore (lv' := [(5, .int (iv z_8)), (3, .int (iv 1)), (6, .int (iv z_6)), (4, .int (iv i)), (0, .ref (G.2.2.1 + o)), (1, .ref (G.2.2.1 + v)), (2, .int (iv ap))]) hx hb dX10_number_115 hl (by decide) rfl (fun ls hl => ?_)
                        refine lv_goto (tgt := 62) hx hb dX10_number_117 (by decide) ?_
                        exact ih_62 S110 z_8 1 _ _ _ (by omega) hI110 hFm110 hFL17110 hFL30110 hFL43110 hFL53110 hFL62110 (by omega) (by omega) hW hL (lv_sub hl [0, 3, 1, 4, 5, 6] rfl)
                      refine lv_iload_n hx hb dX10_number_97 rfl (lv_at hl 0 rfl) ?_
                      refine r_if_eq (tgt := 110) hx hb ⟨(by omega), (by omega)⟩ dX10_number_98 (by decide) (fun c => absurd c (by omega)) (fun _ => ?_)
                      refine lv_aload_n hx hb dX10_number_101 rfl (lv_at hl 4 rfl) ?_
                      refine lv_bipush (v := iv 48) hx hb dX10_number_102 (by decide) ?_
                      refine lv_iload hx hb dX10_number_104 (lv_at hl 1 rfl) ?_
                      refine r_iadd hx hb dX10_number_106 ?_
                      have q_9 : 0 ≤ S62.1 o 1 ∧ S62.1 o 1 ≤ (N : Int) := txt_len ht hI62
                      refine sBv (sV (As := [.int (iv (48 + z_6))]) (rest := []) (k := o) Cx (s_X10_put l G S62 (o := o) (k := 48 + z_6) (N := N) hI62 ht (by omega)) (c_X10_29 Cx rfl rfl (rmk_ok (by omega) (by decide))) hW (Nat.lt_trans ht.1 (by decide)) ht.2.1 rfl rfl hl.1 rfl (Nat.le_of_ble_eq_true rfl) dX10_number_107 ⟨Nat.le_of_ble_eq_true rfl, Nat.le_of_ble_eq_true rfl⟩) hL (fun u_10 H locs k_11 hW hL => ?_)
                      obtain ⟨iu_10, fu_10, xu_10⟩ := k_11
                      have F_12 := hFm62.trans fu_10
                      have F_13 := hFL1762.trans fu_10
                      have F_14 := hFL3062.trans fu_10
                      have F_15 := hFL4362.trans fu_10
                      have F_16 := hFL5362.trans fu_10
                      have F_17 := hL62_.trans fu_10
                      have F_18 := (Fr.rf : Fr S62 S62 (pB o)).trans fu_10
                      exact join_110 u_10  _ _ _ iu_10 F_12 F_13 F_14 F_15 F_16 F_17 F_18 hW hL (lv_sub hl [0, 1, 2, 3, 4, 5, 6] rfl)
                    · refine lv_iload hx hb dX10_number_86 (lv_at hl 0 rfl) ?_
                      refine r_if_eq (tgt := 95) hx hb ⟨(by omega), (by omega)⟩ dX10_number_88 (by decide) (fun c_19 => ?_) (fun c_19 => ?_)
                      · refine lv_iconst (v := iv 0) hx hb dX10_number_95 (by decide) ?_
                        refine lv_istore_n (lv' := [(3, .int (iv 0)), (6, .int (iv z_6)), (5, .int (iv un)), (4, .int (iv i)), (0, .ref (G.2.2.1 + o)), (1, .ref (G.2.2.1 + v)), (2, .int (iv ap))]) hx hb dX10_number_96 rfl hl (by decide) rfl (fun ls hl => ?_)
                        have join_110 : ∀ (S110 : sS)  (H : Heap) (locs : List Loc) (ls : Array Slot), (cX G S110 0 0 0) → (Fr S S110 (pB o)) → (Fr S S110 (pB o)) → (Fr S17 S110 (pB o)) → (Fr S30 S110 (pB o)) → (Fr S43 S110 (pB o)) → (Fr S53 S110 (pB o)) → (Fr S62 S110 (pB o)) → sW G 294 S110 H → sL G locs → lv_has ls 7 [(3, .int (iv 0)), (6, .int (iv z_6)), (5, .int (iv un)), (4, .int (iv i)), (0, .ref (G.2.2.1 + o)), (1, .ref (G.2.2.1 + v)), (2, .int (iv ap))] → W p l e (rmk 2 0 0) s m args below meth c H locs 0 0 (MQ below (sQv G 294 (fun u => cX G u 0 0 0 ∧ Fr S u (pB o))) args s 0 0 (sF G)) (F0 m 110 ls []) := by
                          intro S110  H locs ls hI110 hFm110 hFL17110 hFL30110 hFL43110 hFL53110 hFL62110 hL110_ hW hL hl
                          refine lv_iload hx hb dX10_number_110 (lv_at hl 2 rfl) ?_
                          refine lv_bipush (v := iv 10) hx hb dX10_number_112 (by decide) ?_
                          refine r_idiv hx hb ⟨(by omega), (by omega)⟩ ⟨(by omega), (by omega)⟩ (by omega) dX10_number_114 ?_
                          obtain ⟨z_20, ez_20⟩ : ∃ z : Int, z = un.tdiv 10 := ⟨_, rfl⟩
                          have hz_20 := tdivL (a := un) (b := 10) (by omega)
                          rw [← ez_20] at hz_20
                          refine r_i (b := z_20) ez_20.symm ?_
                          clear ez_20
                          refine lv_istore (lv' := [(5, .int (iv z_20)), (3, .int (iv 0)), (6, .int (iv z_6)), (4, .int (iv i)), (0, .ref (G.2.2.1 + o)), (1, .ref (G.2.2.1 + v)), (2, .int (iv ap))]) hx hb dX10_number_115 hl (by decide) rfl (fun ls hl => ?_)
                          refine lv_goto (tgt := 62) hx hb dX10_number_117 (by decide) ?_
                          exact ih_62 S110 z_20 0 _ _ _ (by omega) hI110 hFm110 hFL17110 hFL30110 hFL43110 hFL53110 hFL62110 (by omega) (by omega) hW hL (lv_sub hl [0, 3, 1, 4, 5, 6] rfl)
                        refine lv_iload_n hx hb dX10_number_97 rfl (lv_at hl 0 rfl) ?_
                        refine r_if_eq (tgt := 110) hx hb ⟨(by omega), (by omega)⟩ dX10_number_98 (by decide) (fun _ => ?_) (fun c => absurd (by omega) c)
                        exact join_110 S62  _ _ _ hI62 hFm62 hFL1762 hFL3062 hFL4362 hFL5362 hL62_ (Fr.rf : Fr S62 S62 (pB o)) hW hL (lv_sub hl [0, 1, 2, 3, 4, 5, 6] rfl)
                      · refine lv_iconst (v := iv 1) hx hb dX10_number_91 (by decide) ?_
                        refine lv_goto (tgt := 96) hx hb dX10_number_92 (by decide) ?_
                        refine lv_istore_n (lv' := [(3, .int (iv 1)), (6, .int (iv z_6)), (5, .int (iv un)), (4, .int (iv i)), (0, .ref (G.2.2.1 + o)), (1, .ref (G.2.2.1 + v)), (2, .int (iv ap))]) hx hb dX10_number_96 rfl hl (by decide) rfl (fun ls hl => ?_)
                        have join_110 : ∀ (S110 : sS)  (H : Heap) (locs : List Loc) (ls : Array Slot), (cX G S110 0 0 0) → (Fr S S110 (pB o)) → (Fr S S110 (pB o)) → (Fr S17 S110 (pB o)) → (Fr S30 S110 (pB o)) → (Fr S43 S110 (pB o)) → (Fr S53 S110 (pB o)) → (Fr S62 S110 (pB o)) → sW G 294 S110 H → sL G locs → lv_has ls 7 [(3, .int (iv 1)), (6, .int (iv z_6)), (5, .int (iv un)), (4, .int (iv i)), (0, .ref (G.2.2.1 + o)), (1, .ref (G.2.2.1 + v)), (2, .int (iv ap))] → W p l e (rmk 2 0 0) s m args below meth c H locs 0 0 (MQ below (sQv G 294 (fun u => cX G u 0 0 0 ∧ Fr S u (pB o))) args s 0 0 (sF G)) (F0 m 110 ls []) := by
                          intro S110  H locs ls hI110 hFm110 hFL17110 hFL30110 hFL43110 hFL53110 hFL62110 hL110_ hW hL hl
                          refine lv_iload hx hb dX10_number_110 (lv_at hl 2 rfl) ?_
                          refine lv_bipush (v := iv 10) hx hb dX10_number_112 (by decide) ?_
                          refine r_idiv hx hb ⟨(by omega), (by omega)⟩ ⟨(by omega), (by omega)⟩ (by omega) dX10_number_114 ?_
                          obtain ⟨z_21, ez_21⟩ : ∃ z : Int, z = un.tdiv 10 := ⟨_, rfl⟩
                          have hz_21 := tdivL (a := un) (b := 10) (by omega)
                          rw [← ez_21] at hz_21
                          refine r_i (b := z_21) ez_21.symm ?_
                          clear ez_21
                          refine lv_istore (lv' := [(5, .int (iv z_21)), (3, .int (iv 1)), (6, .int (iv z_6)), (4, .int (iv i)), (0, .ref (G.2.2.1 + o)), (1, .ref (G.2.2.1 + v)), (2, .int (iv ap))]) hx hb dX10_number_115 hl (by decide) rfl (fun ls hl => ?_)
                          refine lv_goto (tgt := 62) hx hb dX10_number_117 (by decide) ?_
                          exact ih_62 S110 z_21 1 _ _ _ (by omega) hI110 hFm110 hFL17110 hFL30110 hFL43110 hFL53110 hFL62110 (by omega) (by omega) hW hL (lv_sub hl [0, 3, 1, 4, 5, 6] rfl)
                        refine lv_iload_n hx hb dX10_number_97 rfl (lv_at hl 0 rfl) ?_
                        refine r_if_eq (tgt := 110) hx hb ⟨(by omega), (by omega)⟩ dX10_number_98 (by decide) (fun c => absurd c (by omega)) (fun _ => ?_)
                        refine lv_aload_n hx hb dX10_number_101 rfl (lv_at hl 4 rfl) ?_
                        refine lv_bipush (v := iv 48) hx hb dX10_number_102 (by decide) ?_
                        refine lv_iload hx hb dX10_number_104 (lv_at hl 1 rfl) ?_
                        refine r_iadd hx hb dX10_number_106 ?_
                        have q_22 : 0 ≤ S62.1 o 1 ∧ S62.1 o 1 ≤ (N : Int) := txt_len ht hI62
                        refine sBv (sV (As := [.int (iv (48 + z_6))]) (rest := []) (k := o) Cx (s_X10_put l G S62 (o := o) (k := 48 + z_6) (N := N) hI62 ht (by omega)) (c_X10_29 Cx rfl rfl (rmk_ok (by omega) (by decide))) hW (Nat.lt_trans ht.1 (by decide)) ht.2.1 rfl rfl hl.1 rfl (Nat.le_of_ble_eq_true rfl) dX10_number_107 ⟨Nat.le_of_ble_eq_true rfl, Nat.le_of_ble_eq_true rfl⟩) hL (fun u_23 H locs k_24 hW hL => ?_)
                        obtain ⟨iu_23, fu_23, xu_23⟩ := k_24
                        have F_25 := hFm62.trans fu_23
                        have F_26 := hFL1762.trans fu_23
                        have F_27 := hFL3062.trans fu_23
                        have F_28 := hFL4362.trans fu_23
                        have F_29 := hFL5362.trans fu_23
                        have F_30 := hL62_.trans fu_23
                        have F_31 := (Fr.rf : Fr S62 S62 (pB o)).trans fu_23
                        exact join_110 u_23  _ _ _ iu_23 F_25 F_26 F_27 F_28 F_29 F_30 F_31 hW hL (lv_sub hl [0, 1, 2, 3, 4, 5, 6] rfl)
              exact loop_62 (_ + 1) S53 100000000 sd _ _ _ (Nat.lt_succ_self _) hI53 hFm53 hFL1753 hFL3053 hFL4353 hL53_ Fr.rf (by omega) (by omega) hW hL (lv_sub hl [0, 1, 2, 3, 4, 5] rfl)
        exact loop_53 (_ + 1) S43 ((S.1 v 1) - 1) 0 _ _ _ (Nat.lt_succ_self _) hI43 hFm43 hFL1743 hFL3043 hL43_ Fr.rf (by omega) (by omega) hW hL (lv_sub hl [0, 1, 2, 3, 4] rfl)
      refine lv_aload_n hx hb dX10_number_30 rfl (lv_at hl 1 rfl) ?_
      have q_32 : (-1) ≤ S.1 v 2 ∧ S.1 v 2 ≤ 1 := hI.fi v 2 0 (big_lt hv) hv
      refine g_X10_43 Cx hW (k := v) (big_l hv) hv (v := S.1 v 2) (((hL30_ v (pB_no (tau_ne hv ht.2.1 (fun h => by cases h)) (tau_ne hv ht.2.2.1 (fun h => by cases h)))).1 2).trans ((hL17_ v (pB_no (tau_ne hv ht.2.1 (fun h => by cases h)) (tau_ne hv ht.2.2.1 (fun h => by cases h)))).1 2)) dX10_number_31 ?_
      refine r_if_ne (tgt := 43) hx hb ⟨(by omega), (by omega)⟩ dX10_number_34 (by decide) (fun c_33 => ?_) (fun c_33 => ?_)
      · exact join_43 S30  _ _ _ hI30 hFm30 hFL1730 hL30_ (Fr.rf : Fr S30 S30 (pB o)) hW hL (lv_sub hl [0, 1, 2] rfl)
      · refine lv_aload_n hx hb dX10_number_37 rfl (lv_at hl 0 rfl) ?_
        refine lv_bipush (v := iv 48) hx hb dX10_number_38 (by decide) ?_
        have q_34 : 0 ≤ S30.1 o 1 ∧ S30.1 o 1 ≤ (N : Int) := txt_len ht hI30
        refine sBv (sV (As := [.int (iv 48)]) (rest := []) (k := o) Cx (s_X10_put l G S30 (o := o) (k := 48) (N := N) hI30 ht (by omega)) (c_X10_29 Cx rfl rfl (rmk_ok (by omega) (by decide))) hW (Nat.lt_trans ht.1 (by decide)) ht.2.1 rfl rfl hl.1 rfl (Nat.le_of_ble_eq_true rfl) dX10_number_40 ⟨Nat.le_of_ble_eq_true rfl, Nat.le_of_ble_eq_true rfl⟩) hL (fun u_35 H locs k_36 hW hL => ?_)
        obtain ⟨iu_35, fu_35, xu_35⟩ := k_36
        have F_37 := hFm30.trans fu_35
        have F_38 := hFL1730.trans fu_35
        have F_39 := hL30_.trans fu_35
        have F_40 := (Fr.rf : Fr S30 S30 (pB o)).trans fu_35
        exact join_43 u_35  _ _ _ iu_35 F_37 F_38 F_39 F_40 hW hL (lv_sub hl [0, 1, 2] rfl)
    refine lv_aload_n hx hb dX10_number_17 rfl (lv_at hl 1 rfl) ?_
    have q_41 : (-1) ≤ S.1 v 2 ∧ S.1 v 2 ≤ 1 := hI.fi v 2 0 (big_lt hv) hv
    refine g_X10_43 Cx hW (k := v) (big_l hv) hv (v := S.1 v 2) ((hL17_ v (pB_no (tau_ne hv ht.2.1 (fun h => by cases h)) (tau_ne hv ht.2.2.1 (fun h => by cases h)))).1 2) dX10_number_18 ?_
    refine r_if_ge (tgt := 30) hx hb ⟨(by omega), (by omega)⟩ dX10_number_21 (by decide) (fun c_42 => ?_) (fun c_42 => ?_)
    · exact join_30 S17  _ _ _ hI17 hFm17 hL17_ (Fr.rf : Fr S17 S17 (pB o)) hW hL (lv_sub hl [0, 1, 2] rfl)
    · refine lv_aload_n hx hb dX10_number_24 rfl (lv_at hl 0 rfl) ?_
      refine lv_bipush (v := iv 45) hx hb dX10_number_25 (by decide) ?_
      have q_43 : 0 ≤ S17.1 o 1 ∧ S17.1 o 1 ≤ (N : Int) := txt_len ht hI17
      refine sBv (sV (As := [.int (iv 45)]) (rest := []) (k := o) Cx (s_X10_put l G S17 (o := o) (k := 45) (N := N) hI17 ht (by omega)) (c_X10_29 Cx rfl rfl (rmk_ok (by omega) (by decide))) hW (Nat.lt_trans ht.1 (by decide)) ht.2.1 rfl rfl hl.1 rfl (Nat.le_of_ble_eq_true rfl) dX10_number_27 ⟨Nat.le_of_ble_eq_true rfl, Nat.le_of_ble_eq_true rfl⟩) hL (fun u_44 H locs k_45 hW hL => ?_)
      obtain ⟨iu_44, fu_44, xu_44⟩ := k_45
      have F_46 := hFm17.trans fu_44
      have F_47 := hL17_.trans fu_44
      have F_48 := (Fr.rf : Fr S17 S17 (pB o)).trans fu_44
      exact join_30 u_44  _ _ _ iu_44 F_46 F_47 F_48 hW hL (lv_sub hl [0, 1, 2] rfl)
  refine lv_iload_n hx hb dX10_number_0 rfl (lv_at hl 2 rfl) ?_
  refine r_if_eq (tgt := 17) hx hb ⟨(by omega), (by omega)⟩ dX10_number_1 (by decide) (fun c_49 => ?_) (fun c_49 => ?_)
  · exact join_17 S  _ _ _ hI (Fr.rf : Fr S S (pB o)) (Fr.rf : Fr S S (pB o)) hW hL (lv_sub hl [0, 1, 2] rfl)
  · refine lv_aload_n hx hb dX10_number_4 rfl (lv_at hl 0 rfl) ?_
    have q_50 : 0 ≤ S.1 o 1 ∧ S.1 o 1 ≤ (N : Int) := txt_len ht hI
    refine g_X10_21 Cx hW (k := o) (Nat.lt_trans ht.1 (by decide)) ht.2.1 (v := S.1 o 1) rfl dX10_number_5 ?_
    refine r_if_le (tgt := 17) hx hb ⟨(by omega), (by omega)⟩ dX10_number_8 (by decide) (fun c_51 => ?_) (fun c_51 => ?_)
    · exact join_17 S  _ _ _ hI (Fr.rf : Fr S S (pB o)) (Fr.rf : Fr S S (pB o)) hW hL (lv_sub hl [0, 1, 2] rfl)
    · refine lv_aload_n hx hb dX10_number_11 rfl (lv_at hl 0 rfl) ?_
      refine lv_bipush (v := iv 32) hx hb dX10_number_12 (by decide) ?_
      refine sBv (sV (As := [.int (iv 32)]) (rest := []) (k := o) Cx (s_X10_put l G S (o := o) (k := 32) (N := N) hI ht (by omega)) (c_X10_29 Cx rfl rfl (rmk_ok (by omega) (by decide))) hW (Nat.lt_trans ht.1 (by decide)) ht.2.1 rfl rfl hl.1 rfl (Nat.le_of_ble_eq_true rfl) dX10_number_14 ⟨Nat.le_of_ble_eq_true rfl, Nat.le_of_ble_eq_true rfl⟩) hL (fun u_52 H locs k_53 hW hL => ?_)
      obtain ⟨iu_52, fu_52, xu_52⟩ := k_53
      have F_54 := (Fr.rf : Fr S S (pB o)).trans fu_52
      have F_55 := (Fr.rf : Fr S S (pB o)).trans fu_52
      exact join_17 u_52  _ _ _ iu_52 F_54 F_55 hW hL (lv_sub hl [0, 1, 2] rfl)
