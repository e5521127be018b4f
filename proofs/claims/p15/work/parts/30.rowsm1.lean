def pK (o b k : Nat) : Bool := rgB (o + 3) (o + 8) k || pB b k
theorem pK_sub {P : pS} {o b : Nat} (h : ∀ k, o + 3 ≤ k → k ≤ o + 8 → P k = true) (h1 : P b = true) (h2 : P (b + 1) = true) : ∀ k, pK o b k = true → P k = true := fun k e => by
  rw [pK, Bool.or_eq_true] at e
  rcases e with e | e
  · have := rgB_t e; exact h k this.1 this.2
  · exact pB_sub h1 h2 k e
theorem rgN_120 : ∀ k, 120 + 3 ≤ k → k ≤ 120 + 8 → pN k = true := fun k h1 h2 => by
  have : ∀ k, k < 129 → 123 ≤ k → pN k = true := by decide +kernel
  exact this k (by omega) h1
theorem rgN_193 : ∀ k, 193 + 3 ≤ k → k ≤ 193 + 8 → pN k = true := fun k h1 h2 => by
  have : ∀ k, k < 202 → 196 ≤ k → pN k = true := by decide +kernel
  exact this k (by omega) h1
set_option maxRecDepth 100000 in
set_option maxHeartbeats 4000000 in
theorem s_X6_at (l : Launch) (G : sG) (S : sS) {k j : Int} (hk : 0 ≤ k ∧ k ≤ 41) (hj : 0 ≤ j ∧ j ≤ 12) : Met l yX6_at (.code yX6_at cX6_at 2 (some .int) :: tb) (rmk 1 0 0) (sPc G 294 S [.int (iv k), .int (iv j)]) (sQi G 294 (fun r u => u = S ∧ (r = (k * 13 + j) * 8))) 0 0 (sF G) := by
  refine sEnter (by decide) (Nat.le_of_ble_eq_true rfl) ?_
  intro p e s m args below meth c Cx hr hlk hnm hW ls hl
  have Cx : sC G p m c cX6_at 2 s args RX6 := Cx
  obtain ⟨hx, hb, hml, hown, hts⟩ := id Cx.1
  have hL : sL G [] := sL_nil
  have hl : lv_has ls 2 [(0, .int (iv k)), (1, .int (iv j))] := hl
  have hW0 := hW
  refine lv_iload_n hx hb dX6_at_0 rfl (lv_at hl 0 rfl) ?_
  refine lv_bipush (v := iv 13) hx hb dX6_at_1 (by decide) ?_
  refine r_imul hx hb dX6_at_3 ?_
  refine lv_iload_n hx hb dX6_at_4 rfl (lv_at hl 1 rfl) ?_
  refine r_iadd hx hb dX6_at_5 ?_
  refine lv_bipush (v := iv 8) hx hb dX6_at_6 (by decide) ?_
  refine r_imul hx hb dX6_at_8 ?_
  exact sIret Cx hr hlk hW hL ⟨rfl, (by omega)⟩ dX6_at_9

set_option maxRecDepth 100000 in
set_option maxHeartbeats 4000000 in
theorem s_X6_count_120 (l : Launch) (G : sG) (S : sS)  (hI : cX G S 0 0 0) : Met l yX6_count (.code yX6_count cX6_count 1 (some .int) :: tb) (rmk 1 0 0) (sPc G 294 S [.ref (G.2.2.1 + 120)]) (sQi G 294 (fun r u => u = S ∧ (r = S.1 120 9 ∧ 0 ≤ r ∧ r ≤ 40))) 0 0 (sF G) := by
  refine sEnter (by decide) (Nat.le_of_ble_eq_true rfl) ?_
  intro p e s m args below meth c Cx hr hlk hnm hW ls hl
  have Cx : sC G p m c cX6_count 1 s args RX6 := Cx
  obtain ⟨hx, hb, hml, hown, hts⟩ := id Cx.1
  have hL : sL G [] := sL_nil
  have hl : lv_has ls 1 [(0, .ref (G.2.2.1 + 120))] := hl
  have hW0 := hW
  refine lv_aload_n hx hb dX6_count_0 rfl (lv_at hl 0 rfl) ?_
  have q_1 : 0 ≤ S.1 120 9 ∧ S.1 120 9 ≤ 40 := hI.fi 120 9 6 (by decide) rfl
  refine g_X6_50 Cx hW (k := 120) (by decide) rfl (v := S.1 120 9) rfl dX6_count_1 ?_
  exact sIret Cx hr hlk hW hL ⟨rfl, (by omega)⟩ dX6_count_4

set_option maxRecDepth 100000 in
set_option maxHeartbeats 4000000 in
theorem s_X6_count_193 (l : Launch) (G : sG) (S : sS)  (hI : cX G S 0 0 0) : Met l yX6_count (.code yX6_count cX6_count 1 (some .int) :: tb) (rmk 1 0 0) (sPc G 294 S [.ref (G.2.2.1 + 193)]) (sQi G 294 (fun r u => u = S ∧ (r = S.1 193 9 ∧ 0 ≤ r ∧ r ≤ 40))) 0 0 (sF G) := by
  refine sEnter (by decide) (Nat.le_of_ble_eq_true rfl) ?_
  intro p e s m args below meth c Cx hr hlk hnm hW ls hl
  have Cx : sC G p m c cX6_count 1 s args RX6 := Cx
  obtain ⟨hx, hb, hml, hown, hts⟩ := id Cx.1
  have hL : sL G [] := sL_nil
  have hl : lv_has ls 1 [(0, .ref (G.2.2.1 + 193))] := hl
  have hW0 := hW
  refine lv_aload_n hx hb dX6_count_0 rfl (lv_at hl 0 rfl) ?_
  have q_1 : 0 ≤ S.1 193 9 ∧ S.1 193 9 ≤ 40 := hI.fi 193 9 6 (by decide) rfl
  refine g_X6_50 Cx hW (k := 193) (by decide) rfl (v := S.1 193 9) rfl dX6_count_1 ?_
  exact sIret Cx hr hlk hW hL ⟨rfl, (by omega)⟩ dX6_count_4

set_option maxRecDepth 100000 in
set_option maxHeartbeats 4000000 in
theorem s_X6_isFull_120 (l : Launch) (G : sG) (S : sS)  (hI : cX G S 0 0 0) : Met l yX6_isFull (.code yX6_isFull cX6_isFull 1 (some .boolean) :: tb) (rmk 1 0 0) (sPc G 294 S [.ref (G.2.2.1 + 120)]) (sQi G 294 (fun r u => u = S ∧ (0 ≤ r ∧ r ≤ 1 ∧ (r = 1 → 40 ≤ S.1 120 9) ∧ (r = 0 → S.1 120 9 < 40)))) 0 0 (sF G) := by
  refine sEnter (by decide) (Nat.le_of_ble_eq_true rfl) ?_
  intro p e s m args below meth c Cx hr hlk hnm hW ls hl
  have Cx : sC G p m c cX6_isFull 1 s args RX6 := Cx
  obtain ⟨hx, hb, hml, hown, hts⟩ := id Cx.1
  have hL : sL G [] := sL_nil
  have hl : lv_has ls 1 [(0, .ref (G.2.2.1 + 120))] := hl
  have hW0 := hW
  refine lv_aload_n hx hb dX6_isFull_0 rfl (lv_at hl 0 rfl) ?_
  have q_1 : 0 ≤ S.1 120 9 ∧ S.1 120 9 ≤ 40 := hI.fi 120 9 6 (by decide) rfl
  refine g_X6_50 Cx hW (k := 120) (by decide) rfl (v := S.1 120 9) rfl dX6_isFull_1 ?_
  refine lv_bipush (v := iv 40) hx hb dX6_isFull_4 (by decide) ?_
  refine r_icmp_lt (tgt := 13) hx hb ⟨(by omega), (by omega)⟩ ⟨(by omega), (by omega)⟩ dX6_isFull_6 (by decide) (fun c_2 => ?_) (fun c_2 => ?_)
  · refine lv_iconst (v := iv 0) hx hb dX6_isFull_13 (by decide) ?_
    exact sZret Cx hr hlk hW hL (by omega) ⟨rfl, (by omega)⟩ dX6_isFull_14
  · refine lv_iconst (v := iv 1) hx hb dX6_isFull_9 (by decide) ?_
    refine lv_goto (tgt := 14) hx hb dX6_isFull_10 (by decide) ?_
    exact sZret Cx hr hlk hW hL (by omega) ⟨rfl, (by omega)⟩ dX6_isFull_14

set_option maxRecDepth 100000 in
set_option maxHeartbeats 4000000 in
theorem s_X6_isFull_193 (l : Launch) (G : sG) (S : sS)  (hI : cX G S 0 0 0) : Met l yX6_isFull (.code yX6_isFull cX6_isFull 1 (some .boolean) :: tb) (rmk 1 0 0) (sPc G 294 S [.ref (G.2.2.1 + 193)]) (sQi G 294 (fun r u => u = S ∧ (0 ≤ r ∧ r ≤ 1 ∧ (r = 1 → 40 ≤ S.1 193 9) ∧ (r = 0 → S.1 193 9 < 40)))) 0 0 (sF G) := by
  refine sEnter (by decide) (Nat.le_of_ble_eq_true rfl) ?_
  intro p e s m args below meth c Cx hr hlk hnm hW ls hl
  have Cx : sC G p m c cX6_isFull 1 s args RX6 := Cx
  obtain ⟨hx, hb, hml, hown, hts⟩ := id Cx.1
  have hL : sL G [] := sL_nil
  have hl : lv_has ls 1 [(0, .ref (G.2.2.1 + 193))] := hl
  have hW0 := hW
  refine lv_aload_n hx hb dX6_isFull_0 rfl (lv_at hl 0 rfl) ?_
  have q_1 : 0 ≤ S.1 193 9 ∧ S.1 193 9 ≤ 40 := hI.fi 193 9 6 (by decide) rfl
  refine g_X6_50 Cx hW (k := 193) (by decide) rfl (v := S.1 193 9) rfl dX6_isFull_1 ?_
  refine lv_bipush (v := iv 40) hx hb dX6_isFull_4 (by decide) ?_
  refine r_icmp_lt (tgt := 13) hx hb ⟨(by omega), (by omega)⟩ ⟨(by omega), (by omega)⟩ dX6_isFull_6 (by decide) (fun c_2 => ?_) (fun c_2 => ?_)
  · refine lv_iconst (v := iv 0) hx hb dX6_isFull_13 (by decide) ?_
    exact sZret Cx hr hlk hW hL (by omega) ⟨rfl, (by omega)⟩ dX6_isFull_14
  · refine lv_iconst (v := iv 1) hx hb dX6_isFull_9 (by decide) ?_
    refine lv_goto (tgt := 14) hx hb dX6_isFull_10 (by decide) ?_
    exact sZret Cx hr hlk hW hL (by omega) ⟨rfl, (by omega)⟩ dX6_isFull_14

set_option maxRecDepth 100000 in
set_option maxHeartbeats 4000000 in
theorem s_X6_keep_120 (l : Launch) (G : sG) (S : sS) {k : Int} (hI : cX G S 0 0 0) (hk : -2147483648 ≤ k ∧ k ≤ 2147483647) : Met l yX6_keep (.code yX6_keep cX6_keep 2 none :: tb) (rmk 2 0 0) (sPc G 294 S [.ref (G.2.2.1 + 120), .int (iv k)]) (sQv G 294 (fun u => cX G u 0 0 0 ∧ Fr S u pW)) 0 0 (sF G) := by
  refine sEnter (by decide) (Nat.le_of_ble_eq_true rfl) ?_
  intro p e s m args below meth c Cx hr hlk hnm hW ls hl
  have Cx : sC G p m c cX6_keep 2 s args RX6 := Cx
  obtain ⟨hx, hb, hml, hown, hts⟩ := id Cx.1
  have hL : sL G [] := sL_nil
  have hl : lv_has ls 2 [(0, .ref (G.2.2.1 + 120)), (1, .int (iv k))] := hl
  have hW0 := hW
  refine lv_aload_n hx hb dX6_keep_0 rfl (lv_at hl 0 rfl) ?_
  refine lv_aload_n hx hb dX6_keep_1 rfl (lv_at hl 0 rfl) ?_
  have q_1 : 0 ≤ S.1 120 9 ∧ S.1 120 9 ≤ 40 := hI.fi 120 9 6 (by decide) rfl
  refine g_X6_50 Cx hW (k := 120) (by decide) rfl (v := S.1 120 9) rfl dX6_keep_2 ?_
  refine lv_iload_n hx hb dX6_keep_5 rfl (lv_at hl 1 rfl) ?_
  refine lv_iconst (v := iv 0) hx hb dX6_keep_6 (by decide) ?_
  refine r_max hx hb (hml.trans hl.1.symm) hown (hts _ w_1571) (hts _ w_242) (hts _ w_206) (hts _ w_243) (rmk_f (by omega)) (rmk_l (by omega) (Nat.le_of_ble_eq_true rfl)) (Nat.le_of_ble_eq_true rfl) (Nat.le_of_ble_eq_true rfl) ⟨(by omega), (by omega)⟩ ⟨(by omega), (by omega)⟩ dX6_keep_7 (fun z_2 hz_2 => ?_)
  refine r_min hx hb (hml.trans hl.1.symm) hown (hts _ w_1572) (hts _ w_777) (hts _ w_206) (hts _ w_778) (rmk_f (by omega)) (rmk_l (by omega) (Nat.le_of_ble_eq_true rfl)) (Nat.le_of_ble_eq_true rfl) (Nat.le_of_ble_eq_true rfl) ⟨(by omega), (by omega)⟩ ⟨(by omega), (by omega)⟩ dX6_keep_10 (fun z_3 hz_3 => ?_)
  refine p_X6_50 Cx hW hL (k := 120) (by decide) rfl dX6_keep_13 (fun H locs hW hL => ?_)
  have F_4 : Fr S (uF S 120 9 z_3) pW := (Fr.rf : Fr S S pW).F rfl
  have i_5 : cX G (uF S 120 9 z_3) 0 0 0 := hI.F rfl rfl (show 0 ≤ z_3 ∧ z_3 ≤ 40 from ⟨by omega, by omega⟩)
  exact sVret Cx hr hlk hW hL ⟨i_5, F_4⟩ dX6_keep_16

set_option maxRecDepth 100000 in
set_option maxHeartbeats 4000000 in
theorem s_X6_keep_193 (l : Launch) (G : sG) (S : sS) {k : Int} (hI : cX G S 0 0 0) (hk : -2147483648 ≤ k ∧ k ≤ 2147483647) : Met l yX6_keep (.code yX6_keep cX6_keep 2 none :: tb) (rmk 2 0 0) (sPc G 294 S [.ref (G.2.2.1 + 193), .int (iv k)]) (sQv G 294 (fun u => cX G u 0 0 0 ∧ Fr S u pW)) 0 0 (sF G) := by
  refine sEnter (by decide) (Nat.le_of_ble_eq_true rfl) ?_
  intro p e s m args below meth c Cx hr hlk hnm hW ls hl
  have Cx : sC G p m c cX6_keep 2 s args RX6 := Cx
  obtain ⟨hx, hb, hml, hown, hts⟩ := id Cx.1
  have hL : sL G [] := sL_nil
  have hl : lv_has ls 2 [(0, .ref (G.2.2.1 + 193)), (1, .int (iv k))] := hl
  have hW0 := hW
  refine lv_aload_n hx hb dX6_keep_0 rfl (lv_at hl 0 rfl) ?_
  refine lv_aload_n hx hb dX6_keep_1 rfl (lv_at hl 0 rfl) ?_
  have q_1 : 0 ≤ S.1 193 9 ∧ S.1 193 9 ≤ 40 := hI.fi 193 9 6 (by decide) rfl
  refine g_X6_50 Cx hW (k := 193) (by decide) rfl (v := S.1 193 9) rfl dX6_keep_2 ?_
  refine lv_iload_n hx hb dX6_keep_5 rfl (lv_at hl 1 rfl) ?_
  refine lv_iconst (v := iv 0) hx hb dX6_keep_6 (by decide) ?_
  refine r_max hx hb (hml.trans hl.1.symm) hown (hts _ w_1571) (hts _ w_242) (hts _ w_206) (hts _ w_243) (rmk_f (by omega)) (rmk_l (by omega) (Nat.le_of_ble_eq_true rfl)) (Nat.le_of_ble_eq_true rfl) (Nat.le_of_ble_eq_true rfl) ⟨(by omega), (by omega)⟩ ⟨(by omega), (by omega)⟩ dX6_keep_7 (fun z_2 hz_2 => ?_)
  refine r_min hx hb (hml.trans hl.1.symm) hown (hts _ w_1572) (hts _ w_777) (hts _ w_206) (hts _ w_778) (rmk_f (by omega)) (rmk_l (by omega) (Nat.le_of_ble_eq_true rfl)) (Nat.le_of_ble_eq_true rfl) (Nat.le_of_ble_eq_true rfl) ⟨(by omega), (by omega)⟩ ⟨(by omega), (by omega)⟩ dX6_keep_10 (fun z_3 hz_3 => ?_)
  refine p_X6_50 Cx hW hL (k := 193) (by decide) rfl dX6_keep_13 (fun H locs hW hL => ?_)
  have F_4 : Fr S (uF S 193 9 z_3) pW := (Fr.rf : Fr S S pW).F rfl
  have i_5 : cX G (uF S 193 9 z_3) 0 0 0 := hI.F rfl rfl (show 0 ≤ z_3 ∧ z_3 ≤ 40 from ⟨by omega, by omega⟩)
  exact sVret Cx hr hlk hW hL ⟨i_5, F_4⟩ dX6_keep_16

set_option maxRecDepth 100000 in
set_option maxHeartbeats 4000000 in
theorem s_X6_number_120 (l : Launch) (G : sG) (S : sS) {v : Nat} {k j : Int} (hI : cX G S 0 0 0) (hv : tau v = .inl 0) (hk : 0 ≤ k ∧ k ≤ 40) (hj : 0 ≤ j ∧ j ≤ 12) : Met l yX6_number (.code yX6_number cX6_number 4 none :: tb) (rmk 3 0 0) (sPc G 294 S [.ref (G.2.2.1 + 120), .int (iv k), .int (iv j), .ref (G.2.2.1 + v)]) (sQv G 294 (fun u => cX G u 0 0 0 ∧ Fr S u (pB v) ∧ (u.1 v 1 ≤ 7))) 0 0 (sF G) := by
  refine sEnter (by decide) (Nat.le_of_ble_eq_true rfl) ?_
  intro p e s m args below meth c Cx hr hlk hnm hW ls hl
  have Cx : sC G p m c cX6_number 4 s args RX6 := Cx
  obtain ⟨hx, hb, hml, hown, hts⟩ := id Cx.1
  have hL : sL G [] := sL_nil
  have hl : lv_has ls 4 [(0, .ref (G.2.2.1 + 120)), (1, .int (iv k)), (2, .int (iv j)), (3, .ref (G.2.2.1 + v))] := hl
  have hW0 := hW
  refine lv_aload_n hx hb dX6_number_0 rfl (lv_at hl 3 rfl) ?_
  refine lv_aload_n hx hb dX6_number_1 rfl (lv_at hl 0 rfl) ?_
  refine g_X6_13 Cx hW (k := 120) (by decide) rfl (v := .ref (G.2.2.1 + 121)) (rf_120_0 hI) dX6_number_2 ?_
  refine lv_iload_n hx hb dX6_number_5 rfl (lv_at hl 1 rfl) ?_
  refine lv_iload_n hx hb dX6_number_6 rfl (lv_at hl 2 rfl) ?_
  refine sBi (sSt (As := [.int (iv k), .int (iv j)]) (rest := [.ref (G.2.2.1 + 121), .ref (G.2.2.1 + v)]) Cx (s_X6_at l G S (k := k) (j := j) (by omega) (by omega)) (c_X6_53 Cx rfl rfl (rmk_ok (by omega) (by decide))) hW rfl hl.1 rfl (Nat.le_of_ble_eq_true rfl) dX6_number_7 ⟨Nat.le_of_ble_eq_true rfl, Nat.le_of_ble_eq_true rfl⟩) hL (fun r_3 u_1 H locs k_2 hW hL => ?_)
  obtain ⟨eu_1, xu_1⟩ := k_2
  rw [eu_1] at hW
  refine sBv (sV (As := [.ref (G.2.2.1 + 121), .int (iv r_3)]) (rest := []) (k := v) Cx (s_X0_load l G S (o := v) (k := 121) (a := r_3) (N := 4264) hI hv ⟨by decide, rfl, by decide, rfl, rfl, rfl⟩ (by omega)) (c_X6_75 Cx rfl rfl (rmk_ok (by omega) (by decide))) hW (big_l hv) hv rfl rfl hl.1 rfl (Nat.le_of_ble_eq_true rfl) dX6_number_10 ⟨Nat.le_of_ble_eq_true rfl, Nat.le_of_ble_eq_true rfl⟩) hL (fun u_4 H locs k_5 hW hL => ?_)
  obtain ⟨iu_4, fu_4, xu_4⟩ := k_5
  have F_6 := (Fr.rf : Fr S S (pB v)).trans fu_4
  have yu_4 : u_4.1 v 1 ≤ 7 := xu_4.1
  have q_7 : 0 ≤ u_4.1 v 1 ∧ u_4.1 v 1 ≤ 32 := iu_4.fi v 1 0 (big_lt hv) hv
  exact sVret Cx hr hlk hW hL ⟨iu_4, F_6, (by omega)⟩ dX6_number_13

set_option maxRecDepth 100000 in
set_option maxHeartbeats 4000000 in
theorem s_X6_number_193 (l : Launch) (G : sG) (S : sS) {v : Nat} {k j : Int} (hI : cX G S 0 0 0) (hv : tau v = .inl 0) (hk : 0 ≤ k ∧ k ≤ 40) (hj : 0 ≤ j ∧ j ≤ 12) : Met l yX6_number (.code yX6_number cX6_number 4 none :: tb) (rmk 3 0 0) (sPc G 294 S [.ref (G.2.2.1 + 193), .int (iv k), .int (iv j), .ref (G.2.2.1 + v)]) (sQv G 294 (fun u => cX G u 0 0 0 ∧ Fr S u (pB v) ∧ (u.1 v 1 ≤ 7))) 0 0 (sF G) := by
  refine sEnter (by decide) (Nat.le_of_ble_eq_true rfl) ?_
  intro p e s m args below meth c Cx hr hlk hnm hW ls hl
  have Cx : sC G p m c cX6_number 4 s args RX6 := Cx
  obtain ⟨hx, hb, hml, hown, hts⟩ := id Cx.1
  have hL : sL G [] := sL_nil
  have hl : lv_has ls 4 [(0, .ref (G.2.2.1 + 193)), (1, .int (iv k)), (2, .int (iv j)), (3, .ref (G.2.2.1 + v))] := hl
  have hW0 := hW
  refine lv_aload_n hx hb dX6_number_0 rfl (lv_at hl 3 rfl) ?_
  refine lv_aload_n hx hb dX6_number_1 rfl (lv_at hl 0 rfl) ?_
  refine g_X6_13 Cx hW (k := 193) (by decide) rfl (v := .ref (G.2.2.1 + 194)) (rf_193_0 hI) dX6_number_2 ?_
  refine lv_iload_n hx hb dX6_number_5 rfl (lv_at hl 1 rfl) ?_
  refine lv_iload_n hx hb dX6_number_6 rfl (lv_at hl 2 rfl) ?_
  refine sBi (sSt (As := [.int (iv k), .int (iv j)]) (rest := [.ref (G.2.2.1 + 194), .ref (G.2.2.1 + v)]) Cx (s_X6_at l G S (k := k) (j := j) (by omega) (by omega)) (c_X6_53 Cx rfl rfl (rmk_ok (by omega) (by decide))) hW rfl hl.1 rfl (Nat.le_of_ble_eq_true rfl) dX6_number_7 ⟨Nat.le_of_ble_eq_true rfl, Nat.le_of_ble_eq_true rfl⟩) hL (fun r_3 u_1 H locs k_2 hW hL => ?_)
  obtain ⟨eu_1, xu_1⟩ := k_2
  rw [eu_1] at hW
  refine sBv (sV (As := [.ref (G.2.2.1 + 194), .int (iv r_3)]) (rest := []) (k := v) Cx (s_X0_load l G S (o := v) (k := 194) (a := r_3) (N := 4264) hI hv ⟨by decide, rfl, by decide, rfl, rfl, rfl⟩ (by omega)) (c_X6_75 Cx rfl rfl (rmk_ok (by omega) (by decide))) hW (big_l hv) hv rfl rfl hl.1 rfl (Nat.le_of_ble_eq_true rfl) dX6_number_10 ⟨Nat.le_of_ble_eq_true rfl, Nat.le_of_ble_eq_true rfl⟩) hL (fun u_4 H locs k_5 hW hL => ?_)
  obtain ⟨iu_4, fu_4, xu_4⟩ := k_5
  have F_6 := (Fr.rf : Fr S S (pB v)).trans fu_4
  have yu_4 : u_4.1 v 1 ≤ 7 := xu_4.1
  have q_7 : 0 ≤ u_4.1 v 1 ∧ u_4.1 v 1 ≤ 32 := iu_4.fi v 1 0 (big_lt hv) hv
  exact sVret Cx hr hlk hW hL ⟨iu_4, F_6, (by omega)⟩ dX6_number_13

set_option maxRecDepth 100000 in
set_option maxHeartbeats 4000000 in
theorem s_X6_lowBits_120 (l : Launch) (G : sG) (S : sS) {k j : Int} (hI : cX G S 0 0 0) (hk : -2147483648 ≤ k ∧ k ≤ 2147483647) (hj : -2147483648 ≤ j ∧ j ≤ 2147483647) : Met l yX6_lowBits (.code yX6_lowBits cX6_lowBits 3 (some .long) :: tb) (rmk 3 0 0) (sPc G 294 S [.ref (G.2.2.1 + 120), .int (iv k), .int (iv j)]) (sQl G 294 (fun r u => cX G u 0 0 0 ∧ Fr S u pN ∧ (-9223372036854775808 ≤ r ∧ r ≤ 9223372036854775807))) 0 0 (sF G) := by
  refine sEnter (by decide) (Nat.le_of_ble_eq_true rfl) ?_
  intro p e s m args below meth c Cx hr hlk hnm hW ls hl
  have Cx : sC G p m c cX6_lowBits 3 s args RX6 := Cx
  obtain ⟨hx, hb, hml, hown, hts⟩ := id Cx.1
  have hL : sL G [] := sL_nil
  have hl : lv_has ls 3 [(0, .ref (G.2.2.1 + 120)), (1, .int (iv k)), (2, .int (iv j))] := hl
  have hW0 := hW
  refine lv_iload_n hx hb dX6_lowBits_0 rfl (lv_at hl 1 rfl) ?_
  refine r_if_lt (tgt := 24) hx hb ⟨(by omega), (by omega)⟩ dX6_lowBits_1 (by decide) (fun c_1 => ?_) (fun c_1 => ?_)
  · refine lv_lconst (v := jv 0) hx hb dX6_lowBits_24 (by decide) ?_
    exact sLret Cx hr hlk hW hL ⟨hI, (Fr.rf : Fr S S pN), (by omega)⟩ dX6_lowBits_25
  · refine lv_iload_n hx hb dX6_lowBits_4 rfl (lv_at hl 1 rfl) ?_
    refine lv_aload_n hx hb dX6_lowBits_5 rfl (lv_at hl 0 rfl) ?_
    have q_2 : 0 ≤ S.1 120 9 ∧ S.1 120 9 ≤ 40 := hI.fi 120 9 6 (by decide) rfl
    refine g_X6_50 Cx hW (k := 120) (by decide) rfl (v := S.1 120 9) rfl dX6_lowBits_6 ?_
    refine r_icmp_gt (tgt := 24) hx hb ⟨(by omega), (by omega)⟩ ⟨(by omega), (by omega)⟩ dX6_lowBits_9 (by decide) (fun c_3 => ?_) (fun c_3 => ?_)
    · refine lv_lconst (v := jv 0) hx hb dX6_lowBits_24 (by decide) ?_
      exact sLret Cx hr hlk hW hL ⟨hI, (Fr.rf : Fr S S pN), (by omega)⟩ dX6_lowBits_25
    · refine lv_iload_n hx hb dX6_lowBits_12 rfl (lv_at hl 2 rfl) ?_
      refine r_if_lt (tgt := 24) hx hb ⟨(by omega), (by omega)⟩ dX6_lowBits_13 (by decide) (fun c_4 => ?_) (fun c_4 => ?_)
      · refine lv_lconst (v := jv 0) hx hb dX6_lowBits_24 (by decide) ?_
        exact sLret Cx hr hlk hW hL ⟨hI, (Fr.rf : Fr S S pN), (by omega)⟩ dX6_lowBits_25
      · refine lv_iload_n hx hb dX6_lowBits_16 rfl (lv_at hl 2 rfl) ?_
        refine lv_aload_n hx hb dX6_lowBits_17 rfl (lv_at hl 0 rfl) ?_
        have q_5 : 0 ≤ S.1 120 8 ∧ S.1 120 8 ≤ 12 := hI.fi 120 8 6 (by decide) rfl
        refine g_X6_46 Cx hW (k := 120) (by decide) rfl (v := S.1 120 8) rfl dX6_lowBits_18 ?_
        refine r_icmp_le (tgt := 26) hx hb ⟨(by omega), (by omega)⟩ ⟨(by omega), (by omega)⟩ dX6_lowBits_21 (by decide) (fun c_6 => ?_) (fun c_6 => ?_)
        · refine lv_aload_n hx hb dX6_lowBits_26 rfl (lv_at hl 0 rfl) ?_
          refine g_X6_21 Cx hW (k := 120) (by decide) rfl (v := .ref (G.2.2.1 + 123)) (rf_120_2 hI) dX6_lowBits_27 ?_
          refine lv_aload_n hx hb dX6_lowBits_30 rfl (lv_at hl 0 rfl) ?_
          refine g_X6_13 Cx hW (k := 120) (by decide) rfl (v := .ref (G.2.2.1 + 121)) (rf_120_0 hI) dX6_lowBits_31 ?_
          refine lv_iload_n hx hb dX6_lowBits_34 rfl (lv_at hl 1 rfl) ?_
          refine lv_iload_n hx hb dX6_lowBits_35 rfl (lv_at hl 2 rfl) ?_
          refine sBi (sSt (As := [.int (iv k), .int (iv j)]) (rest := [.ref (G.2.2.1 + 121), .ref (G.2.2.1 + 123)]) Cx (s_X6_at l G S (k := k) (j := j) (by omega) (by omega)) (c_X6_53 Cx rfl rfl (rmk_ok (by omega) (by decide))) hW rfl hl.1 rfl (Nat.le_of_ble_eq_true rfl) dX6_lowBits_36 ⟨Nat.le_of_ble_eq_true rfl, Nat.le_of_ble_eq_true rfl⟩) hL (fun r_9 u_7 H locs k_8 hW hL => ?_)
          obtain ⟨eu_7, xu_7⟩ := k_8
          rw [eu_7] at hW
          refine sBv (sV (As := [.ref (G.2.2.1 + 121), .int (iv r_9)]) (rest := []) (k := 123) Cx (s_X0_load l G S (o := 123) (k := 121) (a := r_9) (N := 4264) hI rfl ⟨by decide, rfl, by decide, rfl, rfl, rfl⟩ (by omega)) (c_X6_75 Cx rfl rfl (rmk_ok (by omega) (by decide))) hW (by decide) rfl rfl rfl hl.1 rfl (Nat.le_of_ble_eq_true rfl) dX6_lowBits_39 ⟨Nat.le_of_ble_eq_true rfl, Nat.le_of_ble_eq_true rfl⟩) hL (fun u_10 H locs k_11 hW hL => ?_)
          obtain ⟨iu_10, fu_10, xu_10⟩ := k_11
          have F_12 := (Fr.rf : Fr S S pN).trans (fu_10.to (pB_sub rfl rfl))
          have yu_10 : u_10.1 123 1 ≤ 7 := xu_10.1
          refine lv_aload_n hx hb dX6_lowBits_42 rfl (lv_at hl 0 rfl) ?_
          refine g_X6_21 Cx hW (k := 120) (by decide) rfl (v := .ref (G.2.2.1 + 123)) (rf_120_2 iu_10) dX6_lowBits_43 ?_
          refine sBl (sV (As := []) (rest := []) (k := 123) Cx (s_X0_lowBits l G u_10 (o := 123) iu_10 rfl) (c_X6_79 Cx rfl rfl (rmk_ok (by omega) (by decide))) hW (by decide) rfl rfl rfl hl.1 rfl (Nat.le_of_ble_eq_true rfl) dX6_lowBits_46 ⟨Nat.le_of_ble_eq_true rfl, Nat.le_of_ble_eq_true rfl⟩) hL (fun r_15 u_13 H locs k_14 hW hL => ?_)
          obtain ⟨eu_13, xu_13⟩ := k_14
          rw [eu_13] at hW
          exact sLret Cx hr hlk hW hL ⟨iu_10, F_12, (by omega)⟩ dX6_lowBits_49
        · refine lv_lconst (v := jv 0) hx hb dX6_lowBits_24 (by decide) ?_
          exact sLret Cx hr hlk hW hL ⟨hI, (Fr.rf : Fr S S pN), (by omega)⟩ dX6_lowBits_25

set_option maxRecDepth 100000 in
set_option maxHeartbeats 4000000 in
theorem s_X6_lowBits_193 (l : Launch) (G : sG) (S : sS) {k j : Int} (hI : cX G S 0 0 0) (hk : -2147483648 ≤ k ∧ k ≤ 2147483647) (hj : -2147483648 ≤ j ∧ j ≤ 2147483647) : Met l yX6_lowBits (.code yX6_lowBits cX6_lowBits 3 (some .long) :: tb) (rmk 3 0 0) (sPc G 294 S [.ref (G.2.2.1 + 193), .int (iv k), .int (iv j)]) (sQl G 294 (fun r u => cX G u 0 0 0 ∧ Fr S u pN ∧ (-9223372036854775808 ≤ r ∧ r ≤ 9223372036854775807))) 0 0 (sF G) := by
  refine sEnter (by decide) (Nat.le_of_ble_eq_true rfl) ?_
  intro p e s m args below meth c Cx hr hlk hnm hW ls hl
  have Cx : sC G p m c cX6_lowBits 3 s args RX6 := Cx
  obtain ⟨hx, hb, hml, hown, hts⟩ := id Cx.1
  have hL : sL G [] := sL_nil
  have hl : lv_has ls 3 [(0, .ref (G.2.2.1 + 193)), (1, .int (iv k)), (2, .int (iv j))] := hl
  have hW0 := hW
  refine lv_iload_n hx hb dX6_lowBits_0 rfl (lv_at hl 1 rfl) ?_
  refine r_if_lt (tgt := 24) hx hb ⟨(by omega), (by omega)⟩ dX6_lowBits_1 (by decide) (fun c_1 => ?_) (fun c_1 => ?_)
  · refine lv_lconst (v := jv 0) hx hb dX6_lowBits_24 (by decide) ?_
    exact sLret Cx hr hlk hW hL ⟨hI, (Fr.rf : Fr S S pN), (by omega)⟩ dX6_lowBits_25
  · refine lv_iload_n hx hb dX6_lowBits_4 rfl (lv_at hl 1 rfl) ?_
    refine lv_aload_n hx hb dX6_lowBits_5 rfl (lv_at hl 0 rfl) ?_
    have q_2 : 0 ≤ S.1 193 9 ∧ S.1 193 9 ≤ 40 := hI.fi 193 9 6 (by decide) rfl
    refine g_X6_50 Cx hW (k := 193) (by decide) rfl (v := S.1 193 9) rfl dX6_lowBits_6 ?_
    refine r_icmp_gt (tgt := 24) hx hb ⟨(by omega), (by omega)⟩ ⟨(by omega), (by omega)⟩ dX6_lowBits_9 (by decide) (fun c_3 => ?_) (fun c_3 => ?_)
    · refine lv_lconst (v := jv 0) hx hb dX6_lowBits_24 (by decide) ?_
      exact sLret Cx hr hlk hW hL ⟨hI, (Fr.rf : Fr S S pN), (by omega)⟩ dX6_lowBits_25
    · refine lv_iload_n hx hb dX6_lowBits_12 rfl (lv_at hl 2 rfl) ?_
      refine r_if_lt (tgt := 24) hx hb ⟨(by omega), (by omega)⟩ dX6_lowBits_13 (by decide) (fun c_4 => ?_) (fun c_4 => ?_)
      · refine lv_lconst (v := jv 0) hx hb dX6_lowBits_24 (by decide) ?_
        exact sLret Cx hr hlk hW hL ⟨hI, (Fr.rf : Fr S S pN), (by omega)⟩ dX6_lowBits_25
      · refine lv_iload_n hx hb dX6_lowBits_16 rfl (lv_at hl 2 rfl) ?_
        refine lv_aload_n hx hb dX6_lowBits_17 rfl (lv_at hl 0 rfl) ?_
        have q_5 : 0 ≤ S.1 193 8 ∧ S.1 193 8 ≤ 12 := hI.fi 193 8 6 (by decide) rfl
        refine g_X6_46 Cx hW (k := 193) (by decide) rfl (v := S.1 193 8) rfl dX6_lowBits_18 ?_
        refine r_icmp_le (tgt := 26) hx hb ⟨(by omega), (by omega)⟩ ⟨(by omega), (by omega)⟩ dX6_lowBits_21 (by decide) (fun c_6 => ?_) (fun c_6 => ?_)
        · refine lv_aload_n hx hb dX6_lowBits_26 rfl (lv_at hl 0 rfl) ?_
          refine g_X6_21 Cx hW (k := 193) (by decide) rfl (v := .ref (G.2.2.1 + 196)) (rf_193_2 hI) dX6_lowBits_27 ?_
          refine lv_aload_n hx hb dX6_lowBits_30 rfl (lv_at hl 0 rfl) ?_
          refine g_X6_13 Cx hW (k := 193) (by decide) rfl (v := .ref (G.2.2.1 + 194)) (rf_193_0 hI) dX6_lowBits_31 ?_
          refine lv_iload_n hx hb dX6_lowBits_34 rfl (lv_at hl 1 rfl) ?_
          refine lv_iload_n hx hb dX6_lowBits_35 rfl (lv_at hl 2 rfl) ?_
          refine sBi (sSt (As := [.int (iv k), .int (iv j)]) (rest := [.ref (G.2.2.1 + 194), .ref (G.2.2.1 + 196)]) Cx (s_X6_at l G S (k := k) (j := j) (by omega) (by omega)) (c_X6_53 Cx rfl rfl (rmk_ok (by omega) (by decide))) hW rfl hl.1 rfl (Nat.le_of_ble_eq_true rfl) dX6_lowBits_36 ⟨Nat.le_of_ble_eq_true rfl, Nat.le_of_ble_eq_true rfl⟩) hL (fun r_9 u_7 H locs k_8 hW hL => ?_)
          obtain ⟨eu_7, xu_7⟩ := k_8
          rw [eu_7] at hW
          refine sBv (sV (As := [.ref (G.2.2.1 + 194), .int (iv r_9)]) (rest := []) (k := 196) Cx (s_X0_load l G S (o := 196) (k := 194) (a := r_9) (N := 4264) hI rfl ⟨by decide, rfl, by decide, rfl, rfl, rfl⟩ (by omega)) (c_X6_75 Cx rfl rfl (rmk_ok (by omega) (by decide))) hW (by decide) rfl rfl rfl hl.1 rfl (Nat.le_of_ble_eq_true rfl) dX6_lowBits_39 ⟨Nat.le_of_ble_eq_true rfl, Nat.le_of_ble_eq_true rfl⟩) hL (fun u_10 H locs k_11 hW hL => ?_)
          obtain ⟨iu_10, fu_10, xu_10⟩ := k_11
          have F_12 := (Fr.rf : Fr S S pN).trans (fu_10.to (pB_sub rfl rfl))
          have yu_10 : u_10.1 196 1 ≤ 7 := xu_10.1
          refine lv_aload_n hx hb dX6_lowBits_42 rfl (lv_at hl 0 rfl) ?_
          refine g_X6_21 Cx hW (k := 193) (by decide) rfl (v := .ref (G.2.2.1 + 196)) (rf_193_2 iu_10) dX6_lowBits_43 ?_
          refine sBl (sV (As := []) (rest := []) (k := 196) Cx (s_X0_lowBits l G u_10 (o := 196) iu_10 rfl) (c_X6_79 Cx rfl rfl (rmk_ok (by omega) (by decide))) hW (by decide) rfl rfl rfl hl.1 rfl (Nat.le_of_ble_eq_true rfl) dX6_lowBits_46 ⟨Nat.le_of_ble_eq_true rfl, Nat.le_of_ble_eq_true rfl⟩) hL (fun r_15 u_13 H locs k_14 hW hL => ?_)
          obtain ⟨eu_13, xu_13⟩ := k_14
          rw [eu_13] at hW
          exact sLret Cx hr hlk hW hL ⟨iu_10, F_12, (by omega)⟩ dX6_lowBits_49
        · refine lv_lconst (v := jv 0) hx hb dX6_lowBits_24 (by decide) ?_
          exact sLret Cx hr hlk hW hL ⟨hI, (Fr.rf : Fr S S pN), (by omega)⟩ dX6_lowBits_25

set_option maxRecDepth 100000 in
set_option maxHeartbeats 4000000 in
theorem s_X6_clearFactors_120 (l : Launch) (G : sG) (S : sS)  (hI : cX G S 0 0 0) : Met l yX6_clearFactors (.code yX6_clearFactors cX6_clearFactors 2 none :: tb) (rmk 1 0 0) (sPc G 294 S [.ref (G.2.2.1 + 120)]) (sQv G 294 (fun u => cX G u 0 0 0 ∧ Fr S u (p1 122))) 0 0 (sF G) := by
  refine sEnter (by decide) (Nat.le_of_ble_eq_true rfl) ?_
  intro p e s m args below meth c Cx hr hlk hnm hW ls hl
  have Cx : sC G p m c cX6_clearFactors 2 s args RX6 := Cx
  obtain ⟨hx, hb, hml, hown, hts⟩ := id Cx.1
  have hL : sL G [] := sL_nil
  have hl : lv_has ls 2 [(0, .ref (G.2.2.1 + 120))] := hl
  have hW0 := hW
  refine lv_iconst (v := iv 0) hx hb dX6_clearFactors_0 (by decide) ?_
  refine lv_istore_n (lv' := [(1, .int (iv 0)), (0, .ref (G.2.2.1 + 120))]) hx hb dX6_clearFactors_1 rfl hl (by decide) rfl (fun ls hl => ?_)
  have loop_2 : ∀ (fuel : Nat) (S2 : sS) (k : Int) (H : Heap) (locs : List Loc) (ls : Array Slot), (41 - k).toNat < fuel → (cX G S2 0 0 0) → (Fr S S2 (p1 122)) → (Fr S S2 (p1 122)) → (0 ≤ k ∧ k ≤ 41) → sW G 294 S2 H → sL G locs → lv_has ls 2 [(1, .int (iv k)), (0, .ref (G.2.2.1 + 120))] → W p l e (rmk 1 0 0) s m args below meth c H locs 0 0 (MQ below (sQv G 294 (fun u => cX G u 0 0 0 ∧ Fr S u (p1 122))) args s 0 0 (sF G)) (F0 m 2 ls []) := by
    intro fuel
    induction fuel with
    | zero => intro S2 k H locs ls hmeas hI2 hFm2 hL2_ hk hW hL hl; exact absurd hmeas (Nat.not_lt_zero _)
    | succ fuel ih_2 =>
      intro S2 k H locs ls hmeas hI2 hFm2 hL2_ hk hW hL hl
      refine lv_iload_n hx hb dX6_clearFactors_2 rfl (lv_at hl 0 rfl) ?_
      refine lv_bipush (v := iv 40) hx hb dX6_clearFactors_3 (by decide) ?_
      refine r_icmp_gt (tgt := 24) hx hb ⟨(by omega), (by omega)⟩ ⟨(by omega), (by omega)⟩ dX6_clearFactors_5 (by decide) (fun c_1 => ?_) (fun c_1 => ?_)
      · exact sVret Cx hr hlk hW hL ⟨hI2, hFm2⟩ dX6_clearFactors_24
      · refine lv_aload_n hx hb dX6_clearFactors_8 rfl (lv_at hl 1 rfl) ?_
        refine g_X6_17 Cx hW (k := 120) (by decide) rfl (v := .ref (G.2.2.1 + 122)) (rf_120_1 hI2) dX6_clearFactors_9 ?_
        refine lv_iload_n hx hb dX6_clearFactors_12 rfl (lv_at hl 0 rfl) ?_
        refine lv_bipush (v := iv 8) hx hb dX6_clearFactors_13 (by decide) ?_
        refine r_imul hx hb dX6_clearFactors_15 ?_
        refine lv_iconst (v := iv 0) hx hb dX6_clearFactors_16 (by decide) ?_
        have hz : SlotOK (S2.2.1 122) (k * 8) 7 999999999 := hI2.sl (k := 122) (by omega) (by omega) (show _ < (328 : Int) by omega)
        have j_2 := hI2.exS 122 (k * 8)
        refine rIast Cx hW hL (k := 122) (by decide) rfl (by decide) (by omega) (by omega) dX6_clearFactors_17 (fun H locs hW hL => ?_)
        have F_3 : Fr S (uA S2 122 (k * 8) 0) (p1 122) := hFm2.A rfl
        have F_4 : Fr S (uA S2 122 (k * 8) 0) (p1 122) := hL2_.A rfl
        have i_5 : cX G (uA S2 122 (k * 8) 0) 0 122 (k * 8) := j_2.slot rfl ⟨by omega, by omega, by omega⟩ ⟨(by omega), (by omega)⟩ (fun q _ => by omega)
        have j_6 : cX G (uA S2 122 (k * 8) 0) 0 0 0 := i_5.inS (fun _ => slot0 hz (by decide) uA_on (fun i i0 i1 => uA_ne (by omega)))
        refine lv_iinc (v := iv (k + 1)) (lv' := [(1, .int (iv (k + 1))), (0, .ref (G.2.2.1 + 120))]) hx hb dX6_clearFactors_18 hl (k := 0) rfl ((Int32.ofInt_add _ _).symm) (by decide) rfl (fun ls hl => ?_)
        refine lv_goto (tgt := 2) hx hb dX6_clearFactors_21 (by decide) ?_
        exact ih_2 (uA S2 122 (k * 8) 0) (k + 1) _ _ _ (by omega) j_6 F_3 F_4 (by omega) hW hL (lv_sub hl [0, 1] rfl)
  exact loop_2 (_ + 1) S 0 _ _ _ (Nat.lt_succ_self _) hI (Fr.rf : Fr S S (p1 122)) Fr.rf (by omega) hW hL (lv_sub hl [0, 1] rfl)

set_option maxRecDepth 100000 in
set_option maxHeartbeats 4000000 in
theorem s_X6_clearFactors_193 (l : Launch) (G : sG) (S : sS)  (hI : cX G S 0 0 0) : Met l yX6_clearFactors (.code yX6_clearFactors cX6_clearFactors 2 none :: tb) (rmk 1 0 0) (sPc G 294 S [.ref (G.2.2.1 + 193)]) (sQv G 294 (fun u => cX G u 0 0 0 ∧ Fr S u (p1 195))) 0 0 (sF G) := by
  refine sEnter (by decide) (Nat.le_of_ble_eq_true rfl) ?_
  intro p e s m args below meth c Cx hr hlk hnm hW ls hl
  have Cx : sC G p m c cX6_clearFactors 2 s args RX6 := Cx
  obtain ⟨hx, hb, hml, hown, hts⟩ := id Cx.1
  have hL : sL G [] := sL_nil
  have hl : lv_has ls 2 [(0, .ref (G.2.2.1 + 193))] := hl
  have hW0 := hW
  refine lv_iconst (v := iv 0) hx hb dX6_clearFactors_0 (by decide) ?_
  refine lv_istore_n (lv' := [(1, .int (iv 0)), (0, .ref (G.2.2.1 + 193))]) hx hb dX6_clearFactors_1 rfl hl (by decide) rfl (fun ls hl => ?_)
  have loop_2 : ∀ (fuel : Nat) (S2 : sS) (k : Int) (H : Heap) (locs : List Loc) (ls : Array Slot), (41 - k).toNat < fuel → (cX G S2 0 0 0) → (Fr S S2 (p1 195)) → (Fr S S2 (p1 195)) → (0 ≤ k ∧ k ≤ 41) → sW G 294 S2 H → sL G locs → lv_has ls 2 [(1, .int (iv k)), (0, .ref (G.2.2.1 + 193))] → W p l e (rmk 1 0 0) s m args below meth c H locs 0 0 (MQ below (sQv G 294 (fun u => cX G u 0 0 0 ∧ Fr S u (p1 195))) args s 0 0 (sF G)) (F0 m 2 ls []) := by
    intro fuel
    induction fuel with
    | zero => intro S2 k H locs ls hmeas hI2 hFm2 hL2_ hk hW hL hl; exact absurd hmeas (Nat.not_lt_zero _)
    | succ fuel ih_2 =>
      intro S2 k H locs ls hmeas hI2 hFm2 hL2_ hk hW hL hl
      refine lv_iload_n hx hb dX6_clearFactors_2 rfl (lv_at hl 0 rfl) ?_
      refine lv_bipush (v := iv 40) hx hb dX6_clearFactors_3 (by decide) ?_
      refine r_icmp_gt (tgt := 24) hx hb ⟨(by omega), (by omega)⟩ ⟨(by omega), (by omega)⟩ dX6_clearFactors_5 (by decide) (fun c_1 => ?_) (fun c_1 => ?_)
      · exact sVret Cx hr hlk hW hL ⟨hI2, hFm2⟩ dX6_clearFactors_24
      · refine lv_aload_n hx hb dX6_clearFactors_8 rfl (lv_at hl 1 rfl) ?_
        refine g_X6_17 Cx hW (k := 193) (by decide) rfl (v := .ref (G.2.2.1 + 195)) (rf_193_1 hI2) dX6_clearFactors_9 ?_
        refine lv_iload_n hx hb dX6_clearFactors_12 rfl (lv_at hl 0 rfl) ?_
        refine lv_bipush (v := iv 8) hx hb dX6_clearFactors_13 (by decide) ?_
        refine r_imul hx hb dX6_clearFactors_15 ?_
        refine lv_iconst (v := iv 0) hx hb dX6_clearFactors_16 (by decide) ?_
        have hz : SlotOK (S2.2.1 195) (k * 8) 7 999999999 := hI2.sl (k := 195) (by omega) (by omega) (show _ < (328 : Int) by omega)
        have j_2 := hI2.exS 195 (k * 8)
        refine rIast Cx hW hL (k := 195) (by decide) rfl (by decide) (by omega) (by omega) dX6_clearFactors_17 (fun H locs hW hL => ?_)
        have F_3 : Fr S (uA S2 195 (k * 8) 0) (p1 195) := hFm2.A rfl
        have F_4 : Fr S (uA S2 195 (k * 8) 0) (p1 195) := hL2_.A rfl
        have i_5 : cX G (uA S2 195 (k * 8) 0) 0 195 (k * 8) := j_2.slot rfl ⟨by omega, by omega, by omega⟩ ⟨(by omega), (by omega)⟩ (fun q _ => by omega)
        have j_6 : cX G (uA S2 195 (k * 8) 0) 0 0 0 := i_5.inS (fun _ => slot0 hz (by decide) uA_on (fun i i0 i1 => uA_ne (by omega)))
        refine lv_iinc (v := iv (k + 1)) (lv' := [(1, .int (iv (k + 1))), (0, .ref (G.2.2.1 + 193))]) hx hb dX6_clearFactors_18 hl (k := 0) rfl ((Int32.ofInt_add _ _).symm) (by decide) rfl (fun ls hl => ?_)
        refine lv_goto (tgt := 2) hx hb dX6_clearFactors_21 (by decide) ?_
        exact ih_2 (uA S2 195 (k * 8) 0) (k + 1) _ _ _ (by omega) j_6 F_3 F_4 (by omega) hW hL (lv_sub hl [0, 1] rfl)
  exact loop_2 (_ + 1) S 0 _ _ _ (Nat.lt_succ_self _) hI (Fr.rf : Fr S S (p1 195)) Fr.rf (by omega) hW hL (lv_sub hl [0, 1] rfl)

set_option maxRecDepth 100000 in
set_option maxHeartbeats 4000000 in
theorem s_X6_setFactor_120 (l : Launch) (G : sG) (S : sS) {v : Nat} {k : Int} (hI : cX G S 0 0 0) (hv : tau v = .inl 0) (hk : 0 ≤ k ∧ k ≤ 40) (hc : S.1 v 1 ≤ 7) : Met l yX6_setFactor (.code yX6_setFactor cX6_setFactor 3 none :: tb) (rmk 3 0 0) (sPc G 294 S [.ref (G.2.2.1 + 120), .int (iv k), .ref (G.2.2.1 + v)]) (sQv G 294 (fun u => cX G u 0 0 0 ∧ Fr S u (p1 122))) 0 0 (sF G) := by
  refine sEnter (by decide) (Nat.le_of_ble_eq_true rfl) ?_
  intro p e s m args below meth c Cx hr hlk hnm hW ls hl
  have Cx : sC G p m c cX6_setFactor 3 s args RX6 := Cx
  obtain ⟨hx, hb, hml, hown, hts⟩ := id Cx.1
  have hL : sL G [] := sL_nil
  have hl : lv_has ls 3 [(0, .ref (G.2.2.1 + 120)), (1, .int (iv k)), (2, .ref (G.2.2.1 + v))] := hl
  have hW0 := hW
  refine lv_aload_n hx hb dX6_setFactor_0 rfl (lv_at hl 2 rfl) ?_
  refine lv_aload_n hx hb dX6_setFactor_1 rfl (lv_at hl 0 rfl) ?_
  refine g_X6_17 Cx hW (k := 120) (by decide) rfl (v := .ref (G.2.2.1 + 122)) (rf_120_1 hI) dX6_setFactor_2 ?_
  refine lv_iload_n hx hb dX6_setFactor_5 rfl (lv_at hl 1 rfl) ?_
  refine lv_bipush (v := iv 8) hx hb dX6_setFactor_6 (by decide) ?_
  refine r_imul hx hb dX6_setFactor_8 ?_
  have q_1 : 0 ≤ S.1 v 1 ∧ S.1 v 1 ≤ 32 := hI.fi v 1 0 (big_lt hv) hv
  have q_2 : (-1) ≤ S.1 v 2 ∧ S.1 v 2 ≤ 1 := hI.fi v 2 0 (big_lt hv) hv
  refine sBv (sV (As := [.ref (G.2.2.1 + 122), .int (iv (k * 8))]) (rest := []) (k := v) Cx (s_X0_save l G S (o := v) (k := 122) (a := k * 8) (N := 328) hI hv ⟨by decide, rfl, by decide, rfl, rfl, rfl⟩ (by omega) (show _ ≤ (7 : Int) ∧ (_ → _ ≤ (999999999 : Int)) from ⟨by omega, fun _ => by have := limbR hI hv 6; omega⟩) (fun q _ => by rcases q with q | q <;> exact absurd q (by decide))) (c_X6_83 Cx rfl rfl (rmk_ok (by omega) (by decide))) hW (big_l hv) hv rfl rfl hl.1 rfl (Nat.le_of_ble_eq_true rfl) dX6_setFactor_9 ⟨Nat.le_of_ble_eq_true rfl, Nat.le_of_ble_eq_true rfl⟩) hL (fun u_3 H locs k_4 hW hL => ?_)
  obtain ⟨iu_3, fu_3⟩ := k_4
  have F_5 := (Fr.rf : Fr S S (p1 122)).trans fu_3
  exact sVret Cx hr hlk hW hL ⟨iu_3, F_5⟩ dX6_setFactor_12

set_option maxRecDepth 100000 in
set_option maxHeartbeats 4000000 in
theorem s_X6_setFactor_193 (l : Launch) (G : sG) (S : sS) {v : Nat} {k : Int} (hI : cX G S 0 0 0) (hv : tau v = .inl 0) (hk : 0 ≤ k ∧ k ≤ 40) (hc : S.1 v 1 ≤ 7) : Met l yX6_setFactor (.code yX6_setFactor cX6_setFactor 3 none :: tb) (rmk 3 0 0) (sPc G 294 S [.ref (G.2.2.1 + 193), .int (iv k), .ref (G.2.2.1 + v)]) (sQv G 294 (fun u => cX G u 0 0 0 ∧ Fr S u (p1 195))) 0 0 (sF G) := by
  refine sEnter (by decide) (Nat.le_of_ble_eq_true rfl) ?_
  intro p e s m args below meth c Cx hr hlk hnm hW ls hl
  have Cx : sC G p m c cX6_setFactor 3 s args RX6 := Cx
  obtain ⟨hx, hb, hml, hown, hts⟩ := id Cx.1
  have hL : sL G [] := sL_nil
  have hl : lv_has ls 3 [(0, .ref (G.2.2.1 + 193)), (1, .int (iv k)), (2, .ref (G.2.2.1 + v))] := hl
  have hW0 := hW
  refine lv_aload_n hx hb dX6_setFactor_0 rfl (lv_at hl 2 rfl) ?_
  refine lv_aload_n hx hb dX6_setFactor_1 rfl (lv_at hl 0 rfl) ?_
  refine g_X6_17 Cx hW (k := 193) (by decide) rfl (v := .ref (G.2.2.1 + 195)) (rf_193_1 hI) dX6_setFactor_2 ?_
  refine lv_iload_n hx hb dX6_setFactor_5 rfl (lv_at hl 1 rfl) ?_
  refine lv_bipush (v := iv 8) hx hb dX6_setFactor_6 (by decide) ?_
  refine r_imul hx hb dX6_setFactor_8 ?_
  have q_1 : 0 ≤ S.1 v 1 ∧ S.1 v 1 ≤ 32 := hI.fi v 1 0 (big_lt hv) hv
  have q_2 : (-1) ≤ S.1 v 2 ∧ S.1 v 2 ≤ 1 := hI.fi v 2 0 (big_lt hv) hv
  refine sBv (sV (As := [.ref (G.2.2.1 + 195), .int (iv (k * 8))]) (rest := []) (k := v) Cx (s_X0_save l G S (o := v) (k := 195) (a := k * 8) (N := 328) hI hv ⟨by decide, rfl, by decide, rfl, rfl, rfl⟩ (by omega) (show _ ≤ (7 : Int) ∧ (_ → _ ≤ (999999999 : Int)) from ⟨by omega, fun _ => by have := limbR hI hv 6; omega⟩) (fun q _ => by rcases q with q | q <;> exact absurd q (by decide))) (c_X6_83 Cx rfl rfl (rmk_ok (by omega) (by decide))) hW (big_l hv) hv rfl rfl hl.1 rfl (Nat.le_of_ble_eq_true rfl) dX6_setFactor_9 ⟨Nat.le_of_ble_eq_true rfl, Nat.le_of_ble_eq_true rfl⟩) hL (fun u_3 H locs k_4 hW hL => ?_)
  obtain ⟨iu_3, fu_3⟩ := k_4
  have F_5 := (Fr.rf : Fr S S (p1 195)).trans fu_3
  exact sVret Cx hr hlk hW hL ⟨iu_3, F_5⟩ dX6_setFactor_12

set_option maxRecDepth 100000 in
set_option maxHeartbeats 4000000 in
theorem s_X6_take_120 (l : Launch) (G : sG) (S : sS) {md : Nat} (hI : cX G S 0 0 0) (hm2 : mdl md) : Met l yX6_take (.code yX6_take cX6_take 4 none :: tb) (rmk 3 0 0) (sPc G 294 S [.ref (G.2.2.1 + 120), .ref (G.2.2.1 + md)]) (sQv G 294 (fun u => cX G u 0 0 0 ∧ Fr S u pW)) 0 0 (sF G) := by
  refine sEnter (by decide) (Nat.le_of_ble_eq_true rfl) ?_
  intro p e s m args below meth c Cx hr hlk hnm hW ls hl
  have Cx : sC G p m c cX6_take 4 s args RX6 := Cx
  obtain ⟨hx, hb, hml, hown, hts⟩ := id Cx.1
  have hL : sL G [] := sL_nil
  have hl : lv_has ls 4 [(0, .ref (G.2.2.1 + 120)), (1, .ref (G.2.2.1 + md))] := hl
  have hW0 := hW
  refine lv_aload_n hx hb dX6_take_0 rfl (lv_at hl 0 rfl) ?_
  refine lv_aload_n hx hb dX6_take_1 rfl (lv_at hl 1 rfl) ?_
  have q_1 : 0 ≤ S.1 md 2 ∧ S.1 md 2 ≤ 12 := hI.fi md 2 3 (mdl_k hm2) hm2.1
  refine g_X6_40 Cx hW (k := md) (mdl_l hm2) hm2.1 (v := S.1 md 2) rfl dX6_take_2 ?_
  refine p_X6_46 Cx hW hL (k := 120) (by decide) rfl dX6_take_5 (fun H locs hW hL => ?_)
  have F_2 : Fr S (uF S 120 8 (S.1 md 2)) pW := (Fr.rf : Fr S S pW).F rfl
  have i_3 : cX G (uF S 120 8 (S.1 md 2)) 0 0 0 := hI.F rfl rfl (show 0 ≤ S.1 md 2 ∧ S.1 md 2 ≤ 12 from ⟨by omega, by omega⟩)
  refine lv_aload_n hx hb dX6_take_8 rfl (lv_at hl 0 rfl) ?_
  refine lv_aload_n hx hb dX6_take_9 rfl (lv_at hl 1 rfl) ?_
  have q_4 : 0 ≤ S.1 md 3 ∧ S.1 md 3 ≤ 16 := hI.fi md 3 3 (mdl_k hm2) hm2.1
  refine g_X6_47 Cx hW (k := md) (mdl_l hm2) hm2.1 (v := S.1 md 3) (uF_ne (fun h => absurd h.2 (by decide))) dX6_take_10 ?_
  refine p_X6_50 Cx hW hL (k := 120) (by decide) rfl dX6_take_13 (fun H locs hW hL => ?_)
  have F_5 : Fr S (uF (uF S 120 8 (S.1 md 2)) 120 9 (S.1 md 3)) pW := F_2.F rfl
  have i_6 : cX G (uF (uF S 120 8 (S.1 md 2)) 120 9 (S.1 md 3)) 0 0 0 := i_3.F rfl rfl (show 0 ≤ S.1 md 3 ∧ S.1 md 3 ≤ 40 from ⟨by omega, by omega⟩)
  refine lv_iconst (v := iv 0) hx hb dX6_take_16 (by decide) ?_
  refine lv_istore_n (lv' := [(2, .int (iv 0)), (0, .ref (G.2.2.1 + 120)), (1, .ref (G.2.2.1 + md))]) hx hb dX6_take_17 rfl hl (by decide) rfl (fun ls hl => ?_)
  have loop_18 : ∀ (fuel : Nat) (S18 : sS) (k : Int) (H : Heap) (locs : List Loc) (ls : Array Slot), (17 - k).toNat < fuel → (cX G S18 0 0 0) → (Fr S S18 pW) → (Fr ((uF (uF S 120 8 (S.1 md 2)) 120 9 (S.1 md 3))) S18 pN) → (0 ≤ k ∧ k ≤ 17) → sW G 294 S18 H → sL G locs → lv_has ls 4 [(2, .int (iv k)), (0, .ref (G.2.2.1 + 120)), (1, .ref (G.2.2.1 + md))] → W p l e (rmk 3 0 0) s m args below meth c H locs 0 0 (MQ below (sQv G 294 (fun u => cX G u 0 0 0 ∧ Fr S u pW)) args s 0 0 (sF G)) (F0 m 18 ls []) := by
    intro fuel
    induction fuel with
    | zero => intro S18 k H locs ls hmeas hI18 hFm18 hL18_ hk hW hL hl; exact absurd hmeas (Nat.not_lt_zero _)
    | succ fuel ih_18 =>
      intro S18 k H locs ls hmeas hI18 hFm18 hL18_ hk hW hL hl
      refine lv_iload_n hx hb dX6_take_18 rfl (lv_at hl 0 rfl) ?_
      refine lv_aload_n hx hb dX6_take_19 rfl (lv_at hl 1 rfl) ?_
      refine g_X6_50 Cx hW (k := 120) (by decide) rfl (v := S.1 md 3) (((hL18_ 120 rfl).1 9).trans (uF_on)) dX6_take_20 ?_
      refine r_icmp_gt (tgt := 67) hx hb ⟨(by omega), (by omega)⟩ ⟨(by omega), (by omega)⟩ dX6_take_23 (by decide) (fun c_7 => ?_) (fun c_7 => ?_)
      · refine lv_aload_n hx hb dX6_take_67 rfl (lv_at hl 1 rfl) ?_
        refine sBv (sV (As := []) (rest := []) (k := 120) Cx (s_X6_clearFactors_120 l G S18  hI18) (c_X6_64 Cx rfl rfl (rmk_ok (by omega) (by decide))) hW (by decide) rfl rfl rfl hl.1 rfl (Nat.le_of_ble_eq_true rfl) dX6_take_68 ⟨Nat.le_of_ble_eq_true rfl, Nat.le_of_ble_eq_true rfl⟩) hL (fun u_8 H locs k_9 hW hL => ?_)
        obtain ⟨iu_8, fu_8⟩ := k_9
        have F_10 := hFm18.trans (fu_8.to (p1_sub rfl))
        have F_11 := hL18_.trans (fu_8.to (p1_sub rfl))
        exact sVret Cx hr hlk hW hL ⟨iu_8, F_10⟩ dX6_take_71
      · refine lv_iconst (v := iv 0) hx hb dX6_take_26 (by decide) ?_
        refine lv_istore_n (lv' := [(3, .int (iv 0)), (2, .int (iv k)), (0, .ref (G.2.2.1 + 120)), (1, .ref (G.2.2.1 + md))]) hx hb dX6_take_27 rfl hl (by decide) rfl (fun ls hl => ?_)
        have loop_28 : ∀ (fuel : Nat) (S28 : sS) (j : Int) (H : Heap) (locs : List Loc) (ls : Array Slot), (13 - j).toNat < fuel → (cX G S28 0 0 0) → (Fr S S28 pW) → (Fr ((uF (uF S 120 8 (S.1 md 2)) 120 9 (S.1 md 3))) S28 pN) → (Fr S18 S28 pN) → (0 ≤ j ∧ j ≤ 13) → sW G 294 S28 H → sL G locs → lv_has ls 4 [(3, .int (iv j)), (2, .int (iv k)), (0, .ref (G.2.2.1 + 120)), (1, .ref (G.2.2.1 + md))] → W p l e (rmk 3 0 0) s m args below meth c H locs 0 0 (MQ below (sQv G 294 (fun u => cX G u 0 0 0 ∧ Fr S u pW)) args s 0 0 (sF G)) (F0 m 28 ls []) := by
          intro fuel
          induction fuel with
          | zero => intro S28 j H locs ls hmeas hI28 hFm28 hFL1828 hL28_ hj hW hL hl; exact absurd hmeas (Nat.not_lt_zero _)
          | succ fuel ih_28 =>
            intro S28 j H locs ls hmeas hI28 hFm28 hFL1828 hL28_ hj hW hL hl
            refine lv_iload_n hx hb dX6_take_28 rfl (lv_at hl 0 rfl) ?_
            refine lv_aload_n hx hb dX6_take_29 rfl (lv_at hl 2 rfl) ?_
            refine g_X6_46 Cx hW (k := 120) (by decide) rfl (v := S.1 md 2) (((hL28_ 120 rfl).1 8).trans (((hL18_ 120 rfl).1 8).trans ((uF_ne (fun h => absurd h.2 (by decide))).trans (uF_on)))) dX6_take_30 ?_
            refine r_icmp_gt (tgt := 61) hx hb ⟨(by omega), (by omega)⟩ ⟨(by omega), (by omega)⟩ dX6_take_33 (by decide) (fun c_12 => ?_) (fun c_12 => ?_)
            · refine lv_iinc (v := iv (k + 1)) (lv' := [(2, .int (iv (k + 1))), (3, .int (iv j)), (0, .ref (G.2.2.1 + 120)), (1, .ref (G.2.2.1 + md))]) hx hb dX6_take_61 hl (k := 1) rfl ((Int32.ofInt_add _ _).symm) (by decide) rfl (fun ls hl => ?_)
              refine lv_goto (tgt := 18) hx hb dX6_take_64 (by decide) ?_
              exact ih_18 S28 (k + 1) _ _ _ (by omega) hI28 hFm28 hFL1828 (by omega) hW hL (lv_sub hl [0, 2, 3] rfl)
            · refine lv_aload_n hx hb dX6_take_36 rfl (lv_at hl 2 rfl) ?_
              refine g_X6_13 Cx hW (k := 120) (by decide) rfl (v := .ref (G.2.2.1 + 121)) (rf_120_0 hI28) dX6_take_37 ?_
              refine lv_iload_n hx hb dX6_take_40 rfl (lv_at hl 1 rfl) ?_
              refine lv_iload_n hx hb dX6_take_41 rfl (lv_at hl 0 rfl) ?_
              refine sBi (sSt (As := [.int (iv k), .int (iv j)]) (rest := [.ref (G.2.2.1 + 121)]) Cx (s_X6_at l G S28 (k := k) (j := j) (by omega) (by omega)) (c_X6_53 Cx rfl rfl (rmk_ok (by omega) (by decide))) hW rfl hl.1 rfl (Nat.le_of_ble_eq_true rfl) dX6_take_42 ⟨Nat.le_of_ble_eq_true rfl, Nat.le_of_ble_eq_true rfl⟩) hL (fun r_15 u_13 H locs k_14 hW hL => ?_)
              obtain ⟨eu_13, xu_13⟩ := k_14
              rw [eu_13] at hW
              refine lv_aload_n hx hb dX6_take_45 rfl (lv_at hl 3 rfl) ?_
              refine lv_iload_n hx hb dX6_take_46 rfl (lv_at hl 1 rfl) ?_
              refine lv_iload_n hx hb dX6_take_47 rfl (lv_at hl 0 rfl) ?_
              refine sBi (sV (As := [.int (iv k), .int (iv j)]) (rest := [.int (iv r_15), .ref (G.2.2.1 + 121)]) (k := md) Cx (s_X3_number l G S28 (o := md) (k := k) (j := j) hI28 hm2 (by omega) (by omega)) (c_X6_57 Cx rfl rfl (rmk_ok (by omega) (by decide))) hW (mdl_l hm2) hm2.1 rfl rfl hl.1 rfl (Nat.le_of_ble_eq_true rfl) dX6_take_48 ⟨Nat.le_of_ble_eq_true rfl, Nat.le_of_ble_eq_true rfl⟩) hL (fun r_18 u_16 H locs k_17 hW hL => ?_)
              obtain ⟨eu_16, xu_16⟩ := k_17
              rw [eu_16] at hW
              refine r_i2l hx hb ⟨(by omega), (by omega)⟩ dX6_take_51 ?_
              refine sBv (sSt (As := [.ref (G.2.2.1 + 121), .int (iv r_15), .long (jv r_18)]) (rest := []) Cx (s_X0_store l G S28 (k := 121) (a := r_15) (v := r_18) (N := 4264) hI28 ⟨by decide, rfl, by decide, rfl, rfl, rfl⟩ (by omega) (by omega) (fun q _ => by rcases q with q | q <;> exact absurd q (by decide))) (c_X6_60 Cx rfl rfl (rmk_ok (by omega) (by decide))) hW rfl hl.1 rfl (Nat.le_of_ble_eq_true rfl) dX6_take_52 ⟨Nat.le_of_ble_eq_true rfl, Nat.le_of_ble_eq_true rfl⟩) hL (fun u_19 H locs k_20 hW hL => ?_)
              obtain ⟨iu_19, fu_19⟩ := k_20
              have F_21 := hFm28.trans (fu_19.to (p1_sub rfl))
              have F_22 := hFL1828.trans (fu_19.to (p1_sub rfl))
              have F_23 := hL28_.trans (fu_19.to (p1_sub rfl))
              refine lv_iinc (v := iv (j + 1)) (lv' := [(3, .int (iv (j + 1))), (2, .int (iv k)), (0, .ref (G.2.2.1 + 120)), (1, .ref (G.2.2.1 + md))]) hx hb dX6_take_55 hl (k := 0) rfl ((Int32.ofInt_add _ _).symm) (by decide) rfl (fun ls hl => ?_)
              refine lv_goto (tgt := 28) hx hb dX6_take_58 (by decide) ?_
              exact ih_28 u_19 (j + 1) _ _ _ (by omega) iu_19 F_21 F_22 F_23 (by omega) hW hL (lv_sub hl [0, 1, 2, 3] rfl)
        exact loop_28 (_ + 1) S18 0 _ _ _ (Nat.lt_succ_self _) hI18 hFm18 hL18_ Fr.rf (by omega) hW hL (lv_sub hl [0, 1, 2, 3] rfl)
  exact loop_18 (_ + 1) (uF (uF S 120 8 (S.1 md 2)) 120 9 (S.1 md 3)) 0 _ _ _ (Nat.lt_succ_self _) i_6 F_5 Fr.rf (by omega) hW hL (lv_sub hl [0, 1, 2] rfl)

set_option maxRecDepth 100000 in
set_option maxHeartbeats 4000000 in
theorem s_X6_take_193 (l : Launch) (G : sG) (S : sS) {md : Nat} (hI : cX G S 0 0 0) (hm2 : mdl md) : Met l yX6_take (.code yX6_take cX6_take 4 none :: tb) (rmk 3 0 0) (sPc G 294 S [.ref (G.2.2.1 + 193), .ref (G.2.2.1 + md)]) (sQv G 294 (fun u => cX G u 0 0 0 ∧ Fr S u pW)) 0 0 (sF G) := by
  refine sEnter (by decide) (Nat.le_of_ble_eq_true rfl) ?_
  intro p e s m args below meth c Cx hr hlk hnm hW ls hl
  have Cx : sC G p m c cX6_take 4 s args RX6 := Cx
  obtain ⟨hx, hb, hml, hown, hts⟩ := id Cx.1
  have hL : sL G [] := sL_nil
  have hl : lv_has ls 4 [(0, .ref (G.2.2.1 + 193)), (1, .ref (G.2.2.1 + md))] := hl
  have hW0 := hW
  refine lv_aload_n hx hb dX6_take_0 rfl (lv_at hl 0 rfl) ?_
  refine lv_aload_n hx hb dX6_take_1 rfl (lv_at hl 1 rfl) ?_
  have q_1 : 0 ≤ S.1 md 2 ∧ S.1 md 2 ≤ 12 := hI.fi md 2 3 (mdl_k hm2) hm2.1
  refine g_X6_40 Cx hW (k := md) (mdl_l hm2) hm2.1 (v := S.1 md 2) rfl dX6_take_2 ?_
  refine p_X6_46 Cx hW hL (k := 193) (by decide) rfl dX6_take_5 (fun H locs hW hL => ?_)
  have F_2 : Fr S (uF S 193 8 (S.1 md 2)) pW := (Fr.rf : Fr S S pW).F rfl
  have i_3 : cX G (uF S 193 8 (S.1 md 2)) 0 0 0 := hI.F rfl rfl (show 0 ≤ S.1 md 2 ∧ S.1 md 2 ≤ 12 from ⟨by omega, by omega⟩)
  refine lv_aload_n hx hb dX6_take_8 rfl (lv_at hl 0 rfl) ?_
  refine lv_aload_n hx hb dX6_take_9 rfl (lv_at hl 1 rfl) ?_
  have q_4 : 0 ≤ S.1 md 3 ∧ S.1 md 3 ≤ 16 := hI.fi md 3 3 (mdl_k hm2) hm2.1
  refine g_X6_47 Cx hW (k := md) (mdl_l hm2) hm2.1 (v := S.1 md 3) (uF_ne (fun h => absurd h.2 (by decide))) dX6_take_10 ?_
  refine p_X6_50 Cx hW hL (k := 193) (by decide) rfl dX6_take_13 (fun H locs hW hL => ?_)
  have F_5 : Fr S (uF (uF S 193 8 (S.1 md 2)) 193 9 (S.1 md 3)) pW := F_2.F rfl
  have i_6 : cX G (uF (uF S 193 8 (S.1 md 2)) 193 9 (S.1 md 3)) 0 0 0 := i_3.F rfl rfl (show 0 ≤ S.1 md 3 ∧ S.1 md 3 ≤ 40 from ⟨by omega, by omega⟩)
  refine lv_iconst (v := iv 0) hx hb dX6_take_16 (by decide) ?_
  refine lv_istore_n (lv' := [(2, .int (iv 0)), (0, .ref (G.2.2.1 + 193)), (1, .ref (G.2.2.1 + md))]) hx hb dX6_take_17 rfl hl (by decide) rfl (fun ls hl => ?_)
  have loop_18 : ∀ (fuel : Nat) (S18 : sS) (k : Int) (H : Heap) (locs : List Loc) (ls : Array Slot), (17 - k).toNat < fuel → (cX G S18 0 0 0) → (Fr S S18 pW) → (Fr ((uF (uF S 193 8 (S.1 md 2)) 193 9 (S.1 md 3))) S18 pN) → (0 ≤ k ∧ k ≤ 17) → sW G 294 S18 H → sL G locs → lv_has ls 4 [(2, .int (iv k)), (0, .ref (G.2.2.1 + 193)), (1, .ref (G.2.2.1 + md))] → W p l e (rmk 3 0 0) s m args below meth c H locs 0 0 (MQ below (sQv G 294 (fun u => cX G u 0 0 0 ∧ Fr S u pW)) args s 0 0 (sF G)) (F0 m 18 ls []) := by
    intro fuel
    induction fuel with
    | zero => intro S18 k H locs ls hmeas hI18 hFm18 hL18_ hk hW hL hl; exact absurd hmeas (Nat.not_lt_zero _)
    | succ fuel ih_18 =>
      intro S18 k H locs ls hmeas hI18 hFm18 hL18_ hk hW hL hl
      refine lv_iload_n hx hb dX6_take_18 rfl (lv_at hl 0 rfl) ?_
      refine lv_aload_n hx hb dX6_take_19 rfl (lv_at hl 1 rfl) ?_
      refine g_X6_50 Cx hW (k := 193) (by decide) rfl (v := S.1 md 3) (((hL18_ 193 rfl).1 9).trans (uF_on)) dX6_take_20 ?_
      refine r_icmp_gt (tgt := 67) hx hb ⟨(by omega), (by omega)⟩ ⟨(by omega), (by omega)⟩ dX6_take_23 (by decide) (fun c_7 => ?_) (fun c_7 => ?_)
      · refine lv_aload_n hx hb dX6_take_67 rfl (lv_at hl 1 rfl) ?_
        refine sBv (sV (As := []) (rest := []) (k := 193) Cx (s_X6_clearFactors_193 l G S18  hI18) (c_X6_64 Cx rfl rfl (rmk_ok (by omega) (by decide))) hW (by decide) rfl rfl rfl hl.1 rfl (Nat.le_of_ble_eq_true rfl) dX6_take_68 ⟨Nat.le_of_ble_eq_true rfl, Nat.le_of_ble_eq_true rfl⟩) hL (fun u_8 H locs k_9 hW hL => ?_)
        obtain ⟨iu_8, fu_8⟩ := k_9
        have F_10 := hFm18.trans (fu_8.to (p1_sub rfl))
        have F_11 := hL18_.trans (fu_8.to (p1_sub rfl))
        exact sVret Cx hr hlk hW hL ⟨iu_8, F_10⟩ dX6_take_71
      · refine lv_iconst (v := iv 0) hx hb dX6_take_26 (by decide) ?_
        refine lv_istore_n (lv' := [(3, .int (iv 0)), (2, .int (iv k)), (0, .ref (G.2.2.1 + 193)), (1, .ref (G.2.2.1 + md))]) hx hb dX6_take_27 rfl hl (by decide) rfl (fun ls hl => ?_)
        have loop_28 : ∀ (fuel : Nat) (S28 : sS) (j : Int) (H : Heap) (locs : List Loc) (ls : Array Slot), (13 - j).toNat < fuel → (cX G S28 0 0 0) → (Fr S S28 pW) → (Fr ((uF (uF S 193 8 (S.1 md 2)) 193 9 (S.1 md 3))) S28 pN) → (Fr S18 S28 pN) → (0 ≤ j ∧ j ≤ 13) → sW G 294 S28 H → sL G locs → lv_has ls 4 [(3, .int (iv j)), (2, .int (iv k)), (0, .ref (G.2.2.1 + 193)), (1, .ref (G.2.2.1 + md))] → W p l e (rmk 3 0 0) s m args below meth c H locs 0 0 (MQ below (sQv G 294 (fun u => cX G u 0 0 0 ∧ Fr S u pW)) args s 0 0 (sF G)) (F0 m 28 ls []) := by
          intro fuel
          induction fuel with
          | zero => intro S28 j H locs ls hmeas hI28 hFm28 hFL1828 hL28_ hj hW hL hl; exact absurd hmeas (Nat.not_lt_zero _)
          | succ fuel ih_28 =>
            intro S28 j H locs ls hmeas hI28 hFm28 hFL1828 hL28_ hj hW hL hl
            refine lv_iload_n hx hb dX6_take_28 rfl (lv_at hl 0 rfl) ?_
            refine lv_aload_n hx hb dX6_take_29 rfl (lv_at hl 2 rfl) ?_
            refine g_X6_46 Cx hW (k := 193) (by decide) rfl (v := S.1 md 2) (((hL28_ 193 rfl).1 8).trans (((hL18_ 193 rfl).1 8).trans ((uF_ne (fun h => absurd h.2 (by decide))).trans (uF_on)))) dX6_take_30 ?_
            refine r_icmp_gt (tgt := 61) hx hb ⟨(by omega), (by omega)⟩ ⟨(by omega), (by omega)⟩ dX6_take_33 (by decide) (fun c_12 => ?_) (fun c_12 => ?_)
            · refine lv_iinc (v := iv (k + 1)) (lv' := [(2, .int (iv (k + 1))), (3, .int (iv j)), (0, .ref (G.2.2.1 + 193)), (1, .ref (G.2.2.1 + md))]) hx hb dX6_take_61 hl (k := 1) rfl ((Int32.ofInt_add _ _).symm) (by decide) rfl (fun ls hl => ?_)
              refine lv_goto (tgt := 18) hx hb dX6_take_64 (by decide) ?_
              exact ih_18 S28 (k + 1) _ _ _ (by omega) hI28 hFm28 hFL1828 (by omega) hW hL (lv_sub hl [0, 2, 3] rfl)
            · refine lv_aload_n hx hb dX6_take_36 rfl (lv_at hl 2 rfl) ?_
              refine g_X6_13 Cx hW (k := 193) (by decide) rfl (v := .ref (G.2.2.1 + 194)) (rf_193_0 hI28) dX6_take_37 ?_
              refine lv_iload_n hx hb dX6_take_40 rfl (lv_at hl 1 rfl) ?_
              refine lv_iload_n hx hb dX6_take_41 rfl (lv_at hl 0 rfl) ?_
              refine sBi (sSt (As := [.int (iv k), .int (iv j)]) (rest := [.ref (G.2.2.1 + 194)]) Cx (s_X6_at l G S28 (k := k) (j := j) (by omega) (by omega)) (c_X6_53 Cx rfl rfl (rmk_ok (by omega) (by decide))) hW rfl hl.1 rfl (Nat.le_of_ble_eq_true rfl) dX6_take_42 ⟨Nat.le_of_ble_eq_true rfl, Nat.le_of_ble_eq_true rfl⟩) hL (fun r_15 u_13 H locs k_14 hW hL => ?_)
              obtain ⟨eu_13, xu_13⟩ := k_14
              rw [eu_13] at hW
              refine lv_aload_n hx hb dX6_take_45 rfl (lv_at hl 3 rfl) ?_
              refine lv_iload_n hx hb dX6_take_46 rfl (lv_at hl 1 rfl) ?_
              refine lv_iload_n hx hb dX6_take_47 rfl (lv_at hl 0 rfl) ?_
              refine sBi (sV (As := [.int (iv k), .int (iv j)]) (rest := [.int (iv r_15), .ref (G.2.2.1 + 194)]) (k := md) Cx (s_X3_number l G S28 (o := md) (k := k) (j := j) hI28 hm2 (by omega) (by omega)) (c_X6_57 Cx rfl rfl (rmk_ok (by omega) (by decide))) hW (mdl_l hm2) hm2.1 rfl rfl hl.1 rfl (Nat.le_of_ble_eq_true rfl) dX6_take_48 ⟨Nat.le_of_ble_eq_true rfl, Nat.le_of_ble_eq_true rfl⟩) hL (fun r_18 u_16 H locs k_17 hW hL => ?_)
              obtain ⟨eu_16, xu_16⟩ := k_17
              rw [eu_16] at hW
              refine r_i2l hx hb ⟨(by omega), (by omega)⟩ dX6_take_51 ?_
              refine sBv (sSt (As := [.ref (G.2.2.1 + 194), .int (iv r_15), .long (jv r_18)]) (rest := []) Cx (s_X0_store l G S28 (k := 194) (a := r_15) (v := r_18) (N := 4264) hI28 ⟨by decide, rfl, by decide, rfl, rfl, rfl⟩ (by omega) (by omega) (fun q _ => by rcases q with q | q <;> exact absurd q (by decide))) (c_X6_60 Cx rfl rfl (rmk_ok (by omega) (by decide))) hW rfl hl.1 rfl (Nat.le_of_ble_eq_true rfl) dX6_take_52 ⟨Nat.le_of_ble_eq_true rfl, Nat.le_of_ble_eq_true rfl⟩) hL (fun u_19 H locs k_20 hW hL => ?_)
              obtain ⟨iu_19, fu_19⟩ := k_20
              have F_21 := hFm28.trans (fu_19.to (p1_sub rfl))
              have F_22 := hFL1828.trans (fu_19.to (p1_sub rfl))
              have F_23 := hL28_.trans (fu_19.to (p1_sub rfl))
              refine lv_iinc (v := iv (j + 1)) (lv' := [(3, .int (iv (j + 1))), (2, .int (iv k)), (0, .ref (G.2.2.1 + 193)), (1, .ref (G.2.2.1 + md))]) hx hb dX6_take_55 hl (k := 0) rfl ((Int32.ofInt_add _ _).symm) (by decide) rfl (fun ls hl => ?_)
              refine lv_goto (tgt := 28) hx hb dX6_take_58 (by decide) ?_
              exact ih_28 u_19 (j + 1) _ _ _ (by omega) iu_19 F_21 F_22 F_23 (by omega) hW hL (lv_sub hl [0, 1, 2, 3] rfl)
        exact loop_28 (_ + 1) S18 0 _ _ _ (Nat.lt_succ_self _) hI18 hFm18 hL18_ Fr.rf (by omega) hW hL (lv_sub hl [0, 1, 2, 3] rfl)
  exact loop_18 (_ + 1) (uF (uF S 193 8 (S.1 md 2)) 193 9 (S.1 md 3)) 0 _ _ _ (Nat.lt_succ_self _) i_6 F_5 Fr.rf (by omega) hW hL (lv_sub hl [0, 1, 2] rfl)

set_option maxRecDepth 100000 in
set_option maxHeartbeats 4000000 in
theorem s_X6_combine_120_129 (l : Launch) (G : sG) (S : sS) {j : Int} (hI : cX G S 0 0 0) (hj : 0 ≤ j ∧ j ≤ 12) : Met l yX6_combine (.code yX6_combine cX6_combine 4 none :: tb) (rmk 4 0 0) (sPc G 294 S [.ref (G.2.2.1 + 120), .int (iv j), .ref (G.2.2.1 + 129)]) (sQv G 294 (fun u => cX G u 0 0 0 ∧ Fr S u (pK 120 129) ∧ (u.1 129 1 ≤ 15 ∧ Hd (u.1 129 1 = 15 → u.2.1 130 14 ≤ 40)))) 0 0 (sF G) := by
  refine sEnter (by decide) (Nat.le_of_ble_eq_true rfl) ?_
  intro p e s m args below meth c Cx hr hlk hnm hW ls hl
  have Cx : sC G p m c cX6_combine 4 s args RX6 := Cx
  obtain ⟨hx, hb, hml, hown, hts⟩ := id Cx.1
  have hL : sL G [] := sL_nil
  have hl : lv_has ls 4 [(0, .ref (G.2.2.1 + 120)), (1, .int (iv j)), (2, .ref (G.2.2.1 + 129))] := hl
  have hW0 := hW
  refine lv_aload_n hx hb dX6_combine_0 rfl (lv_at hl 2 rfl) ?_
  refine lv_lconst (v := jv 0) hx hb dX6_combine_1 (by decide) ?_
  refine sBv (sV (As := [.long (jv 0)]) (rest := []) (k := 129) Cx (s_X0_put l G S (o := 129) (v := 0) hI rfl (by omega)) (c_X6_86 Cx rfl rfl (rmk_ok (by omega) (by decide))) hW (by decide) rfl rfl rfl hl.1 rfl (Nat.le_of_ble_eq_true rfl) dX6_combine_2 ⟨Nat.le_of_ble_eq_true rfl, Nat.le_of_ble_eq_true rfl⟩) hL (fun u_1 H locs k_2 hW hL => ?_)
  obtain ⟨iu_1, fu_1, xu_1⟩ := k_2
  have F_3 := (Fr.rf : Fr S S (pK 120 129)).trans (fu_1.to (pB_sub rfl rfl))
  refine lv_iconst (v := iv 1) hx hb dX6_combine_5 (by decide) ?_
  refine lv_istore_n (lv' := [(3, .int (iv 1)), (0, .ref (G.2.2.1 + 120)), (1, .int (iv j)), (2, .ref (G.2.2.1 + 129))]) hx hb dX6_combine_6 rfl hl (by decide) rfl (fun ls hl => ?_)
  have loop_7 : ∀ (fuel : Nat) (S7 : sS) (k : Int) (H : Heap) (locs : List Loc) (ls : Array Slot), (41 - k).toNat < fuel → (cX G S7 0 0 0) → (Fr S S7 (pK 120 129)) → (Fr u_1 S7 (pK 120 129)) → (1 ≤ k ∧ k ≤ 41) → (S7.1 129 1 ≤ 15) → (Hd (S7.1 129 1 = 15 → S7.2.1 130 14 ≤ k - 1)) → sW G 294 S7 H → sL G locs → lv_has ls 4 [(3, .int (iv k)), (0, .ref (G.2.2.1 + 120)), (1, .int (iv j)), (2, .ref (G.2.2.1 + 129))] → W p l e (rmk 4 0 0) s m args below meth c H locs 0 0 (MQ below (sQv G 294 (fun u => cX G u 0 0 0 ∧ Fr S u (pK 120 129) ∧ (u.1 129 1 ≤ 15 ∧ Hd (u.1 129 1 = 15 → u.2.1 130 14 ≤ 40)))) args s 0 0 (sF G)) (F0 m 7 ls []) := by
    intro fuel
    induction fuel with
    | zero => intro S7 k H locs ls hmeas hI7 hFm7 hL7_ hk hc ht hW hL hl; exact absurd hmeas (Nat.not_lt_zero _)
    | succ fuel ih_7 =>
      intro S7 k H locs ls hmeas hI7 hFm7 hL7_ hk hc ht hW hL hl
      refine lv_iload_n hx hb dX6_combine_7 rfl (lv_at hl 0 rfl) ?_
      refine lv_aload_n hx hb dX6_combine_8 rfl (lv_at hl 1 rfl) ?_
      have q_4 : 0 ≤ S.1 120 9 ∧ S.1 120 9 ≤ 40 := hI.fi 120 9 6 (by decide) rfl
      refine g_X6_50 Cx hW (k := 120) (by decide) rfl (v := S.1 120 9) (((hL7_ 120 rfl).1 9).trans ((fu_1 120 rfl).1 9)) dX6_combine_9 ?_
      refine r_icmp_gt (tgt := 101) hx hb ⟨(by omega), (by omega)⟩ ⟨(by omega), (by omega)⟩ dX6_combine_12 (by decide) (fun c_5 => ?_) (fun c_5 => ?_)
      · have q_6 : 0 ≤ S7.1 129 1 ∧ S7.1 129 1 ≤ 32 := hI7.fi 129 1 0 (by decide) rfl
        exact sVret Cx hr hlk hW hL ⟨hI7, hFm7, ⟨by omega, fun q => by have e := ht q; omega⟩⟩ dX6_combine_101
      · refine lv_aload_n hx hb dX6_combine_15 rfl (lv_at hl 1 rfl) ?_
        refine g_X6_17 Cx hW (k := 120) (by decide) rfl (v := .ref (G.2.2.1 + 122)) (rf_120_1 hI7) dX6_combine_16 ?_
        refine lv_iload_n hx hb dX6_combine_19 rfl (lv_at hl 0 rfl) ?_
        refine lv_bipush (v := iv 8) hx hb dX6_combine_20 (by decide) ?_
        refine r_imul hx hb dX6_combine_22 ?_
        refine rIald Cx hW (k := 122) (by decide) rfl (by decide) (by omega) (by omega) dX6_combine_23 ?_
        have q_7 : (-2147483648) ≤ S.2.1 122 (k * 8) ∧ S.2.1 122 (k * 8) ≤ 2147483647 := hI.ai 122 (k * 8) (by decide)
        refine r_i (b := S.2.1 122 (k * 8)) (((hL7_ 122 rfl).2.1 (k * 8)).trans ((fu_1 122 rfl).2.1 (k * 8))) ?_
        refine r_if_eq (tgt := 95) hx hb ⟨(by omega), (by omega)⟩ dX6_combine_24 (by decide) (fun c_8 => ?_) (fun c_8 => ?_)
        · refine lv_iinc (v := iv (k + 1)) (lv' := [(3, .int (iv (k + 1))), (0, .ref (G.2.2.1 + 120)), (1, .int (iv j)), (2, .ref (G.2.2.1 + 129))]) hx hb dX6_combine_95 hl (k := 0) rfl ((Int32.ofInt_add _ _).symm) (by decide) rfl (fun ls hl => ?_)
          refine lv_goto (tgt := 7) hx hb dX6_combine_98 (by decide) ?_
          have q_9 : 0 ≤ S7.1 129 1 ∧ S7.1 129 1 ≤ 32 := hI7.fi 129 1 0 (by decide) rfl
          exact ih_7 S7 (k + 1) _ _ _ (by omega) hI7 hFm7 hL7_ (by omega) (by omega) (fun q => by have e := ht q; omega) hW hL (lv_sub hl [0, 1, 2, 3] rfl)
        · refine lv_aload_n hx hb dX6_combine_27 rfl (lv_at hl 1 rfl) ?_
          refine g_X6_13 Cx hW (k := 120) (by decide) rfl (v := .ref (G.2.2.1 + 121)) (rf_120_0 hI7) dX6_combine_28 ?_
          refine lv_iload_n hx hb dX6_combine_31 rfl (lv_at hl 0 rfl) ?_
          refine lv_iload_n hx hb dX6_combine_32 rfl (lv_at hl 2 rfl) ?_
          refine sBi (sSt (As := [.int (iv k), .int (iv j)]) (rest := [.ref (G.2.2.1 + 121)]) Cx (s_X6_at l G S7 (k := k) (j := j) (by omega) (by omega)) (c_X6_53 Cx rfl rfl (rmk_ok (by omega) (by decide))) hW rfl hl.1 rfl (Nat.le_of_ble_eq_true rfl) dX6_combine_33 ⟨Nat.le_of_ble_eq_true rfl, Nat.le_of_ble_eq_true rfl⟩) hL (fun r_12 u_10 H locs k_11 hW hL => ?_)
          obtain ⟨eu_10, xu_10⟩ := k_11
          rw [eu_10] at hW
          refine rIald Cx hW (k := 121) (by decide) rfl (by decide) (by omega) (by omega) dX6_combine_36 ?_
          have q_13 : (-2147483648) ≤ S.2.1 121 r_12 ∧ S.2.1 121 r_12 ≤ 2147483647 := hI.ai 121 r_12 (by decide)
          refine r_i (b := S.2.1 121 r_12) (((hL7_ 121 rfl).2.1 r_12).trans ((fu_1 121 rfl).2.1 r_12)) ?_
          refine r_if_eq (tgt := 95) hx hb ⟨(by omega), (by omega)⟩ dX6_combine_37 (by decide) (fun c_14 => ?_) (fun c_14 => ?_)
          · refine lv_iinc (v := iv (k + 1)) (lv' := [(3, .int (iv (k + 1))), (0, .ref (G.2.2.1 + 120)), (1, .int (iv j)), (2, .ref (G.2.2.1 + 129))]) hx hb dX6_combine_95 hl (k := 0) rfl ((Int32.ofInt_add _ _).symm) (by decide) rfl (fun ls hl => ?_)
            refine lv_goto (tgt := 7) hx hb dX6_combine_98 (by decide) ?_
            have q_15 : 0 ≤ S7.1 129 1 ∧ S7.1 129 1 ≤ 32 := hI7.fi 129 1 0 (by decide) rfl
            exact ih_7 S7 (k + 1) _ _ _ (by omega) hI7 hFm7 hL7_ (by omega) (by omega) (fun q => by have e := ht q; omega) hW hL (lv_sub hl [0, 1, 2, 3] rfl)
          · refine lv_aload_n hx hb dX6_combine_40 rfl (lv_at hl 1 rfl) ?_
            refine g_X6_21 Cx hW (k := 120) (by decide) rfl (v := .ref (G.2.2.1 + 123)) (rf_120_2 hI7) dX6_combine_41 ?_
            refine lv_aload_n hx hb dX6_combine_44 rfl (lv_at hl 1 rfl) ?_
            refine g_X6_17 Cx hW (k := 120) (by decide) rfl (v := .ref (G.2.2.1 + 122)) (rf_120_1 hI7) dX6_combine_45 ?_
            refine lv_iload_n hx hb dX6_combine_48 rfl (lv_at hl 0 rfl) ?_
            refine lv_bipush (v := iv 8) hx hb dX6_combine_49 (by decide) ?_
            refine r_imul hx hb dX6_combine_51 ?_
            refine sBv (sV (As := [.ref (G.2.2.1 + 122), .int (iv (k * 8))]) (rest := []) (k := 123) Cx (s_X0_load l G S7 (o := 123) (k := 122) (a := k * 8) (N := 328) hI7 rfl ⟨by decide, rfl, by decide, rfl, rfl, rfl⟩ (by omega)) (c_X6_75 Cx rfl rfl (rmk_ok (by omega) (by decide))) hW (by decide) rfl rfl rfl hl.1 rfl (Nat.le_of_ble_eq_true rfl) dX6_combine_52 ⟨Nat.le_of_ble_eq_true rfl, Nat.le_of_ble_eq_true rfl⟩) hL (fun u_16 H locs k_17 hW hL => ?_)
            obtain ⟨iu_16, fu_16, xu_16⟩ := k_17
            have F_18 := hFm7.trans (fu_16.to (pB_sub rfl rfl))
            have F_19 := hL7_.trans (fu_16.to (pB_sub rfl rfl))
            have yu_16 : u_16.1 123 1 ≤ 7 := xu_16.1
            refine lv_aload_n hx hb dX6_combine_55 rfl (lv_at hl 1 rfl) ?_
            refine g_X6_25 Cx hW (k := 120) (by decide) rfl (v := .ref (G.2.2.1 + 125)) (rf_120_3 iu_16) dX6_combine_56 ?_
            refine lv_aload_n hx hb dX6_combine_59 rfl (lv_at hl 1 rfl) ?_
            refine g_X6_13 Cx hW (k := 120) (by decide) rfl (v := .ref (G.2.2.1 + 121)) (rf_120_0 iu_16) dX6_combine_60 ?_
            refine lv_iload_n hx hb dX6_combine_63 rfl (lv_at hl 0 rfl) ?_
            refine lv_iload_n hx hb dX6_combine_64 rfl (lv_at hl 2 rfl) ?_
            refine sBi (sSt (As := [.int (iv k), .int (iv j)]) (rest := [.ref (G.2.2.1 + 121), .ref (G.2.2.1 + 125)]) Cx (s_X6_at l G u_16 (k := k) (j := j) (by omega) (by omega)) (c_X6_53 Cx rfl rfl (rmk_ok (by omega) (by decide))) hW rfl hl.1 rfl (Nat.le_of_ble_eq_true rfl) dX6_combine_65 ⟨Nat.le_of_ble_eq_true rfl, Nat.le_of_ble_eq_true rfl⟩) hL (fun r_22 u_20 H locs k_21 hW hL => ?_)
            obtain ⟨eu_20, xu_20⟩ := k_21
            rw [eu_20] at hW
            refine sBv (sV (As := [.ref (G.2.2.1 + 121), .int (iv r_22)]) (rest := []) (k := 125) Cx (s_X0_load l G u_16 (o := 125) (k := 121) (a := r_22) (N := 4264) iu_16 rfl ⟨by decide, rfl, by decide, rfl, rfl, rfl⟩ (by omega)) (c_X6_75 Cx rfl rfl (rmk_ok (by omega) (by decide))) hW (by decide) rfl rfl rfl hl.1 rfl (Nat.le_of_ble_eq_true rfl) dX6_combine_68 ⟨Nat.le_of_ble_eq_true rfl, Nat.le_of_ble_eq_true rfl⟩) hL (fun u_23 H locs k_24 hW hL => ?_)
            obtain ⟨iu_23, fu_23, xu_23⟩ := k_24
            have F_25 := F_18.trans (fu_23.to (pB_sub rfl rfl))
            have F_26 := F_19.trans (fu_23.to (pB_sub rfl rfl))
            have yu_23 : u_23.1 125 1 ≤ 7 := xu_23.1
            refine lv_aload_n hx hb dX6_combine_71 rfl (lv_at hl 1 rfl) ?_
            refine g_X6_28 Cx hW (k := 120) (by decide) rfl (v := .ref (G.2.2.1 + 127)) (rf_120_4 iu_23) dX6_combine_72 ?_
            refine lv_aload_n hx hb dX6_combine_75 rfl (lv_at hl 1 rfl) ?_
            refine g_X6_21 Cx hW (k := 120) (by decide) rfl (v := .ref (G.2.2.1 + 123)) (rf_120_2 iu_23) dX6_combine_76 ?_
            refine lv_aload_n hx hb dX6_combine_79 rfl (lv_at hl 1 rfl) ?_
            refine g_X6_25 Cx hW (k := 120) (by decide) rfl (v := .ref (G.2.2.1 + 125)) (rf_120_3 iu_23) dX6_combine_80 ?_
            have q_27 : 0 ≤ u_16.1 123 1 ∧ u_16.1 123 1 ≤ 32 := iu_16.fi 123 1 0 (by decide) rfl
            have lk_28 : u_23.1 123 1 = u_16.1 123 1 := (fu_23 123 rfl).1 1
            have q_29 : 0 ≤ u_23.1 125 1 ∧ u_23.1 125 1 ≤ 32 := iu_23.fi 125 1 0 (by decide) rfl
            refine sBv (sV (As := [.ref (G.2.2.1 + 123), .ref (G.2.2.1 + 125)]) (rest := []) (k := 127) Cx (s_X0_product l G u_23 (o := 127) (a := 123) (b := 125) iu_23 rfl rfl rfl (show (127 : Nat) ≠ 123 by decide) (show (127 : Nat) ≠ 125 by decide)) (c_X6_90 Cx rfl rfl (rmk_ok (by omega) (by decide))) hW (by decide) rfl rfl rfl hl.1 rfl (Nat.le_of_ble_eq_true rfl) dX6_combine_83 ⟨Nat.le_of_ble_eq_true rfl, Nat.le_of_ble_eq_true rfl⟩) hL (fun u_30 H locs k_31 hW hL => ?_)
            obtain ⟨iu_30, fu_30, xu_30⟩ := k_31
            have F_32 := F_25.trans (fu_30.to (pB_sub rfl rfl))
            have F_33 := F_26.trans (fu_30.to (pB_sub rfl rfl))
            refine lv_aload_n hx hb dX6_combine_86 rfl (lv_at hl 3 rfl) ?_
            refine lv_aload_n hx hb dX6_combine_87 rfl (lv_at hl 1 rfl) ?_
            refine g_X6_28 Cx hW (k := 120) (by decide) rfl (v := .ref (G.2.2.1 + 127)) (rf_120_4 iu_30) dX6_combine_88 ?_
            refine lv_iconst (v := iv 1) hx hb dX6_combine_91 (by decide) ?_
            have q_34 : 0 ≤ u_30.1 127 1 ∧ u_30.1 127 1 ≤ 32 := iu_30.fi 127 1 0 (by decide) rfl
            have q_35 : 0 ≤ S7.1 129 1 ∧ S7.1 129 1 ≤ 32 := hI7.fi 129 1 0 (by decide) rfl
            have lk_36 : u_30.1 129 1 = S7.1 129 1 := ((fu_30 129 rfl).1 1).trans (((fu_23 129 rfl).1 1).trans ((fu_16 129 rfl).1 1))
            have q_37 : (-1) ≤ S7.1 129 2 ∧ S7.1 129 2 ≤ 1 := hI7.fi 129 2 0 (by decide) rfl
            have lk_38 : u_30.1 129 2 = S7.1 129 2 := ((fu_30 129 rfl).1 2).trans (((fu_23 129 rfl).1 2).trans ((fu_16 129 rfl).1 2))
            have q_39 : (-1) ≤ u_30.1 127 2 ∧ u_30.1 127 2 ≤ 1 := iu_30.fi 127 2 0 (by decide) rfl
            refine sBv (sV (As := [.ref (G.2.2.1 + 127), .int (iv 1)]) (rest := []) (k := 129) Cx (t_X0_add_p l G u_30 (o := 129) (a := 127) (n := 14) (t := k - 1) iu_30 rfl rfl (show (129 : Nat) ≠ 127 by decide) (by omega) (fun q => by have e : u_30.2.1 130 14 = S7.2.1 130 14 := ((fu_30 130 rfl).2.1 14).trans (((fu_23 130 rfl).2.1 14).trans ((fu_16 130 rfl).2.1 14)); rw [e]; exact ht (by omega))) (c_X6_93 Cx rfl rfl (rmk_ok (by omega) (by decide))) hW (by decide) rfl rfl rfl hl.1 rfl (Nat.le_of_ble_eq_true rfl) dX6_combine_92 ⟨Nat.le_of_ble_eq_true rfl, Nat.le_of_ble_eq_true rfl⟩) hL (fun u_40 H locs k_41 hW hL => ?_)
            obtain ⟨iu_40, fu_40, xu_40⟩ := k_41
            have F_42 := F_32.trans (fu_40.to (pB_sub rfl rfl))
            have F_43 := F_33.trans (fu_40.to (pB_sub rfl rfl))
            refine lv_iinc (v := iv (k + 1)) (lv' := [(3, .int (iv (k + 1))), (0, .ref (G.2.2.1 + 120)), (1, .int (iv j)), (2, .ref (G.2.2.1 + 129))]) hx hb dX6_combine_95 hl (k := 0) rfl ((Int32.ofInt_add _ _).symm) (by decide) rfl (fun ls hl => ?_)
            refine lv_goto (tgt := 7) hx hb dX6_combine_98 (by decide) ?_
            have q_44 : 0 ≤ u_40.1 129 1 ∧ u_40.1 129 1 ≤ 32 := iu_40.fi 129 1 0 (by decide) rfl
            exact ih_7 u_40 (k + 1) _ _ _ (by omega) iu_40 F_42 F_43 (by omega) (by omega) (fun q => by have e : u_40.2.1 130 14 ≤ k - 1 + 1 := xu_40.2.1 q; omega) hW hL (lv_sub hl [0, 1, 2, 3] rfl)
  have q_45 : 0 ≤ u_1.1 129 1 ∧ u_1.1 129 1 ≤ 32 := iu_1.fi 129 1 0 (by decide) rfl
  exact loop_7 (_ + 1) u_1 1 _ _ _ (Nat.lt_succ_self _) iu_1 F_3 Fr.rf (by omega) (by omega) (fun q => absurd q (by omega)) hW hL (lv_sub hl [0, 1, 2, 3] rfl)

set_option maxRecDepth 100000 in
set_option maxHeartbeats 4000000 in
theorem s_X6_combine_193_202 (l : Launch) (G : sG) (S : sS) {j : Int} (hI : cX G S 0 0 0) (hj : 0 ≤ j ∧ j ≤ 12) : Met l yX6_combine (.code yX6_combine cX6_combine 4 none :: tb) (rmk 4 0 0) (sPc G 294 S [.ref (G.2.2.1 + 193), .int (iv j), .ref (G.2.2.1 + 202)]) (sQv G 294 (fun u => cX G u 0 0 0 ∧ Fr S u (pK 193 202) ∧ (u.1 202 1 ≤ 15 ∧ Hd (u.1 202 1 = 15 → u.2.1 203 14 ≤ 40)))) 0 0 (sF G) := by
  refine sEnter (by decide) (Nat.le_of_ble_eq_true rfl) ?_
  intro p e s m args below meth c Cx hr hlk hnm hW ls hl
  have Cx : sC G p m c cX6_combine 4 s args RX6 := Cx
  obtain ⟨hx, hb, hml, hown, hts⟩ := id Cx.1
  have hL : sL G [] := sL_nil
  have hl : lv_has ls 4 [(0, .ref (G.2.2.1 + 193)), (1, .int (iv j)), (2, .ref (G.2.2.1 + 202))] := hl
  have hW0 := hW
  refine lv_aload_n hx hb dX6_combine_0 rfl (lv_at hl 2 rfl) ?_
  refine lv_lconst (v := jv 0) hx hb dX6_combine_1 (by decide) ?_
  refine sBv (sV (As := [.long (jv 0)]) (rest := []) (k := 202) Cx (s_X0_put l G S (o := 202) (v := 0) hI rfl (by omega)) (c_X6_86 Cx rfl rfl (rmk_ok (by omega) (by decide))) hW (by decide) rfl rfl rfl hl.1 rfl (Nat.le_of_ble_eq_true rfl) dX6_combine_2 ⟨Nat.le_of_ble_eq_true rfl, Nat.le_of_ble_eq_true rfl⟩) hL (fun u_1 H locs k_2 hW hL => ?_)
  obtain ⟨iu_1, fu_1, xu_1⟩ := k_2
  have F_3 := (Fr.rf : Fr S S (pK 193 202)).trans (fu_1.to (pB_sub rfl rfl))
  refine lv_iconst (v := iv 1) hx hb dX6_combine_5 (by decide) ?_
  refine lv_istore_n (lv' := [(3, .int (iv 1)), (0, .ref (G.2.2.1 + 193)), (1, .int (iv j)), (2, .ref (G.2.2.1 + 202))]) hx hb dX6_combine_6 rfl hl (by decide) rfl (fun ls hl => ?_)
  have loop_7 : ∀ (fuel : Nat) (S7 : sS) (k : Int) (H : Heap) (locs : List Loc) (ls : Array Slot), (41 - k).toNat < fuel → (cX G S7 0 0 0) → (Fr S S7 (pK 193 202)) → (Fr u_1 S7 (pK 193 202)) → (1 ≤ k ∧ k ≤ 41) → (S7.1 202 1 ≤ 15) → (Hd (S7.1 202 1 = 15 → S7.2.1 203 14 ≤ k - 1)) → sW G 294 S7 H → sL G locs → lv_has ls 4 [(3, .int (iv k)), (0, .ref (G.2.2.1 + 193)), (1, .int (iv j)), (2, .ref (G.2.2.1 + 202))] → W p l e (rmk 4 0 0) s m args below meth c H locs 0 0 (MQ below (sQv G 294 (fun u => cX G u 0 0 0 ∧ Fr S u (pK 193 202) ∧ (u.1 202 1 ≤ 15 ∧ Hd (u.1 202 1 = 15 → u.2.1 203 14 ≤ 40)))) args s 0 0 (sF G)) (F0 m 7 ls []) := by
    intro fuel
    induction fuel with
    | zero => intro S7 k H locs ls hmeas hI7 hFm7 hL7_ hk hc ht hW hL hl; exact absurd hmeas (Nat.not_lt_zero _)
    | succ fuel ih_7 =>
      intro S7 k H locs ls hmeas hI7 hFm7 hL7_ hk hc ht hW hL hl
      refine lv_iload_n hx hb dX6_combine_7 rfl (lv_at hl 0 rfl) ?_
      refine lv_aload_n hx hb dX6_combine_8 rfl (lv_at hl 1 rfl) ?_
      have q_4 : 0 ≤ S.1 193 9 ∧ S.1 193 9 ≤ 40 := hI.fi 193 9 6 (by decide) rfl
      refine g_X6_50 Cx hW (k := 193) (by decide) rfl (v := S.1 193 9) (((hL7_ 193 rfl).1 9).trans ((fu_1 193 rfl).1 9)) dX6_combine_9 ?_
      refine r_icmp_gt (tgt := 101) hx hb ⟨(by omega), (by omega)⟩ ⟨(by omega), (by omega)⟩ dX6_combine_12 (by decide) (fun c_5 => ?_) (fun c_5 => ?_)
      · have q_6 : 0 ≤ S7.1 202 1 ∧ S7.1 202 1 ≤ 32 := hI7.fi 202 1 0 (by decide) rfl
        exact sVret Cx hr hlk hW hL ⟨hI7, hFm7, ⟨by omega, fun q => by have e := ht q; omega⟩⟩ dX6_combine_101
      · refine lv_aload_n hx hb dX6_combine_15 rfl (lv_at hl 1 rfl) ?_
        refine g_X6_17 Cx hW (k := 193) (by decide) rfl (v := .ref (G.2.2.1 + 195)) (rf_193_1 hI7) dX6_combine_16 ?_
        refine lv_iload_n hx hb dX6_combine_19 rfl (lv_at hl 0 rfl) ?_
        refine lv_bipush (v := iv 8) hx hb dX6_combine_20 (by decide) ?_
        refine r_imul hx hb dX6_combine_22 ?_
        refine rIald Cx hW (k := 195) (by decide) rfl (by decide) (by omega) (by omega) dX6_combine_23 ?_
        have q_7 : (-2147483648) ≤ S.2.1 195 (k * 8) ∧ S.2.1 195 (k * 8) ≤ 2147483647 := hI.ai 195 (k * 8) (by decide)
        refine r_i (b := S.2.1 195 (k * 8)) (((hL7_ 195 rfl).2.1 (k * 8)).trans ((fu_1 195 rfl).2.1 (k * 8))) ?_
        refine r_if_eq (tgt := 95) hx hb ⟨(by omega), (by omega)⟩ dX6_combine_24 (by decide) (fun c_8 => ?_) (fun c_8 => ?_)
        · refine lv_iinc (v := iv (k + 1)) (lv' := [(3, .int (iv (k + 1))), (0, .ref (G.2.2.1 + 193)), (1, .int (iv j)), (2, .ref (G.2.2.1 + 202))]) hx hb dX6_combine_95 hl (k := 0) rfl ((Int32.ofInt_add _ _).symm) (by decide) rfl (fun ls hl => ?_)
          refine lv_goto (tgt := 7) hx hb dX6_combine_98 (by decide) ?_
          have q_9 : 0 ≤ S7.1 202 1 ∧ S7.1 202 1 ≤ 32 := hI7.fi 202 1 0 (by decide) rfl
          exact ih_7 S7 (k + 1) _ _ _ (by omega) hI7 hFm7 hL7_ (by omega) (by omega) (fun q => by have e := ht q; omega) hW hL (lv_sub hl [0, 1, 2, 3] rfl)
        · refine lv_aload_n hx hb dX6_combine_27 rfl (lv_at hl 1 rfl) ?_
          refine g_X6_13 Cx hW (k := 193) (by decide) rfl (v := .ref (G.2.2.1 + 194)) (rf_193_0 hI7) dX6_combine_28 ?_
          refine lv_iload_n hx hb dX6_combine_31 rfl (lv_at hl 0 rfl) ?_
          refine lv_iload_n hx hb dX6_combine_32 rfl (lv_at hl 2 rfl) ?_
          refine sBi (sSt (As := [.int (iv k), .int (iv j)]) (rest := [.ref (G.2.2.1 + 194)]) Cx (s_X6_at l G S7 (k := k) (j := j) (by omega) (by omega)) (c_X6_53 Cx rfl rfl (rmk_ok (by omega) (by decide))) hW rfl hl.1 rfl (Nat.le_of_ble_eq_true rfl) dX6_combine_33 ⟨Nat.le_of_ble_eq_true rfl, Nat.le_of_ble_eq_true rfl⟩) hL (fun r_12 u_10 H locs k_11 hW hL => ?_)
          obtain ⟨eu_10, xu_10⟩ := k_11
          rw [eu_10] at hW
          refine rIald Cx hW (k := 194) (by decide) rfl (by decide) (by omega) (by omega) dX6_combine_36 ?_
          have q_13 : (-2147483648) ≤ S.2.1 194 r_12 ∧ S.2.1 194 r_12 ≤ 2147483647 := hI.ai 194 r_12 (by decide)
          refine r_i (b := S.2.1 194 r_12) (((hL7_ 194 rfl).2.1 r_12).trans ((fu_1 194 rfl).2.1 r_12)) ?_
          refine r_if_eq (tgt := 95) hx hb ⟨(by omega), (by omega)⟩ dX6_combine_37 (by decide) (fun c_14 => ?_) (fun c_14 => ?_)
          · refine lv_iinc (v := iv (k + 1)) (lv' := [(3, .int (iv (k + 1))), (0, .ref (G.2.2.1 + 193)), (1, .int (iv j)), (2, .ref (G.2.2.1 + 202))]) hx hb dX6_combine_95 hl (k := 0) rfl ((Int32.ofInt_add _ _).symm) (by decide) rfl (fun ls hl => ?_)
            refine lv_goto (tgt := 7) hx hb dX6_combine_98 (by decide) ?_
            have q_15 : 0 ≤ S7.1 202 1 ∧ S7.1 202 1 ≤ 32 := hI7.fi 202 1 0 (by decide) rfl
            exact ih_7 S7 (k + 1) _ _ _ (by omega) hI7 hFm7 hL7_ (by omega) (by omega) (fun q => by have e := ht q; omega) hW hL (lv_sub hl [0, 1, 2, 3] rfl)
          · refine lv_aload_n hx hb dX6_combine_40 rfl (lv_at hl 1 rfl) ?_
            refine g_X6_21 Cx hW (k := 193) (by decide) rfl (v := .ref (G.2.2.1 + 196)) (rf_193_2 hI7) dX6_combine_41 ?_
            refine lv_aload_n hx hb dX6_combine_44 rfl (lv_at hl 1 rfl) ?_
            refine g_X6_17 Cx hW (k := 193) (by decide) rfl (v := .ref (G.2.2.1 + 195)) (rf_193_1 hI7) dX6_combine_45 ?_
            refine lv_iload_n hx hb dX6_combine_48 rfl (lv_at hl 0 rfl) ?_
            refine lv_bipush (v := iv 8) hx hb dX6_combine_49 (by decide) ?_
            refine r_imul hx hb dX6_combine_51 ?_
            refine sBv (sV (As := [.ref (G.2.2.1 + 195), .int (iv (k * 8))]) (rest := []) (k := 196) Cx (s_X0_load l G S7 (o := 196) (k := 195) (a := k * 8) (N := 328) hI7 rfl ⟨by decide, rfl, by decide, rfl, rfl, rfl⟩ (by omega)) (c_X6_75 Cx rfl rfl (rmk_ok (by omega) (by decide))) hW (by decide) rfl rfl rfl hl.1 rfl (Nat.le_of_ble_eq_true rfl) dX6_combine_52 ⟨Nat.le_of_ble_eq_true rfl, Nat.le_of_ble_eq_true rfl⟩) hL (fun u_16 H locs k_17 hW hL => ?_)
            obtain ⟨iu_16, fu_16, xu_16⟩ := k_17
            have F_18 := hFm7.trans (fu_16.to (pB_sub rfl rfl))
            have F_19 := hL7_.trans (fu_16.to (pB_sub rfl rfl))
            have yu_16 : u_16.1 196 1 ≤ 7 := xu_16.1
            refine lv_aload_n hx hb dX6_combine_55 rfl (lv_at hl 1 rfl) ?_
            refine g_X6_25 Cx hW (k := 193) (by decide) rfl (v := .ref (G.2.2.1 + 198)) (rf_193_3 iu_16) dX6_combine_56 ?_
            refine lv_aload_n hx hb dX6_combine_59 rfl (lv_at hl 1 rfl) ?_
            refine g_X6_13 Cx hW (k := 193) (by decide) rfl (v := .ref (G.2.2.1 + 194)) (rf_193_0 iu_16) dX6_combine_60 ?_
            refine lv_iload_n hx hb dX6_combine_63 rfl (lv_at hl 0 rfl) ?_
            refine lv_iload_n hx hb dX6_combine_64 rfl (lv_at hl 2 rfl) ?_
            refine sBi (sSt (As := [.int (iv k), .int (iv j)]) (rest := [.ref (G.2.2.1 + 194), .ref (G.2.2.1 + 198)]) Cx (s_X6_at l G u_16 (k := k) (j := j) (by omega) (by omega)) (c_X6_53 Cx rfl rfl (rmk_ok (by omega) (by decide))) hW rfl hl.1 rfl (Nat.le_of_ble_eq_true rfl) dX6_combine_65 ⟨Nat.le_of_ble_eq_true rfl, Nat.le_of_ble_eq_true rfl⟩) hL (fun r_22 u_20 H locs k_21 hW hL => ?_)
            obtain ⟨eu_20, xu_20⟩ := k_21
            rw [eu_20] at hW
            refine sBv (sV (As := [.ref (G.2.2.1 + 194), .int (iv r_22)]) (rest := []) (k := 198) Cx (s_X0_load l G u_16 (o := 198) (k := 194) (a := r_22) (N := 4264) iu_16 rfl ⟨by decide, rfl, by decide, rfl, rfl, rfl⟩ (by omega)) (c_X6_75 Cx rfl rfl (rmk_ok (by omega) (by decide))) hW (by decide) rfl rfl rfl hl.1 rfl (Nat.le_of_ble_eq_true rfl) dX6_combine_68 ⟨Nat.le_of_ble_eq_true rfl, Nat.le_of_ble_eq_true rfl⟩) hL (fun u_23 H locs k_24 hW hL => ?_)
            obtain ⟨iu_23, fu_23, xu_23⟩ := k_24
            have F_25 := F_18.trans (fu_23.to (pB_sub rfl rfl))
            have F_26 := F_19.trans (fu_23.to (pB_sub rfl rfl))
            have yu_23 : u_23.1 198 1 ≤ 7 := xu_23.1
            refine lv_aload_n hx hb dX6_combine_71 rfl (lv_at hl 1 rfl) ?_
            refine g_X6_28 Cx hW (k := 193) (by decide) rfl (v := .ref (G.2.2.1 + 200)) (rf_193_4 iu_23) dX6_combine_72 ?_
            refine lv_aload_n hx hb dX6_combine_75 rfl (lv_at hl 1 rfl) ?_
            refine g_X6_21 Cx hW (k := 193) (by decide) rfl (v := .ref (G.2.2.1 + 196)) (rf_193_2 iu_23) dX6_combine_76 ?_
            refine lv_aload_n hx hb dX6_combine_79 rfl (lv_at hl 1 rfl) ?_
            refine g_X6_25 Cx hW (k := 193) (by decide) rfl (v := .ref (G.2.2.1 + 198)) (rf_193_3 iu_23) dX6_combine_80 ?_
            have q_27 : 0 ≤ u_16.1 196 1 ∧ u_16.1 196 1 ≤ 32 := iu_16.fi 196 1 0 (by decide) rfl
            have lk_28 : u_23.1 196 1 = u_16.1 196 1 := (fu_23 196 rfl).1 1
            have q_29 : 0 ≤ u_23.1 198 1 ∧ u_23.1 198 1 ≤ 32 := iu_23.fi 198 1 0 (by decide) rfl
            refine sBv (sV (As := [.ref (G.2.2.1 + 196), .ref (G.2.2.1 + 198)]) (rest := []) (k := 200) Cx (s_X0_product l G u_23 (o := 200) (a := 196) (b := 198) iu_23 rfl rfl rfl (show (200 : Nat) ≠ 196 by decide) (show (200 : Nat) ≠ 198 by decide)) (c_X6_90 Cx rfl rfl (rmk_ok (by omega) (by decide))) hW (by decide) rfl rfl rfl hl.1 rfl (Nat.le_of_ble_eq_true rfl) dX6_combine_83 ⟨Nat.le_of_ble_eq_true rfl, Nat.le_of_ble_eq_true rfl⟩) hL (fun u_30 H locs k_31 hW hL => ?_)
            obtain ⟨iu_30, fu_30, xu_30⟩ := k_31
            have F_32 := F_25.trans (fu_30.to (pB_sub rfl rfl))
            have F_33 := F_26.trans (fu_30.to (pB_sub rfl rfl))
            refine lv_aload_n hx hb dX6_combine_86 rfl (lv_at hl 3 rfl) ?_
            refine lv_aload_n hx hb dX6_combine_87 rfl (lv_at hl 1 rfl) ?_
            refine g_X6_28 Cx hW (k := 193) (by decide) rfl (v := .ref (G.2.2.1 + 200)) (rf_193_4 iu_30) dX6_combine_88 ?_
            refine lv_iconst (v := iv 1) hx hb dX6_combine_91 (by decide) ?_
            have q_34 : 0 ≤ u_30.1 200 1 ∧ u_30.1 200 1 ≤ 32 := iu_30.fi 200 1 0 (by decide) rfl
            have q_35 : 0 ≤ S7.1 202 1 ∧ S7.1 202 1 ≤ 32 := hI7.fi 202 1 0 (by decide) rfl
            have lk_36 : u_30.1 202 1 = S7.1 202 1 := ((fu_30 202 rfl).1 1).trans (((fu_23 202 rfl).1 1).trans ((fu_16 202 rfl).1 1))
            have q_37 : (-1) ≤ S7.1 202 2 ∧ S7.1 202 2 ≤ 1 := hI7.fi 202 2 0 (by decide) rfl
            have lk_38 : u_30.1 202 2 = S7.1 202 2 := ((fu_30 202 rfl).1 2).trans (((fu_23 202 rfl).1 2).trans ((fu_16 202 rfl).1 2))
            have q_39 : (-1) ≤ u_30.1 200 2 ∧ u_30.1 200 2 ≤ 1 := iu_30.fi 200 2 0 (by decide) rfl
            refine sBv (sV (As := [.ref (G.2.2.1 + 200), .int (iv 1)]) (rest := []) (k := 202) Cx (t_X0_add_p l G u_30 (o := 202) (a := 200) (n := 14) (t := k - 1) iu_30 rfl rfl (show (202 : Nat) ≠ 200 by decide) (by omega) (fun q => by have e : u_30.2.1 203 14 = S7.2.1 203 14 := ((fu_30 203 rfl).2.1 14).trans (((fu_23 203 rfl).2.1 14).trans ((fu_16 203 rfl).2.1 14)); rw [e]; exact ht (by omega))) (c_X6_93 Cx rfl rfl (rmk_ok (by omega) (by decide))) hW (by decide) rfl rfl rfl hl.1 rfl (Nat.le_of_ble_eq_true rfl) dX6_combine_92 ⟨Nat.le_of_ble_eq_true rfl, Nat.le_of_ble_eq_true rfl⟩) hL (fun u_40 H locs k_41 hW hL => ?_)
            obtain ⟨iu_40, fu_40, xu_40⟩ := k_41
            have F_42 := F_32.trans (fu_40.to (pB_sub rfl rfl))
            have F_43 := F_33.trans (fu_40.to (pB_sub rfl rfl))
            refine lv_iinc (v := iv (k + 1)) (lv' := [(3, .int (iv (k + 1))), (0, .ref (G.2.2.1 + 193)), (1, .int (iv j)), (2, .ref (G.2.2.1 + 202))]) hx hb dX6_combine_95 hl (k := 0) rfl ((Int32.ofInt_add _ _).symm) (by decide) rfl (fun ls hl => ?_)
            refine lv_goto (tgt := 7) hx hb dX6_combine_98 (by decide) ?_
            have q_44 : 0 ≤ u_40.1 202 1 ∧ u_40.1 202 1 ≤ 32 := iu_40.fi 202 1 0 (by decide) rfl
            exact ih_7 u_40 (k + 1) _ _ _ (by omega) iu_40 F_42 F_43 (by omega) (by omega) (fun q => by have e : u_40.2.1 203 14 ≤ k - 1 + 1 := xu_40.2.1 q; omega) hW hL (lv_sub hl [0, 1, 2, 3] rfl)
  have q_45 : 0 ≤ u_1.1 202 1 ∧ u_1.1 202 1 ≤ 32 := iu_1.fi 202 1 0 (by decide) rfl
  exact loop_7 (_ + 1) u_1 1 _ _ _ (Nat.lt_succ_self _) iu_1 F_3 Fr.rf (by omega) (by omega) (fun q => absurd q (by omega)) hW hL (lv_sub hl [0, 1, 2, 3] rfl)

set_option maxRecDepth 100000 in
set_option maxHeartbeats 4000000 in
theorem s_X6_combine_193_215 (l : Launch) (G : sG) (S : sS) {j : Int} (hI : cX G S 0 0 0) (hj : 0 ≤ j ∧ j ≤ 12) : Met l yX6_combine (.code yX6_combine cX6_combine 4 none :: tb) (rmk 4 0 0) (sPc G 294 S [.ref (G.2.2.1 + 193), .int (iv j), .ref (G.2.2.1 + 215)]) (sQv G 294 (fun u => cX G u 0 0 0 ∧ Fr S u (pK 193 215) ∧ (u.1 215 1 ≤ 15 ∧ Hd (u.1 215 1 = 15 → u.2.1 216 14 ≤ 40)))) 0 0 (sF G) := by
  refine sEnter (by decide) (Nat.le_of_ble_eq_true rfl) ?_
  intro p e s m args below meth c Cx hr hlk hnm hW ls hl
  have Cx : sC G p m c cX6_combine 4 s args RX6 := Cx
  obtain ⟨hx, hb, hml, hown, hts⟩ := id Cx.1
  have hL : sL G [] := sL_nil
  have hl : lv_has ls 4 [(0, .ref (G.2.2.1 + 193)), (1, .int (iv j)), (2, .ref (G.2.2.1 + 215))] := hl
  have hW0 := hW
  refine lv_aload_n hx hb dX6_combine_0 rfl (lv_at hl 2 rfl) ?_
  refine lv_lconst (v := jv 0) hx hb dX6_combine_1 (by decide) ?_
  refine sBv (sV (As := [.long (jv 0)]) (rest := []) (k := 215) Cx (s_X0_put l G S (o := 215) (v := 0) hI rfl (by omega)) (c_X6_86 Cx rfl rfl (rmk_ok (by omega) (by decide))) hW (by decide) rfl rfl rfl hl.1 rfl (Nat.le_of_ble_eq_true rfl) dX6_combine_2 ⟨Nat.le_of_ble_eq_true rfl, Nat.le_of_ble_eq_true rfl⟩) hL (fun u_1 H locs k_2 hW hL => ?_)
  obtain ⟨iu_1, fu_1, xu_1⟩ := k_2
  have F_3 := (Fr.rf : Fr S S (pK 193 215)).trans (fu_1.to (pB_sub rfl rfl))
  refine lv_iconst (v := iv 1) hx hb dX6_combine_5 (by decide) ?_
  refine lv_istore_n (lv' := [(3, .int (iv 1)), (0, .ref (G.2.2.1 + 193)), (1, .int (iv j)), (2, .ref (G.2.2.1 + 215))]) hx hb dX6_combine_6 rfl hl (by decide) rfl (fun ls hl => ?_)
  have loop_7 : ∀ (fuel : Nat) (S7 : sS) (k : Int) (H : Heap) (locs : List Loc) (ls : Array Slot), (41 - k).toNat < fuel → (cX G S7 0 0 0) → (Fr S S7 (pK 193 215)) → (Fr u_1 S7 (pK 193 215)) → (1 ≤ k ∧ k ≤ 41) → (S7.1 215 1 ≤ 15) → (Hd (S7.1 215 1 = 15 → S7.2.1 216 14 ≤ k - 1)) → sW G 294 S7 H → sL G locs → lv_has ls 4 [(3, .int (iv k)), (0, .ref (G.2.2.1 + 193)), (1, .int (iv j)), (2, .ref (G.2.2.1 + 215))] → W p l e (rmk 4 0 0) s m args below meth c H locs 0 0 (MQ below (sQv G 294 (fun u => cX G u 0 0 0 ∧ Fr S u (pK 193 215) ∧ (u.1 215 1 ≤ 15 ∧ Hd (u.1 215 1 = 15 → u.2.1 216 14 ≤ 40)))) args s 0 0 (sF G)) (F0 m 7 ls []) := by
    intro fuel
    induction fuel with
    | zero => intro S7 k H locs ls hmeas hI7 hFm7 hL7_ hk hc ht hW hL hl; exact absurd hmeas (Nat.not_lt_zero _)
    | succ fuel ih_7 =>
      intro S7 k H locs ls hmeas hI7 hFm7 hL7_ hk hc ht hW hL hl
      refine lv_iload_n hx hb dX6_combine_7 rfl (lv_at hl 0 rfl) ?_
      refine lv_aload_n hx hb dX6_combine_8 rfl (lv_at hl 1 rfl) ?_
      have q_4 : 0 ≤ S.1 193 9 ∧ S.1 193 9 ≤ 40 := hI.fi 193 9 6 (by decide) rfl
      refine g_X6_50 Cx hW (k := 193) (by decide) rfl (v := S.1 193 9) (((hL7_ 193 rfl).1 9).trans ((fu_1 193 rfl).1 9)) dX6_combine_9 ?_
      refine r_icmp_gt (tgt := 101) hx hb ⟨(by omega), (by omega)⟩ ⟨(by omega), (by omega)⟩ dX6_combine_12 (by decide) (fun c_5 => ?_) (fun c_5 => ?_)
      · have q_6 : 0 ≤ S7.1 215 1 ∧ S7.1 215 1 ≤ 32 := hI7.fi 215 1 0 (by decide) rfl
        exact sVret Cx hr hlk hW hL ⟨hI7, hFm7, ⟨by omega, fun q => by have e := ht q; omega⟩⟩ dX6_combine_101
      · refine lv_aload_n hx hb dX6_combine_15 rfl (lv_at hl 1 rfl) ?_
        refine g_X6_17 Cx hW (k := 193) (by decide) rfl (v := .ref (G.2.2.1 + 195)) (rf_193_1 hI7) dX6_combine_16 ?_
        refine lv_iload_n hx hb dX6_combine_19 rfl (lv_at hl 0 rfl) ?_
        refine lv_bipush (v := iv 8) hx hb dX6_combine_20 (by decide) ?_
        refine r_imul hx hb dX6_combine_22 ?_
        refine rIald Cx hW (k := 195) (by decide) rfl (by decide) (by omega) (by omega) dX6_combine_23 ?_
        have q_7 : (-2147483648) ≤ S.2.1 195 (k * 8) ∧ S.2.1 195 (k * 8) ≤ 2147483647 := hI.ai 195 (k * 8) (by decide)
        refine r_i (b := S.2.1 195 (k * 8)) (((hL7_ 195 rfl).2.1 (k * 8)).trans ((fu_1 195 rfl).2.1 (k * 8))) ?_
        refine r_if_eq (tgt := 95) hx hb ⟨(by omega), (by omega)⟩ dX6_combine_24 (by decide) (fun c_8 => ?_) (fun c_8 => ?_)
        · refine lv_iinc (v := iv (k + 1)) (lv' := [(3, .int (iv (k + 1))), (0, .ref (G.2.2.1 + 193)), (1, .int (iv j)), (2, .ref (G.2.2.1 + 215))]) hx hb dX6_combine_95 hl (k := 0) rfl ((Int32.ofInt_add _ _).symm) (by decide) rfl (fun ls hl => ?_)
          refine lv_goto (tgt := 7) hx hb dX6_combine_98 (by decide) ?_
          have q_9 : 0 ≤ S7.1 215 1 ∧ S7.1 215 1 ≤ 32 := hI7.fi 215 1 0 (by decide) rfl
          exact ih_7 S7 (k + 1) _ _ _ (by omega) hI7 hFm7 hL7_ (by omega) (by omega) (fun q => by have e := ht q; omega) hW hL (lv_sub hl [0, 1, 2, 3] rfl)
        · refine lv_aload_n hx hb dX6_combine_27 rfl (lv_at hl 1 rfl) ?_
          refine g_X6_13 Cx hW (k := 193) (by decide) rfl (v := .ref (G.2.2.1 + 194)) (rf_193_0 hI7) dX6_combine_28 ?_
          refine lv_iload_n hx hb dX6_combine_31 rfl (lv_at hl 0 rfl) ?_
          refine lv_iload_n hx hb dX6_combine_32 rfl (lv_at hl 2 rfl) ?_
          refine sBi (sSt (As := [.int (iv k), .int (iv j)]) (rest := [.ref (G.2.2.1 + 194)]) Cx (s_X6_at l G S7 (k := k) (j := j) (by omega) (by omega)) (c_X6_53 Cx rfl rfl (rmk_ok (by omega) (by decide))) hW rfl hl.1 rfl (Nat.le_of_ble_eq_true rfl) dX6_combine_33 ⟨Nat.le_of_ble_eq_true rfl, Nat.le_of_ble_eq_true rfl⟩) hL (fun r_12 u_10 H locs k_11 hW hL => ?_)
          obtain ⟨eu_10, xu_10⟩ := k_11
          rw [eu_10] at hW
          refine rIald Cx hW (k := 194) (by decide) rfl (by decide) (by omega) (by omega) dX6_combine_36 ?_
          have q_13 : (-2147483648) ≤ S.2.1 194 r_12 ∧ S.2.1 194 r_12 ≤ 2147483647 := hI.ai 194 r_12 (by decide)
          refine r_i (b := S.2.1 194 r_12) (((hL7_ 194 rfl).2.1 r_12).trans ((fu_1 194 rfl).2.1 r_12)) ?_
          refine r_if_eq (tgt := 95) hx hb ⟨(by omega), (by omega)⟩ dX6_combine_37 (by decide) (fun c_14 => ?_) (fun c_14 => ?_)
          · refine lv_iinc (v := iv (k + 1)) (lv' := [(3, .int (iv (k + 1))), (0, .ref (G.2.2.1 + 193)), (1, .int (iv j)), (2, .ref (G.2.2.1 + 215))]) hx hb dX6_combine_95 hl (k := 0) rfl ((Int32.ofInt_add _ _).symm) (by decide) rfl (fun ls hl => ?_)
            refine lv_goto (tgt := 7) hx hb dX6_combine_98 (by decide) ?_
            have q_15 : 0 ≤ S7.1 215 1 ∧ S7.1 215 1 ≤ 32 := hI7.fi 215 1 0 (by decide) rfl
            exact ih_7 S7 (k + 1) _ _ _ (by omega) hI7 hFm7 hL7_ (by omega) (by omega) (fun q => by have e := ht q; omega) hW hL (lv_sub hl [0, 1, 2, 3] rfl)
          · refine lv_aload_n hx hb dX6_combine_40 rfl (lv_at hl 1 rfl) ?_
            refine g_X6_21 Cx hW (k := 193) (by decide) rfl (v := .ref (G.2.2.1 + 196)) (rf_193_2 hI7) dX6_combine_41 ?_
            refine lv_aload_n hx hb dX6_combine_44 rfl (lv_at hl 1 rfl) ?_
            refine g_X6_17 Cx hW (k := 193) (by decide) rfl (v := .ref (G.2.2.1 + 195)) (rf_193_1 hI7) dX6_combine_45 ?_
            refine lv_iload_n hx hb dX6_combine_48 rfl (lv_at hl 0 rfl) ?_
            refine lv_bipush (v := iv 8) hx hb dX6_combine_49 (by decide) ?_
            refine r_imul hx hb dX6_combine_51 ?_
            refine sBv (sV (As := [.ref (G.2.2.1 + 195), .int (iv (k * 8))]) (rest := []) (k := 196) Cx (s_X0_load l G S7 (o := 196) (k := 195) (a := k * 8) (N := 328) hI7 rfl ⟨by decide, rfl, by decide, rfl, rfl, rfl⟩ (by omega)) (c_X6_75 Cx rfl rfl (rmk_ok (by omega) (by decide))) hW (by decide) rfl rfl rfl hl.1 rfl (Nat.le_of_ble_eq_true rfl) dX6_combine_52 ⟨Nat.le_of_ble_eq_true rfl, Nat.le_of_ble_eq_true rfl⟩) hL (fun u_16 H locs k_17 hW hL => ?_)
            obtain ⟨iu_16, fu_16, xu_16⟩ := k_17
            have F_18 := hFm7.trans (fu_16.to (pB_sub rfl rfl))
            have F_19 := hL7_.trans (fu_16.to (pB_sub rfl rfl))
            have yu_16 : u_16.1 196 1 ≤ 7 := xu_16.1
            refine lv_aload_n hx hb dX6_combine_55 rfl (lv_at hl 1 rfl) ?_
            refine g_X6_25 Cx hW (k := 193) (by decide) rfl (v := .ref (G.2.2.1 + 198)) (rf_193_3 iu_16) dX6_combine_56 ?_
            refine lv_aload_n hx hb dX6_combine_59 rfl (lv_at hl 1 rfl) ?_
            refine g_X6_13 Cx hW (k := 193) (by decide) rfl (v := .ref (G.2.2.1 + 194)) (rf_193_0 iu_16) dX6_combine_60 ?_
            refine lv_iload_n hx hb dX6_combine_63 rfl (lv_at hl 0 rfl) ?_
            refine lv_iload_n hx hb dX6_combine_64 rfl (lv_at hl 2 rfl) ?_
            refine sBi (sSt (As := [.int (iv k), .int (iv j)]) (rest := [.ref (G.2.2.1 + 194), .ref (G.2.2.1 + 198)]) Cx (s_X6_at l G u_16 (k := k) (j := j) (by omega) (by omega)) (c_X6_53 Cx rfl rfl (rmk_ok (by omega) (by decide))) hW rfl hl.1 rfl (Nat.le_of_ble_eq_true rfl) dX6_combine_65 ⟨Nat.le_of_ble_eq_true rfl, Nat.le_of_ble_eq_true rfl⟩) hL (fun r_22 u_20 H locs k_21 hW hL => ?_)
            obtain ⟨eu_20, xu_20⟩ := k_21
            rw [eu_20] at hW
            refine sBv (sV (As := [.ref (G.2.2.1 + 194), .int (iv r_22)]) (rest := []) (k := 198) Cx (s_X0_load l G u_16 (o := 198) (k := 194) (a := r_22) (N := 4264) iu_16 rfl ⟨by decide, rfl, by decide, rfl, rfl, rfl⟩ (by omega)) (c_X6_75 Cx rfl rfl (rmk_ok (by omega) (by decide))) hW (by decide) rfl rfl rfl hl.1 rfl (Nat.le_of_ble_eq_true rfl) dX6_combine_68 ⟨Nat.le_of_ble_eq_true rfl, Nat.le_of_ble_eq_true rfl⟩) hL (fun u_23 H locs k_24 hW hL => ?_)
            obtain ⟨iu_23, fu_23, xu_23⟩ := k_24
            have F_25 := F_18.trans (fu_23.to (pB_sub rfl rfl))
            have F_26 := F_19.trans (fu_23.to (pB_sub rfl rfl))
            have yu_23 : u_23.1 198 1 ≤ 7 := xu_23.1
            refine lv_aload_n hx hb dX6_combine_71 rfl (lv_at hl 1 rfl) ?_
            refine g_X6_28 Cx hW (k := 193) (by decide) rfl (v := .ref (G.2.2.1 + 200)) (rf_193_4 iu_23) dX6_combine_72 ?_
            refine lv_aload_n hx hb dX6_combine_75 rfl (lv_at hl 1 rfl) ?_
            refine g_X6_21 Cx hW (k := 193) (by decide) rfl (v := .ref (G.2.2.1 + 196)) (rf_193_2 iu_23) dX6_combine_76 ?_
            refine lv_aload_n hx hb dX6_combine_79 rfl (lv_at hl 1 rfl) ?_
            refine g_X6_25 Cx hW (k := 193) (by decide) rfl (v := .ref (G.2.2.1 + 198)) (rf_193_3 iu_23) dX6_combine_80 ?_
            have q_27 : 0 ≤ u_16.1 196 1 ∧ u_16.1 196 1 ≤ 32 := iu_16.fi 196 1 0 (by decide) rfl
            have lk_28 : u_23.1 196 1 = u_16.1 196 1 := (fu_23 196 rfl).1 1
            have q_29 : 0 ≤ u_23.1 198 1 ∧ u_23.1 198 1 ≤ 32 := iu_23.fi 198 1 0 (by decide) rfl
            refine sBv (sV (As := [.ref (G.2.2.1 + 196), .ref (G.2.2.1 + 198)]) (rest := []) (k := 200) Cx (s_X0_product l G u_23 (o := 200) (a := 196) (b := 198) iu_23 rfl rfl rfl (show (200 : Nat) ≠ 196 by decide) (show (200 : Nat) ≠ 198 by decide)) (c_X6_90 Cx rfl rfl (rmk_ok (by omega) (by decide))) hW (by decide) rfl rfl rfl hl.1 rfl (Nat.le_of_ble_eq_true rfl) dX6_combine_83 ⟨Nat.le_of_ble_eq_true rfl, Nat.le_of_ble_eq_true rfl⟩) hL (fun u_30 H locs k_31 hW hL => ?_)
            obtain ⟨iu_30, fu_30, xu_30⟩ := k_31
            have F_32 := F_25.trans (fu_30.to (pB_sub rfl rfl))
            have F_33 := F_26.trans (fu_30.to (pB_sub rfl rfl))
            refine lv_aload_n hx hb dX6_combine_86 rfl (lv_at hl 3 rfl) ?_
            refine lv_aload_n hx hb dX6_combine_87 rfl (lv_at hl 1 rfl) ?_
            refine g_X6_28 Cx hW (k := 193) (by decide) rfl (v := .ref (G.2.2.1 + 200)) (rf_193_4 iu_30) dX6_combine_88 ?_
            refine lv_iconst (v := iv 1) hx hb dX6_combine_91 (by decide) ?_
            have q_34 : 0 ≤ u_30.1 200 1 ∧ u_30.1 200 1 ≤ 32 := iu_30.fi 200 1 0 (by decide) rfl
            have q_35 : 0 ≤ S7.1 215 1 ∧ S7.1 215 1 ≤ 32 := hI7.fi 215 1 0 (by decide) rfl
            have lk_36 : u_30.1 215 1 = S7.1 215 1 := ((fu_30 215 rfl).1 1).trans (((fu_23 215 rfl).1 1).trans ((fu_16 215 rfl).1 1))
            have q_37 : (-1) ≤ S7.1 215 2 ∧ S7.1 215 2 ≤ 1 := hI7.fi 215 2 0 (by decide) rfl
            have lk_38 : u_30.1 215 2 = S7.1 215 2 := ((fu_30 215 rfl).1 2).trans (((fu_23 215 rfl).1 2).trans ((fu_16 215 rfl).1 2))
            have q_39 : (-1) ≤ u_30.1 200 2 ∧ u_30.1 200 2 ≤ 1 := iu_30.fi 200 2 0 (by decide) rfl
            refine sBv (sV (As := [.ref (G.2.2.1 + 200), .int (iv 1)]) (rest := []) (k := 215) Cx (t_X0_add_p l G u_30 (o := 215) (a := 200) (n := 14) (t := k - 1) iu_30 rfl rfl (show (215 : Nat) ≠ 200 by decide) (by omega) (fun q => by have e : u_30.2.1 216 14 = S7.2.1 216 14 := ((fu_30 216 rfl).2.1 14).trans (((fu_23 216 rfl).2.1 14).trans ((fu_16 216 rfl).2.1 14)); rw [e]; exact ht (by omega))) (c_X6_93 Cx rfl rfl (rmk_ok (by omega) (by decide))) hW (by decide) rfl rfl rfl hl.1 rfl (Nat.le_of_ble_eq_true rfl) dX6_combine_92 ⟨Nat.le_of_ble_eq_true rfl, Nat.le_of_ble_eq_true rfl⟩) hL (fun u_40 H locs k_41 hW hL => ?_)
            obtain ⟨iu_40, fu_40, xu_40⟩ := k_41
            have F_42 := F_32.trans (fu_40.to (pB_sub rfl rfl))
            have F_43 := F_33.trans (fu_40.to (pB_sub rfl rfl))
            refine lv_iinc (v := iv (k + 1)) (lv' := [(3, .int (iv (k + 1))), (0, .ref (G.2.2.1 + 193)), (1, .int (iv j)), (2, .ref (G.2.2.1 + 215))]) hx hb dX6_combine_95 hl (k := 0) rfl ((Int32.ofInt_add _ _).symm) (by decide) rfl (fun ls hl => ?_)
            refine lv_goto (tgt := 7) hx hb dX6_combine_98 (by decide) ?_
            have q_44 : 0 ≤ u_40.1 215 1 ∧ u_40.1 215 1 ≤ 32 := iu_40.fi 215 1 0 (by decide) rfl
            exact ih_7 u_40 (k + 1) _ _ _ (by omega) iu_40 F_42 F_43 (by omega) (by omega) (fun q => by have e : u_40.2.1 216 14 ≤ k - 1 + 1 := xu_40.2.1 q; omega) hW hL (lv_sub hl [0, 1, 2, 3] rfl)
  have q_45 : 0 ≤ u_1.1 215 1 ∧ u_1.1 215 1 ≤ 32 := iu_1.fi 215 1 0 (by decide) rfl
  exact loop_7 (_ + 1) u_1 1 _ _ _ (Nat.lt_succ_self _) iu_1 F_3 Fr.rf (by omega) (by omega) (fun q => absurd q (by omega)) hW hL (lv_sub hl [0, 1, 2, 3] rfl)

set_option maxRecDepth 100000 in
set_option maxHeartbeats 4000000 in
theorem s_X6_addCut_120 (l : Launch) (G : sG) (S : sS)  (hI : cX G S 0 0 0) (hq : S.1 183 1 ≤ 30) : Met l yX6_addCut (.code yX6_addCut cX6_addCut 3 (some .boolean) :: tb) (rmk 5 0 0) (sPc G 294 S [.ref (G.2.2.1 + 120), .ref (G.2.2.1 + 183)]) (sQi G 294 (fun r u => cX G u 0 0 0 ∧ Fr S u pW ∧ (0 ≤ r ∧ r ≤ 1))) 0 0 (sF G) := by
  refine sEnter (by decide) (Nat.le_of_ble_eq_true rfl) ?_
  intro p e s m args below meth c Cx hr hlk hnm hW ls hl
  have Cx : sC G p m c cX6_addCut 3 s args RX6 := Cx
  obtain ⟨hx, hb, hml, hown, hts⟩ := id Cx.1
  have hL : sL G [] := sL_nil
  have hl : lv_has ls 3 [(0, .ref (G.2.2.1 + 120)), (1, .ref (G.2.2.1 + 183))] := hl
  have hW0 := hW
  refine lv_aload_n hx hb dX6_addCut_0 rfl (lv_at hl 0 rfl) ?_
  have q_1 : 0 ≤ S.1 120 9 ∧ S.1 120 9 ≤ 40 := hI.fi 120 9 6 (by decide) rfl
  refine sBi (sV (As := []) (rest := []) (k := 120) Cx (s_X6_isFull_120 l G S  hI) (c_X6_97 Cx rfl rfl (rmk_ok (by omega) (by decide))) hW (by decide) rfl rfl rfl hl.1 rfl (Nat.le_of_ble_eq_true rfl) dX6_addCut_1 ⟨Nat.le_of_ble_eq_true rfl, Nat.le_of_ble_eq_true rfl⟩) hL (fun r_4 u_2 H locs k_3 hW hL => ?_)
  obtain ⟨eu_2, xu_2⟩ := k_3
  rw [eu_2] at hW
  refine r_if_eq (tgt := 9) hx hb ⟨(by omega), (by omega)⟩ dX6_addCut_4 (by decide) (fun c_5 => ?_) (fun c_5 => ?_)
  · refine lv_iconst (v := iv 0) hx hb dX6_addCut_9 (by decide) ?_
    refine lv_istore_n (lv' := [(2, .int (iv 0)), (0, .ref (G.2.2.1 + 120)), (1, .ref (G.2.2.1 + 183))]) hx hb dX6_addCut_10 rfl hl (by decide) rfl (fun ls hl => ?_)
    have loop_11 : ∀ (fuel : Nat) (S11 : sS) (j : Int) (H : Heap) (locs : List Loc) (ls : Array Slot), (13 - j).toNat < fuel → (cX G S11 0 0 0) → (Fr S S11 pW) → (Fr S S11 pN) → (0 ≤ j ∧ j ≤ 13) → (S11.1 183 1 ≤ 30) → sW G 294 S11 H → sL G locs → lv_has ls 3 [(2, .int (iv j)), (0, .ref (G.2.2.1 + 120)), (1, .ref (G.2.2.1 + 183))] → W p l e (rmk 5 0 0) s m args below meth c H locs 0 0 (MQ below (sQi G 294 (fun r u => cX G u 0 0 0 ∧ Fr S u pW ∧ (0 ≤ r ∧ r ≤ 1))) args s 0 0 (sF G)) (F0 m 11 ls []) := by
      intro fuel
      induction fuel with
      | zero => intro S11 j H locs ls hmeas hI11 hFm11 hL11_ hj hq2 hW hL hl; exact absurd hmeas (Nat.not_lt_zero _)
      | succ fuel ih_11 =>
        intro S11 j H locs ls hmeas hI11 hFm11 hL11_ hj hq2 hW hL hl
        refine lv_iload_n hx hb dX6_addCut_11 rfl (lv_at hl 0 rfl) ?_
        refine lv_aload_n hx hb dX6_addCut_12 rfl (lv_at hl 1 rfl) ?_
        have q_6 : 0 ≤ S.1 120 8 ∧ S.1 120 8 ≤ 12 := hI.fi 120 8 6 (by decide) rfl
        refine g_X6_46 Cx hW (k := 120) (by decide) rfl (v := S.1 120 8) ((hL11_ 120 rfl).1 8) dX6_addCut_13 ?_
        refine r_icmp_gt (tgt := 85) hx hb ⟨(by omega), (by omega)⟩ ⟨(by omega), (by omega)⟩ dX6_addCut_16 (by decide) (fun c_7 => ?_) (fun c_7 => ?_)
        · refine lv_aload_n hx hb dX6_addCut_85 rfl (lv_at hl 1 rfl) ?_
          refine lv_dup hx hb dX6_addCut_86 rfl ?_
          refine g_X6_50 Cx hW (k := 120) (by decide) rfl (v := S.1 120 9) ((hL11_ 120 rfl).1 9) dX6_addCut_87 ?_
          refine lv_iconst (v := iv 1) hx hb dX6_addCut_90 (by decide) ?_
          refine r_iadd hx hb dX6_addCut_91 ?_
          refine p_X6_50 Cx hW hL (k := 120) (by decide) rfl dX6_addCut_92 (fun H locs hW hL => ?_)
          have F_8 : Fr S (uF S11 120 9 ((S.1 120 9) + 1)) pW := hFm11.F rfl
          have i_9 : cX G (uF S11 120 9 ((S.1 120 9) + 1)) 0 0 0 := hI11.F rfl rfl (show 0 ≤ (S.1 120 9) + 1 ∧ (S.1 120 9) + 1 ≤ 40 from ⟨by omega, by omega⟩)
          refine lv_iconst (v := iv 1) hx hb dX6_addCut_95 (by decide) ?_
          exact sZret Cx hr hlk hW hL (by omega) ⟨i_9, F_8, (by omega)⟩ dX6_addCut_96
        · refine lv_aload_n hx hb dX6_addCut_19 rfl (lv_at hl 1 rfl) ?_
          refine lv_iload_n hx hb dX6_addCut_20 rfl (lv_at hl 0 rfl) ?_
          refine lv_aload_n hx hb dX6_addCut_21 rfl (lv_at hl 1 rfl) ?_
          refine g_X6_31 Cx hW (k := 120) (by decide) rfl (v := .ref (G.2.2.1 + 129)) (rf_120_5 hI11) dX6_addCut_22 ?_
          refine sBv (sV (As := [.int (iv j), .ref (G.2.2.1 + 129)]) (rest := []) (k := 120) Cx (s_X6_combine_120_129 l G S11 (j := j) hI11 (by omega)) (c_X6_101 Cx rfl rfl (rmk_ok (by omega) (by decide))) hW (by decide) rfl rfl rfl hl.1 rfl (Nat.le_of_ble_eq_true rfl) dX6_addCut_25 ⟨Nat.le_of_ble_eq_true rfl, Nat.le_of_ble_eq_true rfl⟩) hL (fun u_10 H locs k_11 hW hL => ?_)
          obtain ⟨iu_10, fu_10, xu_10⟩ := k_11
          have F_12 := hFm11.trans (fu_10.to (fun k h => pN_W k ((pK_sub rgN_120 rfl rfl) k h)))
          have F_13 := hL11_.trans (fu_10.to (pK_sub rgN_120 rfl rfl))
          refine lv_aload_n hx hb dX6_addCut_28 rfl (lv_at hl 1 rfl) ?_
          refine g_X6_31 Cx hW (k := 120) (by decide) rfl (v := .ref (G.2.2.1 + 129)) (rf_120_5 iu_10) dX6_addCut_29 ?_
          refine lv_aload_n hx hb dX6_addCut_32 rfl (lv_at hl 2 rfl) ?_
          refine lv_aload_n hx hb dX6_addCut_33 rfl (lv_at hl 1 rfl) ?_
          refine g_X6_34 Cx hW (k := 120) (by decide) rfl (v := .ref (G.2.2.1 + 131)) (rf_120_6 iu_10) dX6_addCut_34 ?_
          refine lv_aload_n hx hb dX6_addCut_37 rfl (lv_at hl 1 rfl) ?_
          refine g_X6_37 Cx hW (k := 120) (by decide) rfl (v := .ref (G.2.2.1 + 133)) (rf_120_7 iu_10) dX6_addCut_38 ?_
          have q_14 : 0 ≤ u_10.1 129 1 ∧ u_10.1 129 1 ≤ 32 := iu_10.fi 129 1 0 (by decide) rfl
          have q_15 : 0 ≤ S11.1 183 1 ∧ S11.1 183 1 ≤ 32 := hI11.fi 183 1 0 (by decide) rfl
          have lk_16 : u_10.1 183 1 = S11.1 183 1 := (fu_10 183 rfl).1 1
          have q_17 : (-1) ≤ u_10.1 129 2 ∧ u_10.1 129 2 ≤ 1 := iu_10.fi 129 2 0 (by decide) rfl
          have q_18 : (-1) ≤ S11.1 183 2 ∧ S11.1 183 2 ≤ 1 := hI11.fi 183 2 0 (by decide) rfl
          have lk_19 : u_10.1 183 2 = S11.1 183 2 := (fu_10 183 rfl).1 2
          refine sBv (sV (As := [.ref (G.2.2.1 + 183), .ref (G.2.2.1 + 131), .ref (G.2.2.1 + 133)]) (rest := []) (k := 129) Cx (s_X0_divide l G u_10 (o := 129) (b := 183) (q := 131) (h := 133) (n := 15) iu_10 rfl rfl rfl rfl (show (129 : Nat) ≠ 183 by decide) (show (129 : Nat) ≠ 131 by decide) (show (129 : Nat) ≠ 133 by decide) (show (183 : Nat) ≠ 131 by decide) (show (183 : Nat) ≠ 133 by decide) (show (131 : Nat) ≠ 133 by decide) (by omega)) (c_X6_105 Cx rfl rfl (rmk_ok (by omega) (by decide))) hW (by decide) rfl rfl rfl hl.1 rfl (Nat.le_of_ble_eq_true rfl) dX6_addCut_41 ⟨Nat.le_of_ble_eq_true rfl, Nat.le_of_ble_eq_true rfl⟩) hL (fun u_20 H locs k_21 hW hL => ?_)
          obtain ⟨iu_20, fu_20, xu_20⟩ := k_21
          have F_22 := F_12.trans (fu_20.to (pD_sub (pB_sub rfl rfl) (pB_sub rfl rfl) (pB_sub rfl rfl)))
          have F_23 := F_13.trans (fu_20.to (pD_sub (pB_sub rfl rfl) (pB_sub rfl rfl) (pB_sub rfl rfl)))
          refine lv_aload_n hx hb dX6_addCut_44 rfl (lv_at hl 1 rfl) ?_
          refine g_X6_34 Cx hW (k := 120) (by decide) rfl (v := .ref (G.2.2.1 + 131)) (rf_120_6 iu_20) dX6_addCut_45 ?_
          have q_24 : 0 ≤ u_20.1 131 1 ∧ u_20.1 131 1 ≤ 32 := iu_20.fi 131 1 0 (by decide) rfl
          refine sBi (sV (As := []) (rest := []) (k := 131) Cx (s_X0_digitCount l G u_20 (o := 131) iu_20 rfl) (c_X6_109 Cx rfl rfl (rmk_ok (by omega) (by decide))) hW (by decide) rfl rfl rfl hl.1 rfl (Nat.le_of_ble_eq_true rfl) dX6_addCut_48 ⟨Nat.le_of_ble_eq_true rfl, Nat.le_of_ble_eq_true rfl⟩) hL (fun r_27 u_25 H locs k_26 hW hL => ?_)
          obtain ⟨eu_25, xu_25⟩ := k_26
          rw [eu_25] at hW
          refine lv_bipush (v := iv 60) hx hb dX6_addCut_51 (by decide) ?_
          refine r_icmp_le (tgt := 58) hx hb ⟨(by omega), (by omega)⟩ ⟨(by omega), (by omega)⟩ dX6_addCut_53 (by decide) (fun c_28 => ?_) (fun c_28 => ?_)
          · refine lv_aload_n hx hb dX6_addCut_58 rfl (lv_at hl 1 rfl) ?_
            refine g_X6_34 Cx hW (k := 120) (by decide) rfl (v := .ref (G.2.2.1 + 131)) (rf_120_6 iu_20) dX6_addCut_59 ?_
            refine lv_aload_n hx hb dX6_addCut_62 rfl (lv_at hl 1 rfl) ?_
            refine g_X6_13 Cx hW (k := 120) (by decide) rfl (v := .ref (G.2.2.1 + 121)) (rf_120_0 iu_20) dX6_addCut_63 ?_
            refine lv_aload_n hx hb dX6_addCut_66 rfl (lv_at hl 1 rfl) ?_
            refine g_X6_50 Cx hW (k := 120) (by decide) rfl (v := S.1 120 9) (((fu_20 120 rfl).1 9).trans (((fu_10 120 rfl).1 9).trans ((hL11_ 120 rfl).1 9))) dX6_addCut_67 ?_
            refine lv_iconst (v := iv 1) hx hb dX6_addCut_70 (by decide) ?_
            refine r_iadd hx hb dX6_addCut_71 ?_
            refine lv_iload_n hx hb dX6_addCut_72 rfl (lv_at hl 0 rfl) ?_
            refine sBi (sSt (As := [.int (iv ((S.1 120 9) + 1)), .int (iv j)]) (rest := [.ref (G.2.2.1 + 121), .ref (G.2.2.1 + 131)]) Cx (s_X6_at l G u_20 (k := (S.1 120 9) + 1) (j := j) (by omega) (by omega)) (c_X6_53 Cx rfl rfl (rmk_ok (by omega) (by decide))) hW rfl hl.1 rfl (Nat.le_of_ble_eq_true rfl) dX6_addCut_73 ⟨Nat.le_of_ble_eq_true rfl, Nat.le_of_ble_eq_true rfl⟩) hL (fun r_31 u_29 H locs k_30 hW hL => ?_)
            obtain ⟨eu_29, xu_29⟩ := k_30
            rw [eu_29] at hW
            have q_32 : (-1) ≤ u_20.1 131 2 ∧ u_20.1 131 2 ≤ 1 := iu_20.fi 131 2 0 (by decide) rfl
            refine sBv (sV (As := [.ref (G.2.2.1 + 121), .int (iv r_31)]) (rest := []) (k := 131) Cx (s_X0_save l G u_20 (o := 131) (k := 121) (a := r_31) (N := 4264) iu_20 rfl ⟨by decide, rfl, by decide, rfl, rfl, rfl⟩ (by omega) (show _ ≤ (7 : Int) ∧ (_ → _ ≤ (999999999 : Int)) from ⟨by omega, fun _ => by have := limbR iu_20 (rfl : tau 131 = .inl 0) 6; omega⟩) (fun q _ => by rcases q with q | q <;> exact absurd q (by decide))) (c_X6_83 Cx rfl rfl (rmk_ok (by omega) (by decide))) hW (by decide) rfl rfl rfl hl.1 rfl (Nat.le_of_ble_eq_true rfl) dX6_addCut_76 ⟨Nat.le_of_ble_eq_true rfl, Nat.le_of_ble_eq_true rfl⟩) hL (fun u_33 H locs k_34 hW hL => ?_)
            obtain ⟨iu_33, fu_33⟩ := k_34
            have F_35 := F_22.trans (fu_33.to (p1_sub rfl))
            have F_36 := F_23.trans (fu_33.to (p1_sub rfl))
            refine lv_iinc (v := iv (j + 1)) (lv' := [(2, .int (iv (j + 1))), (0, .ref (G.2.2.1 + 120)), (1, .ref (G.2.2.1 + 183))]) hx hb dX6_addCut_79 hl (k := 0) rfl ((Int32.ofInt_add _ _).symm) (by decide) rfl (fun ls hl => ?_)
            refine lv_goto (tgt := 11) hx hb dX6_addCut_82 (by decide) ?_
            have lk_37 : u_33.1 183 1 = S11.1 183 1 := ((fu_33 183 rfl).1 1).trans (((fu_20 183 rfl).1 1).trans ((fu_10 183 rfl).1 1))
            exact ih_11 u_33 (j + 1) _ _ _ (by omega) iu_33 F_35 F_36 (by omega) (by omega) hW hL (lv_sub hl [0, 1, 2] rfl)
          · refine lv_iconst (v := iv 0) hx hb dX6_addCut_56 (by decide) ?_
            exact sZret Cx hr hlk hW hL (by omega) ⟨iu_20, F_22, (by omega)⟩ dX6_addCut_57
    have q_38 : 0 ≤ S.1 183 1 ∧ S.1 183 1 ≤ 32 := hI.fi 183 1 0 (by decide) rfl
    exact loop_11 (_ + 1) S 0 _ _ _ (Nat.lt_succ_self _) hI (Fr.rf : Fr S S pW) Fr.rf (by omega) (by omega) hW hL (lv_sub hl [0, 1, 2] rfl)
  · refine lv_iconst (v := iv 0) hx hb dX6_addCut_7 (by decide) ?_
    exact sZret Cx hr hlk hW hL (by omega) ⟨hI, (Fr.rf : Fr S S pW), (by omega)⟩ dX6_addCut_8

set_option maxRecDepth 100000 in
set_option maxHeartbeats 4000000 in
theorem s_X6_addCut_193 (l : Launch) (G : sG) (S : sS)  (hI : cX G S 0 0 0) (hq : S.1 213 1 ≤ 30) : Met l yX6_addCut (.code yX6_addCut cX6_addCut 3 (some .boolean) :: tb) (rmk 5 0 0) (sPc G 294 S [.ref (G.2.2.1 + 193), .ref (G.2.2.1 + 213)]) (sQi G 294 (fun r u => cX G u 0 0 0 ∧ Fr S u pW ∧ (0 ≤ r ∧ r ≤ 1))) 0 0 (sF G) := by
  refine sEnter (by decide) (Nat.le_of_ble_eq_true rfl) ?_
  intro p e s m args below meth c Cx hr hlk hnm hW ls hl
  have Cx : sC G p m c cX6_addCut 3 s args RX6 := Cx
  obtain ⟨hx, hb, hml, hown, hts⟩ := id Cx.1
  have hL : sL G [] := sL_nil
  have hl : lv_has ls 3 [(0, .ref (G.2.2.1 + 193)), (1, .ref (G.2.2.1 + 213))] := hl
  have hW0 := hW
  refine lv_aload_n hx hb dX6_addCut_0 rfl (lv_at hl 0 rfl) ?_
  have q_1 : 0 ≤ S.1 193 9 ∧ S.1 193 9 ≤ 40 := hI.fi 193 9 6 (by decide) rfl
  refine sBi (sV (As := []) (rest := []) (k := 193) Cx (s_X6_isFull_193 l G S  hI) (c_X6_97 Cx rfl rfl (rmk_ok (by omega) (by decide))) hW (by decide) rfl rfl rfl hl.1 rfl (Nat.le_of_ble_eq_true rfl) dX6_addCut_1 ⟨Nat.le_of_ble_eq_true rfl, Nat.le_of_ble_eq_true rfl⟩) hL (fun r_4 u_2 H locs k_3 hW hL => ?_)
  obtain ⟨eu_2, xu_2⟩ := k_3
  rw [eu_2] at hW
  refine r_if_eq (tgt := 9) hx hb ⟨(by omega), (by omega)⟩ dX6_addCut_4 (by decide) (fun c_5 => ?_) (fun c_5 => ?_)
  · refine lv_iconst (v := iv 0) hx hb dX6_addCut_9 (by decide) ?_
    refine lv_istore_n (lv' := [(2, .int (iv 0)), (0, .ref (G.2.2.1 + 193)), (1, .ref (G.2.2.1 + 213))]) hx hb dX6_addCut_10 rfl hl (by decide) rfl (fun ls hl => ?_)
    have loop_11 : ∀ (fuel : Nat) (S11 : sS) (j : Int) (H : Heap) (locs : List Loc) (ls : Array Slot), (13 - j).toNat < fuel → (cX G S11 0 0 0) → (Fr S S11 pW) → (Fr S S11 pN) → (0 ≤ j ∧ j ≤ 13) → (S11.1 213 1 ≤ 30) → sW G 294 S11 H → sL G locs → lv_has ls 3 [(2, .int (iv j)), (0, .ref (G.2.2.1 + 193)), (1, .ref (G.2.2.1 + 213))] → W p l e (rmk 5 0 0) s m args below meth c H locs 0 0 (MQ below (sQi G 294 (fun r u => cX G u 0 0 0 ∧ Fr S u pW ∧ (0 ≤ r ∧ r ≤ 1))) args s 0 0 (sF G)) (F0 m 11 ls []) := by
      intro fuel
      induction fuel with
      | zero => intro S11 j H locs ls hmeas hI11 hFm11 hL11_ hj hq2 hW hL hl; exact absurd hmeas (Nat.not_lt_zero _)
      | succ fuel ih_11 =>
        intro S11 j H locs ls hmeas hI11 hFm11 hL11_ hj hq2 hW hL hl
        refine lv_iload_n hx hb dX6_addCut_11 rfl (lv_at hl 0 rfl) ?_
        refine lv_aload_n hx hb dX6_addCut_12 rfl (lv_at hl 1 rfl) ?_
        have q_6 : 0 ≤ S.1 193 8 ∧ S.1 193 8 ≤ 12 := hI.fi 193 8 6 (by decide) rfl
        refine g_X6_46 Cx hW (k := 193) (by decide) rfl (v := S.1 193 8) ((hL11_ 193 rfl).1 8) dX6_addCut_13 ?_
        refine r_icmp_gt (tgt := 85) hx hb ⟨(by omega), (by omega)⟩ ⟨(by omega), (by omega)⟩ dX6_addCut_16 (by decide) (fun c_7 => ?_) (fun c_7 => ?_)
        · refine lv_aload_n hx hb dX6_addCut_85 rfl (lv_at hl 1 rfl) ?_
          refine lv_dup hx hb dX6_addCut_86 rfl ?_
          refine g_X6_50 Cx hW (k := 193) (by decide) rfl (v := S.1 193 9) ((hL11_ 193 rfl).1 9) dX6_addCut_87 ?_
          refine lv_iconst (v := iv 1) hx hb dX6_addCut_90 (by decide) ?_
          refine r_iadd hx hb dX6_addCut_91 ?_
          refine p_X6_50 Cx hW hL (k := 193) (by decide) rfl dX6_addCut_92 (fun H locs hW hL => ?_)
          have F_8 : Fr S (uF S11 193 9 ((S.1 193 9) + 1)) pW := hFm11.F rfl
          have i_9 : cX G (uF S11 193 9 ((S.1 193 9) + 1)) 0 0 0 := hI11.F rfl rfl (show 0 ≤ (S.1 193 9) + 1 ∧ (S.1 193 9) + 1 ≤ 40 from ⟨by omega, by omega⟩)
          refine lv_iconst (v := iv 1) hx hb dX6_addCut_95 (by decide) ?_
          exact sZret Cx hr hlk hW hL (by omega) ⟨i_9, F_8, (by omega)⟩ dX6_addCut_96
        · refine lv_aload_n hx hb dX6_addCut_19 rfl (lv_at hl 1 rfl) ?_
          refine lv_iload_n hx hb dX6_addCut_20 rfl (lv_at hl 0 rfl) ?_
          refine lv_aload_n hx hb dX6_addCut_21 rfl (lv_at hl 1 rfl) ?_
          refine g_X6_31 Cx hW (k := 193) (by decide) rfl (v := .ref (G.2.2.1 + 202)) (rf_193_5 hI11) dX6_addCut_22 ?_
          refine sBv (sV (As := [.int (iv j), .ref (G.2.2.1 + 202)]) (rest := []) (k := 193) Cx (s_X6_combine_193_202 l G S11 (j := j) hI11 (by omega)) (c_X6_101 Cx rfl rfl (rmk_ok (by omega) (by decide))) hW (by decide) rfl rfl rfl hl.1 rfl (Nat.le_of_ble_eq_true rfl) dX6_addCut_25 ⟨Nat.le_of_ble_eq_true rfl, Nat.le_of_ble_eq_true rfl⟩) hL (fun u_10 H locs k_11 hW hL => ?_)
          obtain ⟨iu_10, fu_10, xu_10⟩ := k_11
          have F_12 := hFm11.trans (fu_10.to (fun k h => pN_W k ((pK_sub rgN_193 rfl rfl) k h)))
          have F_13 := hL11_.trans (fu_10.to (pK_sub rgN_193 rfl rfl))
          refine lv_aload_n hx hb dX6_addCut_28 rfl (lv_at hl 1 rfl) ?_
          refine g_X6_31 Cx hW (k := 193) (by decide) rfl (v := .ref (G.2.2.1 + 202)) (rf_193_5 iu_10) dX6_addCut_29 ?_
          refine lv_aload_n hx hb dX6_addCut_32 rfl (lv_at hl 2 rfl) ?_
          refine lv_aload_n hx hb dX6_addCut_33 rfl (lv_at hl 1 rfl) ?_
          refine g_X6_34 Cx hW (k := 193) (by decide) rfl (v := .ref (G.2.2.1 + 204)) (rf_193_6 iu_10) dX6_addCut_34 ?_
          refine lv_aload_n hx hb dX6_addCut_37 rfl (lv_at hl 1 rfl) ?_
          refine g_X6_37 Cx hW (k := 193) (by decide) rfl (v := .ref (G.2.2.1 + 206)) (rf_193_7 iu_10) dX6_addCut_38 ?_
          have q_14 : 0 ≤ u_10.1 202 1 ∧ u_10.1 202 1 ≤ 32 := iu_10.fi 202 1 0 (by decide) rfl
          have q_15 : 0 ≤ S11.1 213 1 ∧ S11.1 213 1 ≤ 32 := hI11.fi 213 1 0 (by decide) rfl
          have lk_16 : u_10.1 213 1 = S11.1 213 1 := (fu_10 213 rfl).1 1
          have q_17 : (-1) ≤ u_10.1 202 2 ∧ u_10.1 202 2 ≤ 1 := iu_10.fi 202 2 0 (by decide) rfl
          have q_18 : (-1) ≤ S11.1 213 2 ∧ S11.1 213 2 ≤ 1 := hI11.fi 213 2 0 (by decide) rfl
          have lk_19 : u_10.1 213 2 = S11.1 213 2 := (fu_10 213 rfl).1 2
          refine sBv (sV (As := [.ref (G.2.2.1 + 213), .ref (G.2.2.1 + 204), .ref (G.2.2.1 + 206)]) (rest := []) (k := 202) Cx (s_X0_divide l G u_10 (o := 202) (b := 213) (q := 204) (h := 206) (n := 15) iu_10 rfl rfl rfl rfl (show (202 : Nat) ≠ 213 by decide) (show (202 : Nat) ≠ 204 by decide) (show (202 : Nat) ≠ 206 by decide) (show (213 : Nat) ≠ 204 by decide) (show (213 : Nat) ≠ 206 by decide) (show (204 : Nat) ≠ 206 by decide) (by omega)) (c_X6_105 Cx rfl rfl (rmk_ok (by omega) (by decide))) hW (by decide) rfl rfl rfl hl.1 rfl (Nat.le_of_ble_eq_true rfl) dX6_addCut_41 ⟨Nat.le_of_ble_eq_true rfl, Nat.le_of_ble_eq_true rfl⟩) hL (fun u_20 H locs k_21 hW hL => ?_)
          obtain ⟨iu_20, fu_20, xu_20⟩ := k_21
          have F_22 := F_12.trans (fu_20.to (pD_sub (pB_sub rfl rfl) (pB_sub rfl rfl) (pB_sub rfl rfl)))
          have F_23 := F_13.trans (fu_20.to (pD_sub (pB_sub rfl rfl) (pB_sub rfl rfl) (pB_sub rfl rfl)))
          refine lv_aload_n hx hb dX6_addCut_44 rfl (lv_at hl 1 rfl) ?_
          refine g_X6_34 Cx hW (k := 193) (by decide) rfl (v := .ref (G.2.2.1 + 204)) (rf_193_6 iu_20) dX6_addCut_45 ?_
          have q_24 : 0 ≤ u_20.1 204 1 ∧ u_20.1 204 1 ≤ 32 := iu_20.fi 204 1 0 (by decide) rfl
          refine sBi (sV (As := []) (rest := []) (k := 204) Cx (s_X0_digitCount l G u_20 (o := 204) iu_20 rfl) (c_X6_109 Cx rfl rfl (rmk_ok (by omega) (by decide))) hW (by decide) rfl rfl rfl hl.1 rfl (Nat.le_of_ble_eq_true rfl) dX6_addCut_48 ⟨Nat.le_of_ble_eq_true rfl, Nat.le_of_ble_eq_true rfl⟩) hL (fun r_27 u_25 H locs k_26 hW hL => ?_)
          obtain ⟨eu_25, xu_25⟩ := k_26
          rw [eu_25] at hW
          refine lv_bipush (v := iv 60) hx hb dX6_addCut_51 (by decide) ?_
          refine r_icmp_le (tgt := 58) hx hb ⟨(by omega), (by omega)⟩ ⟨(by omega), (by omega)⟩ dX6_addCut_53 (by decide) (fun c_28 => ?_) (fun c_28 => ?_)
          · refine lv_aload_n hx hb dX6_addCut_58 rfl (lv_at hl 1 rfl) ?_
            refine g_X6_34 Cx hW (k := 193) (by decide) rfl (v := .ref (G.2.2.1 + 204)) (rf_193_6 iu_20) dX6_addCut_59 ?_
            refine lv_aload_n hx hb dX6_addCut_62 rfl (lv_at hl 1 rfl) ?_
            refine g_X6_13 Cx hW (k := 193) (by decide) rfl (v := .ref (G.2.2.1 + 194)) (rf_193_0 iu_20) dX6_addCut_63 ?_
            refine lv_aload_n hx hb dX6_addCut_66 rfl (lv_at hl 1 rfl) ?_
            refine g_X6_50 Cx hW (k := 193) (by decide) rfl (v := S.1 193 9) (((fu_20 193 rfl).1 9).trans (((fu_10 193 rfl).1 9).trans ((hL11_ 193 rfl).1 9))) dX6_addCut_67 ?_
            refine lv_iconst (v := iv 1) hx hb dX6_addCut_70 (by decide) ?_
            refine r_iadd hx hb dX6_addCut_71 ?_
            refine lv_iload_n hx hb dX6_addCut_72 rfl (lv_at hl 0 rfl) ?_
            refine sBi (sSt (As := [.int (iv ((S.1 193 9) + 1)), .int (iv j)]) (rest := [.ref (G.2.2.1 + 194), .ref (G.2.2.1 + 204)]) Cx (s_X6_at l G u_20 (k := (S.1 193 9) + 1) (j := j) (by omega) (by omega)) (c_X6_53 Cx rfl rfl (rmk_ok (by omega) (by decide))) hW rfl hl.1 rfl (Nat.le_of_ble_eq_true rfl) dX6_addCut_73 ⟨Nat.le_of_ble_eq_true rfl, Nat.le_of_ble_eq_true rfl⟩) hL (fun r_31 u_29 H locs k_30 hW hL => ?_)
            obtain ⟨eu_29, xu_29⟩ := k_30
            rw [eu_29] at hW
            have q_32 : (-1) ≤ u_20.1 204 2 ∧ u_20.1 204 2 ≤ 1 := iu_20.fi 204 2 0 (by decide) rfl
            refine sBv (sV (As := [.ref (G.2.2.1 + 194), .int (iv r_31)]) (rest := []) (k := 204) Cx (s_X0_save l G u_20 (o := 204) (k := 194) (a := r_31) (N := 4264) iu_20 rfl ⟨by decide, rfl, by decide, rfl, rfl, rfl⟩ (by omega) (show _ ≤ (7 : Int) ∧ (_ → _ ≤ (999999999 : Int)) from ⟨by omega, fun _ => by have := limbR iu_20 (rfl : tau 204 = .inl 0) 6; omega⟩) (fun q _ => by rcases q with q | q <;> exact absurd q (by decide))) (c_X6_83 Cx rfl rfl (rmk_ok (by omega) (by decide))) hW (by decide) rfl rfl rfl hl.1 rfl (Nat.le_of_ble_eq_true rfl) dX6_addCut_76 ⟨Nat.le_of_ble_eq_true rfl, Nat.le_of_ble_eq_true rfl⟩) hL (fun u_33 H locs k_34 hW hL => ?_)
            obtain ⟨iu_33, fu_33⟩ := k_34
            have F_35 := F_22.trans (fu_33.to (p1_sub rfl))
            have F_36 := F_23.trans (fu_33.to (p1_sub rfl))
            refine lv_iinc (v := iv (j + 1)) (lv' := [(2, .int (iv (j + 1))), (0, .ref (G.2.2.1 + 193)), (1, .ref (G.2.2.1 + 213))]) hx hb dX6_addCut_79 hl (k := 0) rfl ((Int32.ofInt_add _ _).symm) (by decide) rfl (fun ls hl => ?_)
            refine lv_goto (tgt := 11) hx hb dX6_addCut_82 (by decide) ?_
            have lk_37 : u_33.1 213 1 = S11.1 213 1 := ((fu_33 213 rfl).1 1).trans (((fu_20 213 rfl).1 1).trans ((fu_10 213 rfl).1 1))
            exact ih_11 u_33 (j + 1) _ _ _ (by omega) iu_33 F_35 F_36 (by omega) (by omega) hW hL (lv_sub hl [0, 1, 2] rfl)
          · refine lv_iconst (v := iv 0) hx hb dX6_addCut_56 (by decide) ?_
            exact sZret Cx hr hlk hW hL (by omega) ⟨iu_20, F_22, (by omega)⟩ dX6_addCut_57
    have q_38 : 0 ≤ S.1 213 1 ∧ S.1 213 1 ≤ 32 := hI.fi 213 1 0 (by decide) rfl
    exact loop_11 (_ + 1) S 0 _ _ _ (Nat.lt_succ_self _) hI (Fr.rf : Fr S S pW) Fr.rf (by omega) (by omega) hW hL (lv_sub hl [0, 1, 2] rfl)
  · refine lv_iconst (v := iv 0) hx hb dX6_addCut_7 (by decide) ?_
    exact sZret Cx hr hlk hW hL (by omega) ⟨hI, (Fr.rf : Fr S S pW), (by omega)⟩ dX6_addCut_8

set_option maxRecDepth 100000 in
set_option maxHeartbeats 4000000 in
theorem s_X6_addLimit_120 (l : Launch) (G : sG) (S : sS) {z ab : Int} (hI : cX G S 0 0 0) (hz : -2147483648 ≤ z ∧ z ≤ 2147483647) (hab : 0 ≤ ab ∧ ab ≤ 1) (hv : S.1 181 1 ≤ 7) (hv6 : Hd (S.1 181 1 = 7 → S.2.1 182 6 ≤ 999999)) : Met l yX6_addLimit (.code yX6_addLimit cX6_addLimit 5 none :: tb) (rmk 4 0 0) (sPc G 294 S [.ref (G.2.2.1 + 120), .int (iv z), .ref (G.2.2.1 + 181), .int (iv ab)]) (sQv G 294 (fun u => cX G u 0 0 0 ∧ Fr S u pW)) 0 0 (sF G) := by
  refine sEnter (by decide) (Nat.le_of_ble_eq_true rfl) ?_
  intro p e s m args below meth c Cx hr hlk hnm hW ls hl
  have Cx : sC G p m c cX6_addLimit 5 s args RX6 := Cx
  obtain ⟨hx, hb, hml, hown, hts⟩ := id Cx.1
  have hL : sL G [] := sL_nil
  have hl : lv_has ls 5 [(0, .ref (G.2.2.1 + 120)), (1, .int (iv z)), (2, .ref (G.2.2.1 + 181)), (3, .int (iv ab))] := hl
  have hW0 := hW
  refine lv_aload_n hx hb dX6_addLimit_0 rfl (lv_at hl 0 rfl) ?_
  have q_1 : 0 ≤ S.1 120 9 ∧ S.1 120 9 ≤ 40 := hI.fi 120 9 6 (by decide) rfl
  refine sBi (sV (As := []) (rest := []) (k := 120) Cx (s_X6_isFull_120 l G S  hI) (c_X6_97 Cx rfl rfl (rmk_ok (by omega) (by decide))) hW (by decide) rfl rfl rfl hl.1 rfl (Nat.le_of_ble_eq_true rfl) dX6_addLimit_1 ⟨Nat.le_of_ble_eq_true rfl, Nat.le_of_ble_eq_true rfl⟩) hL (fun r_4 u_2 H locs k_3 hW hL => ?_)
  obtain ⟨eu_2, xu_2⟩ := k_3
  rw [eu_2] at hW
  refine r_if_ne (tgt := 20) hx hb ⟨(by omega), (by omega)⟩ dX6_addLimit_4 (by decide) (fun c_5 => ?_) (fun c_5 => ?_)
  · exact sVret Cx hr hlk hW hL ⟨hI, (Fr.rf : Fr S S pW)⟩ dX6_addLimit_20
  · refine lv_iload_n hx hb dX6_addLimit_7 rfl (lv_at hl 1 rfl) ?_
    refine lv_iconst (v := iv 1) hx hb dX6_addLimit_8 (by decide) ?_
    refine r_icmp_lt (tgt := 20) hx hb ⟨(by omega), (by omega)⟩ ⟨(by omega), (by omega)⟩ dX6_addLimit_9 (by decide) (fun c_6 => ?_) (fun c_6 => ?_)
    · exact sVret Cx hr hlk hW hL ⟨hI, (Fr.rf : Fr S S pW)⟩ dX6_addLimit_20
    · refine lv_iload_n hx hb dX6_addLimit_12 rfl (lv_at hl 1 rfl) ?_
      refine lv_aload_n hx hb dX6_addLimit_13 rfl (lv_at hl 0 rfl) ?_
      have q_7 : 0 ≤ S.1 120 8 ∧ S.1 120 8 ≤ 12 := hI.fi 120 8 6 (by decide) rfl
      refine g_X6_46 Cx hW (k := 120) (by decide) rfl (v := S.1 120 8) rfl dX6_addLimit_14 ?_
      refine r_icmp_le (tgt := 21) hx hb ⟨(by omega), (by omega)⟩ ⟨(by omega), (by omega)⟩ dX6_addLimit_17 (by decide) (fun c_8 => ?_) (fun c_8 => ?_)
      · refine lv_aload_n hx hb dX6_addLimit_21 rfl (lv_at hl 0 rfl) ?_
        refine lv_dup hx hb dX6_addLimit_22 rfl ?_
        refine g_X6_50 Cx hW (k := 120) (by decide) rfl (v := S.1 120 9) rfl dX6_addLimit_23 ?_
        refine lv_iconst (v := iv 1) hx hb dX6_addLimit_26 (by decide) ?_
        refine r_iadd hx hb dX6_addLimit_27 ?_
        refine p_X6_50 Cx hW hL (k := 120) (by decide) rfl dX6_addLimit_28 (fun H locs hW hL => ?_)
        have F_9 : Fr S (uF S 120 9 ((S.1 120 9) + 1)) pW := (Fr.rf : Fr S S pW).F rfl
        have i_10 : cX G (uF S 120 9 ((S.1 120 9) + 1)) 0 0 0 := hI.F rfl rfl (show 0 ≤ (S.1 120 9) + 1 ∧ (S.1 120 9) + 1 ≤ 40 from ⟨by omega, by omega⟩)
        refine lv_iconst (v := iv 1) hx hb dX6_addLimit_31 (by decide) ?_
        refine lv_istore (lv' := [(4, .int (iv 1)), (0, .ref (G.2.2.1 + 120)), (1, .int (iv z)), (2, .ref (G.2.2.1 + 181)), (3, .int (iv ab))]) hx hb dX6_addLimit_32 hl (by decide) rfl (fun ls hl => ?_)
        have loop_34 : ∀ (fuel : Nat) (S34 : sS) (j : Int) (H : Heap) (locs : List Loc) (ls : Array Slot), (13 - j).toNat < fuel → (cX G S34 0 0 0) → (Fr S S34 pW) → (Fr ((uF S 120 9 ((S.1 120 9) + 1))) S34 pN) → (1 ≤ j ∧ j ≤ 13) → (S34.1 181 1 ≤ 7) → (Hd (S34.1 181 1 = 7 → S34.2.1 182 6 ≤ 999999)) → sW G 294 S34 H → sL G locs → lv_has ls 5 [(4, .int (iv j)), (0, .ref (G.2.2.1 + 120)), (1, .int (iv z)), (2, .ref (G.2.2.1 + 181)), (3, .int (iv ab))] → W p l e (rmk 4 0 0) s m args below meth c H locs 0 0 (MQ below (sQv G 294 (fun u => cX G u 0 0 0 ∧ Fr S u pW)) args s 0 0 (sF G)) (F0 m 34 ls []) := by
          intro fuel
          induction fuel with
          | zero => intro S34 j H locs ls hmeas hI34 hFm34 hL34_ hj hv34 hv64 hW hL hl; exact absurd hmeas (Nat.not_lt_zero _)
          | succ fuel ih_34 =>
            intro S34 j H locs ls hmeas hI34 hFm34 hL34_ hj hv34 hv64 hW hL hl
            refine lv_iload hx hb dX6_addLimit_34 (lv_at hl 0 rfl) ?_
            refine lv_aload_n hx hb dX6_addLimit_36 rfl (lv_at hl 1 rfl) ?_
            refine g_X6_46 Cx hW (k := 120) (by decide) rfl (v := S.1 120 8) (((hL34_ 120 rfl).1 8).trans (uF_ne (fun h => absurd h.2 (by decide)))) dX6_addLimit_37 ?_
            refine r_icmp_gt (tgt := 86) hx hb ⟨(by omega), (by omega)⟩ ⟨(by omega), (by omega)⟩ dX6_addLimit_40 (by decide) (fun c_11 => ?_) (fun c_11 => ?_)
            · refine lv_aload_n hx hb dX6_addLimit_86 rfl (lv_at hl 1 rfl) ?_
              refine g_X6_31 Cx hW (k := 120) (by decide) rfl (v := .ref (G.2.2.1 + 129)) (rf_120_5 hI34) dX6_addLimit_87 ?_
              refine lv_aload_n hx hb dX6_addLimit_90 rfl (lv_at hl 3 rfl) ?_
              have q_12 : 0 ≤ S34.1 181 1 ∧ S34.1 181 1 ≤ 32 := hI34.fi 181 1 0 (by decide) rfl
              have q_13 : (-1) ≤ S34.1 181 2 ∧ S34.1 181 2 ≤ 1 := hI34.fi 181 2 0 (by decide) rfl
              refine sBv (sV (As := [.ref (G.2.2.1 + 181)]) (rest := []) (k := 129) Cx (s_X0_copy l G S34 (o := 129) (a := 181) hI34 rfl rfl) (c_X6_115 Cx rfl rfl (rmk_ok (by omega) (by decide))) hW (by decide) rfl rfl rfl hl.1 rfl (Nat.le_of_ble_eq_true rfl) dX6_addLimit_91 ⟨Nat.le_of_ble_eq_true rfl, Nat.le_of_ble_eq_true rfl⟩) hL (fun u_14 H locs k_15 hW hL => ?_)
              obtain ⟨iu_14, fu_14, xu_14⟩ := k_15
              have F_16 := hFm34.trans (fu_14.to (pB_sub rfl rfl))
              have F_17 := hL34_.trans (fu_14.to (pB_sub rfl rfl))
              have hsm : Hd (u_14.1 129 1 = 7 → u_14.2.1 130 6 ≤ 999999) := fun q => by rw [xu_14.2.2 6 (by omega) (by omega)]; exact hv64 (by omega)
              have join_125 : ∀ (S125 : sS)  (H : Heap) (locs : List Loc) (ls : Array Slot), (cX G S125 0 0 0) → (Fr S S125 pW) → (Fr ((uF S 120 9 ((S.1 120 9) + 1))) S125 pN) → (Fr u_14 S125 pW) → (S125.1 129 1 ≤ 7) → sW G 294 S125 H → sL G locs → lv_has ls 5 [(4, .int (iv j)), (0, .ref (G.2.2.1 + 120)), (1, .int (iv z)), (2, .ref (G.2.2.1 + 181)), (3, .int (iv ab))] → W p l e (rmk 4 0 0) s m args below meth c H locs 0 0 (MQ below (sQv G 294 (fun u => cX G u 0 0 0 ∧ Fr S u pW)) args s 0 0 (sF G)) (F0 m 125 ls []) := by
                intro S125  H locs ls hI125 hFm125 hFL34125 hL125_ hs7 hW hL hl
                refine lv_aload_n hx hb dX6_addLimit_125 rfl (lv_at hl 1 rfl) ?_
                refine g_X6_31 Cx hW (k := 120) (by decide) rfl (v := .ref (G.2.2.1 + 129)) (rf_120_5 hI125) dX6_addLimit_126 ?_
                refine lv_aload_n hx hb dX6_addLimit_129 rfl (lv_at hl 1 rfl) ?_
                refine g_X6_13 Cx hW (k := 120) (by decide) rfl (v := .ref (G.2.2.1 + 121)) (rf_120_0 hI125) dX6_addLimit_130 ?_
                refine lv_aload_n hx hb dX6_addLimit_133 rfl (lv_at hl 1 rfl) ?_
                have q_18 : 0 ≤ S125.1 120 9 ∧ S125.1 120 9 ≤ 40 := hI125.fi 120 9 6 (by decide) rfl
                refine g_X6_50 Cx hW (k := 120) (by decide) rfl (v := S125.1 120 9) rfl dX6_addLimit_134 ?_
                refine lv_iconst (v := iv 0) hx hb dX6_addLimit_137 (by decide) ?_
                refine sBi (sSt (As := [.int (iv (S125.1 120 9)), .int (iv 0)]) (rest := [.ref (G.2.2.1 + 121), .ref (G.2.2.1 + 129)]) Cx (s_X6_at l G S125 (k := S125.1 120 9) (j := 0) (by omega) (by omega)) (c_X6_53 Cx rfl rfl (rmk_ok (by omega) (by decide))) hW rfl hl.1 rfl (Nat.le_of_ble_eq_true rfl) dX6_addLimit_138 ⟨Nat.le_of_ble_eq_true rfl, Nat.le_of_ble_eq_true rfl⟩) hL (fun r_21 u_19 H locs k_20 hW hL => ?_)
                obtain ⟨eu_19, xu_19⟩ := k_20
                rw [eu_19] at hW
                have q_22 : 0 ≤ S125.1 129 1 ∧ S125.1 129 1 ≤ 32 := hI125.fi 129 1 0 (by decide) rfl
                have q_23 : (-1) ≤ S125.1 129 2 ∧ S125.1 129 2 ≤ 1 := hI125.fi 129 2 0 (by decide) rfl
                refine sBv (sV (As := [.ref (G.2.2.1 + 121), .int (iv r_21)]) (rest := []) (k := 129) Cx (s_X0_save l G S125 (o := 129) (k := 121) (a := r_21) (N := 4264) hI125 rfl ⟨by decide, rfl, by decide, rfl, rfl, rfl⟩ (by omega) (show _ ≤ (7 : Int) ∧ (_ → _ ≤ (999999999 : Int)) from ⟨by omega, fun _ => by have := limbR hI125 (rfl : tau 129 = .inl 0) 6; omega⟩) (fun q _ => by rcases q with q | q <;> exact absurd q (by decide))) (c_X6_83 Cx rfl rfl (rmk_ok (by omega) (by decide))) hW (by decide) rfl rfl rfl hl.1 rfl (Nat.le_of_ble_eq_true rfl) dX6_addLimit_141 ⟨Nat.le_of_ble_eq_true rfl, Nat.le_of_ble_eq_true rfl⟩) hL (fun u_24 H locs k_25 hW hL => ?_)
                obtain ⟨iu_24, fu_24⟩ := k_25
                have F_26 := hFm125.trans (fu_24.to (p1_sub rfl))
                have F_27 := hFL34125.trans (fu_24.to (p1_sub rfl))
                have F_28 := hL125_.trans (fu_24.to (p1_sub rfl))
                exact sVret Cx hr hlk hW hL ⟨iu_24, F_26⟩ dX6_addLimit_144
              refine lv_iload_n hx hb dX6_addLimit_94 rfl (lv_at hl 4 rfl) ?_
              refine r_if_eq (tgt := 125) hx hb ⟨(by omega), (by omega)⟩ dX6_addLimit_95 (by decide) (fun c_29 => ?_) (fun c_29 => ?_)
              · have q_30 : 0 ≤ u_14.1 129 1 ∧ u_14.1 129 1 ≤ 32 := iu_14.fi 129 1 0 (by decide) rfl
                exact join_125 u_14  _ _ _ iu_14 F_16 F_17 (Fr.rf : Fr u_14 u_14 pW) (by omega) hW hL (lv_sub hl [0, 1, 2, 3, 4] rfl)
              · refine lv_aload_n hx hb dX6_addLimit_98 rfl (lv_at hl 1 rfl) ?_
                refine g_X6_37 Cx hW (k := 120) (by decide) rfl (v := .ref (G.2.2.1 + 133)) (rf_120_7 iu_14) dX6_addLimit_99 ?_
                refine lv_lconst (v := jv 1) hx hb dX6_addLimit_102 (by decide) ?_
                refine sBv (sV (As := [.long (jv 1)]) (rest := []) (k := 133) Cx (s_X0_put l G u_14 (o := 133) (v := 1) iu_14 rfl (by omega)) (c_X6_86 Cx rfl rfl (rmk_ok (by omega) (by decide))) hW (by decide) rfl rfl rfl hl.1 rfl (Nat.le_of_ble_eq_true rfl) dX6_addLimit_103 ⟨Nat.le_of_ble_eq_true rfl, Nat.le_of_ble_eq_true rfl⟩) hL (fun u_31 H locs k_32 hW hL => ?_)
                obtain ⟨iu_31, fu_31, xu_31⟩ := k_32
                have F_33 := F_16.trans (fu_31.to (pB_sub rfl rfl))
                have F_34 := F_17.trans (fu_31.to (pB_sub rfl rfl))
                have F_35 := (Fr.rf : Fr u_14 u_14 pW).trans (fu_31.to (pB_sub rfl rfl))
                refine lv_aload_n hx hb dX6_addLimit_106 rfl (lv_at hl 1 rfl) ?_
                refine g_X6_31 Cx hW (k := 120) (by decide) rfl (v := .ref (G.2.2.1 + 129)) (rf_120_5 iu_31) dX6_addLimit_107 ?_
                refine lv_aload_n hx hb dX6_addLimit_110 rfl (lv_at hl 1 rfl) ?_
                refine g_X6_37 Cx hW (k := 120) (by decide) rfl (v := .ref (G.2.2.1 + 133)) (rf_120_7 iu_31) dX6_addLimit_111 ?_
                refine lv_iconst (v := iv 1) hx hb dX6_addLimit_114 (by decide) ?_
                have q_36 : 0 ≤ u_31.1 133 1 ∧ u_31.1 133 1 ≤ 32 := iu_31.fi 133 1 0 (by decide) rfl
                have q_37 : 0 ≤ u_14.1 129 1 ∧ u_14.1 129 1 ≤ 32 := iu_14.fi 129 1 0 (by decide) rfl
                have lk_38 : u_31.1 129 1 = u_14.1 129 1 := (fu_31 129 rfl).1 1
                have q_39 : (-1) ≤ u_14.1 129 2 ∧ u_14.1 129 2 ≤ 1 := iu_14.fi 129 2 0 (by decide) rfl
                have lk_40 : u_31.1 129 2 = u_14.1 129 2 := (fu_31 129 rfl).1 2
                have q_41 : (-1) ≤ u_31.1 133 2 ∧ u_31.1 133 2 ≤ 1 := iu_31.fi 133 2 0 (by decide) rfl
                refine sBv (sV (As := [.ref (G.2.2.1 + 133), .int (iv 1)]) (rest := []) (k := 129) Cx (t_X0_add_p l G u_31 (o := 129) (a := 133) (n := 6) (t := 999999) iu_31 rfl rfl (show (129 : Nat) ≠ 133 by decide) (by omega) (fun q => by have e : u_31.2.1 130 6 = _ := (fu_31 130 rfl).2.1 6; rw [e]; exact hsm (by omega))) (c_X6_93 Cx rfl rfl (rmk_ok (by omega) (by decide))) hW (by decide) rfl rfl rfl hl.1 rfl (Nat.le_of_ble_eq_true rfl) dX6_addLimit_115 ⟨Nat.le_of_ble_eq_true rfl, Nat.le_of_ble_eq_true rfl⟩) hL (fun u_42 H locs k_43 hW hL => ?_)
                obtain ⟨iu_42, fu_42, xu_42⟩ := k_43
                have F_44 := F_33.trans (fu_42.to (pB_sub rfl rfl))
                have F_45 := F_34.trans (fu_42.to (pB_sub rfl rfl))
                have F_46 := F_35.trans (fu_42.to (pB_sub rfl rfl))
                refine lv_aload_n hx hb dX6_addLimit_118 rfl (lv_at hl 1 rfl) ?_
                refine g_X6_31 Cx hW (k := 120) (by decide) rfl (v := .ref (G.2.2.1 + 129)) (rf_120_5 iu_42) dX6_addLimit_119 ?_
                have q_47 : 0 ≤ u_42.1 129 1 ∧ u_42.1 129 1 ≤ 32 := iu_42.fi 129 1 0 (by decide) rfl
                have q_48 : (-1) ≤ u_42.1 129 2 ∧ u_42.1 129 2 ≤ 1 := iu_42.fi 129 2 0 (by decide) rfl
                refine sBv (sV (As := []) (rest := []) (k := 129) Cx (s_X0_turn l G u_42 (o := 129) iu_42 rfl) (c_X6_119 Cx rfl rfl (rmk_ok (by omega) (by decide))) hW (by decide) rfl rfl rfl hl.1 rfl (Nat.le_of_ble_eq_true rfl) dX6_addLimit_122 ⟨Nat.le_of_ble_eq_true rfl, Nat.le_of_ble_eq_true rfl⟩) hL (fun u_49 H locs k_50 hW hL => ?_)
                obtain ⟨iu_49, fu_49, xu_49⟩ := k_50
                have F_51 := F_44.trans (fu_49.to (pB_sub rfl rfl))
                have F_52 := F_45.trans (fu_49.to (pB_sub rfl rfl))
                have F_53 := F_46.trans (fu_49.to (pB_sub rfl rfl))
                have q_54 : 0 ≤ u_49.1 129 1 ∧ u_49.1 129 1 ≤ 32 := iu_49.fi 129 1 0 (by decide) rfl
                exact join_125 u_49  _ _ _ iu_49 F_51 F_52 F_53 (by omega) hW hL (lv_sub hl [0, 1, 2, 3, 4] rfl)
            · refine lv_aload_n hx hb dX6_addLimit_43 rfl (lv_at hl 1 rfl) ?_
              refine g_X6_13 Cx hW (k := 120) (by decide) rfl (v := .ref (G.2.2.1 + 121)) (rf_120_0 hI34) dX6_addLimit_44 ?_
              refine lv_aload_n hx hb dX6_addLimit_47 rfl (lv_at hl 1 rfl) ?_
              refine g_X6_50 Cx hW (k := 120) (by decide) rfl (v := (S.1 120 9) + 1) (((hL34_ 120 rfl).1 9).trans (uF_on)) dX6_addLimit_48 ?_
              refine lv_iload hx hb dX6_addLimit_51 (lv_at hl 0 rfl) ?_
              refine sBi (sSt (As := [.int (iv ((S.1 120 9) + 1)), .int (iv j)]) (rest := [.ref (G.2.2.1 + 121)]) Cx (s_X6_at l G S34 (k := (S.1 120 9) + 1) (j := j) (by omega) (by omega)) (c_X6_53 Cx rfl rfl (rmk_ok (by omega) (by decide))) hW rfl hl.1 rfl (Nat.le_of_ble_eq_true rfl) dX6_addLimit_53 ⟨Nat.le_of_ble_eq_true rfl, Nat.le_of_ble_eq_true rfl⟩) hL (fun r_57 u_55 H locs k_56 hW hL => ?_)
              obtain ⟨eu_55, xu_55⟩ := k_56
              rw [eu_55] at hW
              refine lv_iload hx hb dX6_addLimit_56 (lv_at hl 0 rfl) ?_
              refine lv_iload_n hx hb dX6_addLimit_58 rfl (lv_at hl 2 rfl) ?_
              refine r_icmp_eq (tgt := 66) hx hb ⟨(by omega), (by omega)⟩ ⟨(by omega), (by omega)⟩ dX6_addLimit_59 (by decide) (fun c_58 => ?_) (fun c_58 => ?_)
              · refine lv_iload_n hx hb dX6_addLimit_66 rfl (lv_at hl 4 rfl) ?_
                refine r_if_eq (tgt := 76) hx hb ⟨(by omega), (by omega)⟩ dX6_addLimit_67 (by decide) (fun c_59 => ?_) (fun c_59 => ?_)
                · refine lv_lconst (v := jv 1) hx hb dX6_addLimit_76 (by decide) ?_
                  refine sBv (sSt (As := [.ref (G.2.2.1 + 121), .int (iv r_57), .long (jv 1)]) (rest := []) Cx (s_X0_store l G S34 (k := 121) (a := r_57) (v := 1) (N := 4264) hI34 ⟨by decide, rfl, by decide, rfl, rfl, rfl⟩ (by omega) (by omega) (fun q _ => by rcases q with q | q <;> exact absurd q (by decide))) (c_X6_60 Cx rfl rfl (rmk_ok (by omega) (by decide))) hW rfl hl.1 rfl (Nat.le_of_ble_eq_true rfl) dX6_addLimit_77 ⟨Nat.le_of_ble_eq_true rfl, Nat.le_of_ble_eq_true rfl⟩) hL (fun u_60 H locs k_61 hW hL => ?_)
                  obtain ⟨iu_60, fu_60⟩ := k_61
                  have F_62 := hFm34.trans (fu_60.to (p1_sub rfl))
                  have F_63 := hL34_.trans (fu_60.to (p1_sub rfl))
                  refine lv_iinc (v := iv (j + 1)) (lv' := [(4, .int (iv (j + 1))), (0, .ref (G.2.2.1 + 120)), (1, .int (iv z)), (2, .ref (G.2.2.1 + 181)), (3, .int (iv ab))]) hx hb dX6_addLimit_80 hl (k := 0) rfl ((Int32.ofInt_add _ _).symm) (by decide) rfl (fun ls hl => ?_)
                  refine lv_goto (tgt := 34) hx hb dX6_addLimit_83 (by decide) ?_
                  have q_64 : 0 ≤ S34.1 181 1 ∧ S34.1 181 1 ≤ 32 := hI34.fi 181 1 0 (by decide) rfl
                  have lk_65 : u_60.1 181 1 = S34.1 181 1 := (fu_60 181 rfl).1 1
                  exact ih_34 u_60 (j + 1) _ _ _ (by omega) iu_60 F_62 F_63 (by omega) (by omega) (fun q => by have e : u_60.2.1 182 6 = S34.2.1 182 6 := (fu_60 182 rfl).2.1 6; rw [e]; exact hv64 (by omega)) hW hL (lv_sub hl [0, 1, 2, 3, 4] rfl)
                · refine lv_ldc2 hx hb hown (hts _ w_1551) dX6_addLimit_70 ?_
                  refine lv_goto (tgt := 77) hx hb dX6_addLimit_73 (by decide) ?_
                  refine sBv (sSt (As := [.ref (G.2.2.1 + 121), .int (iv r_57), .long (jv ((-1)))]) (rest := []) Cx (s_X0_store l G S34 (k := 121) (a := r_57) (v := (-1)) (N := 4264) hI34 ⟨by decide, rfl, by decide, rfl, rfl, rfl⟩ (by omega) (by omega) (fun q _ => by rcases q with q | q <;> exact absurd q (by decide))) (c_X6_60 Cx rfl rfl (rmk_ok (by omega) (by decide))) hW rfl hl.1 rfl (Nat.le_of_ble_eq_true rfl) dX6_addLimit_77 ⟨Nat.le_of_ble_eq_true rfl, Nat.le_of_ble_eq_true rfl⟩) hL (fun u_66 H locs k_67 hW hL => ?_)
                  obtain ⟨iu_66, fu_66⟩ := k_67
                  have F_68 := hFm34.trans (fu_66.to (p1_sub rfl))
                  have F_69 := hL34_.trans (fu_66.to (p1_sub rfl))
                  refine lv_iinc (v := iv (j + 1)) (lv' := [(4, .int (iv (j + 1))), (0, .ref (G.2.2.1 + 120)), (1, .int (iv z)), (2, .ref (G.2.2.1 + 181)), (3, .int (iv ab))]) hx hb dX6_addLimit_80 hl (k := 0) rfl ((Int32.ofInt_add _ _).symm) (by decide) rfl (fun ls hl => ?_)
                  refine lv_goto (tgt := 34) hx hb dX6_addLimit_83 (by decide) ?_
                  have q_70 : 0 ≤ S34.1 181 1 ∧ S34.1 181 1 ≤ 32 := hI34.fi 181 1 0 (by decide) rfl
                  have lk_71 : u_66.1 181 1 = S34.1 181 1 := (fu_66 181 rfl).1 1
                  exact ih_34 u_66 (j + 1) _ _ _ (by omega) iu_66 F_68 F_69 (by omega) (by omega) (fun q => by have e : u_66.2.1 182 6 = S34.2.1 182 6 := (fu_66 182 rfl).2.1 6; rw [e]; exact hv64 (by omega)) hW hL (lv_sub hl [0, 1, 2, 3, 4] rfl)
              · refine lv_lconst (v := jv 0) hx hb dX6_addLimit_62 (by decide) ?_
                refine lv_goto (tgt := 77) hx hb dX6_addLimit_63 (by decide) ?_
                refine sBv (sSt (As := [.ref (G.2.2.1 + 121), .int (iv r_57), .long (jv 0)]) (rest := []) Cx (s_X0_store l G S34 (k := 121) (a := r_57) (v := 0) (N := 4264) hI34 ⟨by decide, rfl, by decide, rfl, rfl, rfl⟩ (by omega) (by omega) (fun q _ => by rcases q with q | q <;> exact absurd q (by decide))) (c_X6_60 Cx rfl rfl (rmk_ok (by omega) (by decide))) hW rfl hl.1 rfl (Nat.le_of_ble_eq_true rfl) dX6_addLimit_77 ⟨Nat.le_of_ble_eq_true rfl, Nat.le_of_ble_eq_true rfl⟩) hL (fun u_72 H locs k_73 hW hL => ?_)
                obtain ⟨iu_72, fu_72⟩ := k_73
                have F_74 := hFm34.trans (fu_72.to (p1_sub rfl))
                have F_75 := hL34_.trans (fu_72.to (p1_sub rfl))
                refine lv_iinc (v := iv (j + 1)) (lv' := [(4, .int (iv (j + 1))), (0, .ref (G.2.2.1 + 120)), (1, .int (iv z)), (2, .ref (G.2.2.1 + 181)), (3, .int (iv ab))]) hx hb dX6_addLimit_80 hl (k := 0) rfl ((Int32.ofInt_add _ _).symm) (by decide) rfl (fun ls hl => ?_)
                refine lv_goto (tgt := 34) hx hb dX6_addLimit_83 (by decide) ?_
                have q_76 : 0 ≤ S34.1 181 1 ∧ S34.1 181 1 ≤ 32 := hI34.fi 181 1 0 (by decide) rfl
                have lk_77 : u_72.1 181 1 = S34.1 181 1 := (fu_72 181 rfl).1 1
                exact ih_34 u_72 (j + 1) _ _ _ (by omega) iu_72 F_74 F_75 (by omega) (by omega) (fun q => by have e : u_72.2.1 182 6 = S34.2.1 182 6 := (fu_72 182 rfl).2.1 6; rw [e]; exact hv64 (by omega)) hW hL (lv_sub hl [0, 1, 2, 3, 4] rfl)
        have q_78 : 0 ≤ S.1 181 1 ∧ S.1 181 1 ≤ 32 := hI.fi 181 1 0 (by decide) rfl
        have lk_79 : (uF S 120 9 ((S.1 120 9) + 1)).1 181 1 = S.1 181 1 := uF_ne (fun h => absurd h.2 (by decide))
        exact loop_34 (_ + 1) (uF S 120 9 ((S.1 120 9) + 1)) 1 _ _ _ (Nat.lt_succ_self _) i_10 F_9 Fr.rf (by omega) (by omega) (fun q => by have e : (uF S 120 9 ((S.1 120 9) + 1)).2.1 182 6 = S.2.1 182 6 := uF_a; rw [e]; exact hv6 (by omega)) hW hL (lv_sub hl [0, 1, 2, 3, 4] rfl)
      · exact sVret Cx hr hlk hW hL ⟨hI, (Fr.rf : Fr S S pW)⟩ dX6_addLimit_20

set_option maxRecDepth 100000 in
set_option maxHeartbeats 4000000 in
theorem s_X6_addLimit_193 (l : Launch) (G : sG) (S : sS) {z ab : Int} (hI : cX G S 0 0 0) (hz : -2147483648 ≤ z ∧ z ≤ 2147483647) (hab : 0 ≤ ab ∧ ab ≤ 1) (hv : S.1 219 1 ≤ 7) (hv6 : Hd (S.1 219 1 = 7 → S.2.1 220 6 ≤ 999999)) : Met l yX6_addLimit (.code yX6_addLimit cX6_addLimit 5 none :: tb) (rmk 4 0 0) (sPc G 294 S [.ref (G.2.2.1 + 193), .int (iv z), .ref (G.2.2.1 + 219), .int (iv ab)]) (sQv G 294 (fun u => cX G u 0 0 0 ∧ Fr S u pW)) 0 0 (sF G) := by
  refine sEnter (by decide) (Nat.le_of_ble_eq_true rfl) ?_
  intro p e s m args below meth c Cx hr hlk hnm hW ls hl
  have Cx : sC G p m c cX6_addLimit 5 s args RX6 := Cx
  obtain ⟨hx, hb, hml, hown, hts⟩ := id Cx.1
  have hL : sL G [] := sL_nil
  have hl : lv_has ls 5 [(0, .ref (G.2.2.1 + 193)), (1, .int (iv z)), (2, .ref (G.2.2.1 + 219)), (3, .int (iv ab))] := hl
  have hW0 := hW
  refine lv_aload_n hx hb dX6_addLimit_0 rfl (lv_at hl 0 rfl) ?_
  have q_1 : 0 ≤ S.1 193 9 ∧ S.1 193 9 ≤ 40 := hI.fi 193 9 6 (by decide) rfl
  refine sBi (sV (As := []) (rest := []) (k := 193) Cx (s_X6_isFull_193 l G S  hI) (c_X6_97 Cx rfl rfl (rmk_ok (by omega) (by decide))) hW (by decide) rfl rfl rfl hl.1 rfl (Nat.le_of_ble_eq_true rfl) dX6_addLimit_1 ⟨Nat.le_of_ble_eq_true rfl, Nat.le_of_ble_eq_true rfl⟩) hL (fun r_4 u_2 H locs k_3 hW hL => ?_)
  obtain ⟨eu_2, xu_2⟩ := k_3
  rw [eu_2] at hW
  refine r_if_ne (tgt := 20) hx hb ⟨(by omega), (by omega)⟩ dX6_addLimit_4 (by decide) (fun c_5 => ?_) (fun c_5 => ?_)
  · exact sVret Cx hr hlk hW hL ⟨hI, (Fr.rf : Fr S S pW)⟩ dX6_addLimit_20
  · refine lv_iload_n hx hb dX6_addLimit_7 rfl (lv_at hl 1 rfl) ?_
    refine lv_iconst (v := iv 1) hx hb dX6_addLimit_8 (by decide) ?_
    refine r_icmp_lt (tgt := 20) hx hb ⟨(by omega), (by omega)⟩ ⟨(by omega), (by omega)⟩ dX6_addLimit_9 (by decide) (fun c_6 => ?_) (fun c_6 => ?_)
    · exact sVret Cx hr hlk hW hL ⟨hI, (Fr.rf : Fr S S pW)⟩ dX6_addLimit_20
    · refine lv_iload_n hx hb dX6_addLimit_12 rfl (lv_at hl 1 rfl) ?_
      refine lv_aload_n hx hb dX6_addLimit_13 rfl (lv_at hl 0 rfl) ?_
      have q_7 : 0 ≤ S.1 193 8 ∧ S.1 193 8 ≤ 12 := hI.fi 193 8 6 (by decide) rfl
      refine g_X6_46 Cx hW (k := 193) (by decide) rfl (v := S.1 193 8) rfl dX6_addLimit_14 ?_
      refine r_icmp_le (tgt := 21) hx hb ⟨(by omega), (by omega)⟩ ⟨(by omega), (by omega)⟩ dX6_addLimit_17 (by decide) (fun c_8 => ?_) (fun c_8 => ?_)
      · refine lv_aload_n hx hb dX6_addLimit_21 rfl (lv_at hl 0 rfl) ?_
        refine lv_dup hx hb dX6_addLimit_22 rfl ?_
        refine g_X6_50 Cx hW (k := 193) (by decide) rfl (v := S.1 193 9) rfl dX6_addLimit_23 ?_
        refine lv_iconst (v := iv 1) hx hb dX6_addLimit_26 (by decide) ?_
        refine r_iadd hx hb dX6_addLimit_27 ?_
        refine p_X6_50 Cx hW hL (k := 193) (by decide) rfl dX6_addLimit_28 (fun H locs hW hL => ?_)
        have F_9 : Fr S (uF S 193 9 ((S.1 193 9) + 1)) pW := (Fr.rf : Fr S S pW).F rfl
        have i_10 : cX G (uF S 193 9 ((S.1 193 9) + 1)) 0 0 0 := hI.F rfl rfl (show 0 ≤ (S.1 193 9) + 1 ∧ (S.1 193 9) + 1 ≤ 40 from ⟨by omega, by omega⟩)
        refine lv_iconst (v := iv 1) hx hb dX6_addLimit_31 (by decide) ?_
        refine lv_istore (lv' := [(4, .int (iv 1)), (0, .ref (G.2.2.1 + 193)), (1, .int (iv z)), (2, .ref (G.2.2.1 + 219)), (3, .int (iv ab))]) hx hb dX6_addLimit_32 hl (by decide) rfl (fun ls hl => ?_)
        have loop_34 : ∀ (fuel : Nat) (S34 : sS) (j : Int) (H : Heap) (locs : List Loc) (ls : Array Slot), (13 - j).toNat < fuel → (cX G S34 0 0 0) → (Fr S S34 pW) → (Fr ((uF S 193 9 ((S.1 193 9) + 1))) S34 pN) → (1 ≤ j ∧ j ≤ 13) → (S34.1 219 1 ≤ 7) → (Hd (S34.1 219 1 = 7 → S34.2.1 220 6 ≤ 999999)) → sW G 294 S34 H → sL G locs → lv_has ls 5 [(4, .int (iv j)), (0, .ref (G.2.2.1 + 193)), (1, .int (iv z)), (2, .ref (G.2.2.1 + 219)), (3, .int (iv ab))] → W p l e (rmk 4 0 0) s m args below meth c H locs 0 0 (MQ below (sQv G 294 (fun u => cX G u 0 0 0 ∧ Fr S u pW)) args s 0 0 (sF G)) (F0 m 34 ls []) := by
          intro fuel
          induction fuel with
          | zero => intro S34 j H locs ls hmeas hI34 hFm34 hL34_ hj hv34 hv64 hW hL hl; exact absurd hmeas (Nat.not_lt_zero _)
          | succ fuel ih_34 =>
            intro S34 j H locs ls hmeas hI34 hFm34 hL34_ hj hv34 hv64 hW hL hl
            refine lv_iload hx hb dX6_addLimit_34 (lv_at hl 0 rfl) ?_
            refine lv_aload_n hx hb dX6_addLimit_36 rfl (lv_at hl 1 rfl) ?_
            refine g_X6_46 Cx hW (k := 193) (by decide) rfl (v := S.1 193 8) (((hL34_ 193 rfl).1 8).trans (uF_ne (fun h => absurd h.2 (by decide)))) dX6_addLimit_37 ?_
            refine r_icmp_gt (tgt := 86) hx hb ⟨(by omega), (by omega)⟩ ⟨(by omega), (by omega)⟩ dX6_addLimit_40 (by decide) (fun c_11 => ?_) (fun c_11 => ?_)
            · refine lv_aload_n hx hb dX6_addLimit_86 rfl (lv_at hl 1 rfl) ?_
              refine g_X6_31 Cx hW (k := 193) (by decide) rfl (v := .ref (G.2.2.1 + 202)) (rf_193_5 hI34) dX6_addLimit_87 ?_
              refine lv_aload_n hx hb dX6_addLimit_90 rfl (lv_at hl 3 rfl) ?_
              have q_12 : 0 ≤ S34.1 219 1 ∧ S34.1 219 1 ≤ 32 := hI34.fi 219 1 0 (by decide) rfl
              have q_13 : (-1) ≤ S34.1 219 2 ∧ S34.1 219 2 ≤ 1 := hI34.fi 219 2 0 (by decide) rfl
              refine sBv (sV (As := [.ref (G.2.2.1 + 219)]) (rest := []) (k := 202) Cx (s_X0_copy l G S34 (o := 202) (a := 219) hI34 rfl rfl) (c_X6_115 Cx rfl rfl (rmk_ok (by omega) (by decide))) hW (by decide) rfl rfl rfl hl.1 rfl (Nat.le_of_ble_eq_true rfl) dX6_addLimit_91 ⟨Nat.le_of_ble_eq_true rfl, Nat.le_of_ble_eq_true rfl⟩) hL (fun u_14 H locs k_15 hW hL => ?_)
              obtain ⟨iu_14, fu_14, xu_14⟩ := k_15
              have F_16 := hFm34.trans (fu_14.to (pB_sub rfl rfl))
              have F_17 := hL34_.trans (fu_14.to (pB_sub rfl rfl))
              have hsm : Hd (u_14.1 202 1 = 7 → u_14.2.1 203 6 ≤ 999999) := fun q => by rw [xu_14.2.2 6 (by omega) (by omega)]; exact hv64 (by omega)
              have join_125 : ∀ (S125 : sS)  (H : Heap) (locs : List Loc) (ls : Array Slot), (cX G S125 0 0 0) → (Fr S S125 pW) → (Fr ((uF S 193 9 ((S.1 193 9) + 1))) S125 pN) → (Fr u_14 S125 pW) → (S125.1 202 1 ≤ 7) → sW G 294 S125 H → sL G locs → lv_has ls 5 [(4, .int (iv j)), (0, .ref (G.2.2.1 + 193)), (1, .int (iv z)), (2, .ref (G.2.2.1 + 219)), (3, .int (iv ab))] → W p l e (rmk 4 0 0) s m args below meth c H locs 0 0 (MQ below (sQv G 294 (fun u => cX G u 0 0 0 ∧ Fr S u pW)) args s 0 0 (sF G)) (F0 m 125 ls []) := by
                intro S125  H locs ls hI125 hFm125 hFL34125 hL125_ hs7 hW hL hl
                refine lv_aload_n hx hb dX6_addLimit_125 rfl (lv_at hl 1 rfl) ?_
                refine g_X6_31 Cx hW (k := 193) (by decide) rfl (v := .ref (G.2.2.1 + 202)) (rf_193_5 hI125) dX6_addLimit_126 ?_
                refine lv_aload_n hx hb dX6_addLimit_129 rfl (lv_at hl 1 rfl) ?_
                refine g_X6_13 Cx hW (k := 193) (by decide) rfl (v := .ref (G.2.2.1 + 194)) (rf_193_0 hI125) dX6_addLimit_130 ?_
                refine lv_aload_n hx hb dX6_addLimit_133 rfl (lv_at hl 1 rfl) ?_
                have q_18 : 0 ≤ S125.1 193 9 ∧ S125.1 193 9 ≤ 40 := hI125.fi 193 9 6 (by decide) rfl
                refine g_X6_50 Cx hW (k := 193) (by decide) rfl (v := S125.1 193 9) rfl dX6_addLimit_134 ?_
                refine lv_iconst (v := iv 0) hx hb dX6_addLimit_137 (by decide) ?_
                refine sBi (sSt (As := [.int (iv (S125.1 193 9)), .int (iv 0)]) (rest := [.ref (G.2.2.1 + 194), .ref (G.2.2.1 + 202)]) Cx (s_X6_at l G S125 (k := S125.1 193 9) (j := 0) (by omega) (by omega)) (c_X6_53 Cx rfl rfl (rmk_ok (by omega) (by decide))) hW rfl hl.1 rfl (Nat.le_of_ble_eq_true rfl) dX6_addLimit_138 ⟨Nat.le_of_ble_eq_true rfl, Nat.le_of_ble_eq_true rfl⟩) hL (fun r_21 u_19 H locs k_20 hW hL => ?_)
                obtain ⟨eu_19, xu_19⟩ := k_20
                rw [eu_19] at hW
                have q_22 : 0 ≤ S125.1 202 1 ∧ S125.1 202 1 ≤ 32 := hI125.fi 202 1 0 (by decide) rfl
                have q_23 : (-1) ≤ S125.1 202 2 ∧ S125.1 202 2 ≤ 1 := hI125.fi 202 2 0 (by decide) rfl
                refine sBv (sV (As := [.ref (G.2.2.1 + 194), .int (iv r_21)]) (rest := []) (k := 202) Cx (s_X0_save l G S125 (o := 202) (k := 194) (a := r_21) (N := 4264) hI125 rfl ⟨by decide, rfl, by decide, rfl, rfl, rfl⟩ (by omega) (show _ ≤ (7 : Int) ∧ (_ → _ ≤ (999999999 : Int)) from ⟨by omega, fun _ => by have := limbR hI125 (rfl : tau 202 = .inl 0) 6; omega⟩) (fun q _ => by rcases q with q | q <;> exact absurd q (by decide))) (c_X6_83 Cx rfl rfl (rmk_ok (by omega) (by decide))) hW (by decide) rfl rfl rfl hl.1 rfl (Nat.le_of_ble_eq_true rfl) dX6_addLimit_141 ⟨Nat.le_of_ble_eq_true rfl, Nat.le_of_ble_eq_true rfl⟩) hL (fun u_24 H locs k_25 hW hL => ?_)
                obtain ⟨iu_24, fu_24⟩ := k_25
                have F_26 := hFm125.trans (fu_24.to (p1_sub rfl))
                have F_27 := hFL34125.trans (fu_24.to (p1_sub rfl))
                have F_28 := hL125_.trans (fu_24.to (p1_sub rfl))
                exact sVret Cx hr hlk hW hL ⟨iu_24, F_26⟩ dX6_addLimit_144
              refine lv_iload_n hx hb dX6_addLimit_94 rfl (lv_at hl 4 rfl) ?_
              refine r_if_eq (tgt := 125) hx hb ⟨(by omega), (by omega)⟩ dX6_addLimit_95 (by decide) (fun c_29 => ?_) (fun c_29 => ?_)
              · have q_30 : 0 ≤ u_14.1 202 1 ∧ u_14.1 202 1 ≤ 32 := iu_14.fi 202 1 0 (by decide) rfl
                exact join_125 u_14  _ _ _ iu_14 F_16 F_17 (Fr.rf : Fr u_14 u_14 pW) (by omega) hW hL (lv_sub hl [0, 1, 2, 3, 4] rfl)
              · refine lv_aload_n hx hb dX6_addLimit_98 rfl (lv_at hl 1 rfl) ?_
                refine g_X6_37 Cx hW (k := 193) (by decide) rfl (v := .ref (G.2.2.1 + 206)) (rf_193_7 iu_14) dX6_addLimit_99 ?_
                refine lv_lconst (v := jv 1) hx hb dX6_addLimit_102 (by decide) ?_
                refine sBv (sV (As := [.long (jv 1)]) (rest := []) (k := 206) Cx (s_X0_put l G u_14 (o := 206) (v := 1) iu_14 rfl (by omega)) (c_X6_86 Cx rfl rfl (rmk_ok (by omega) (by decide))) hW (by decide) rfl rfl rfl hl.1 rfl (Nat.le_of_ble_eq_true rfl) dX6_addLimit_103 ⟨Nat.le_of_ble_eq_true rfl, Nat.le_of_ble_eq_true rfl⟩) hL (fun u_31 H locs k_32 hW hL => ?_)
                obtain ⟨iu_31, fu_31, xu_31⟩ := k_32
                have F_33 := F_16.trans (fu_31.to (pB_sub rfl rfl))
                have F_34 := F_17.trans (fu_31.to (pB_sub rfl rfl))
                have F_35 := (Fr.rf : Fr u_14 u_14 pW).trans (fu_31.to (pB_sub rfl rfl))
                refine lv_aload_n hx hb dX6_addLimit_106 rfl (lv_at hl 1 rfl) ?_
                refine g_X6_31 Cx hW (k := 193) (by decide) rfl (v := .ref (G.2.2.1 + 202)) (rf_193_5 iu_31) dX6_addLimit_107 ?_
                refine lv_aload_n hx hb dX6_addLimit_110 rfl (lv_at hl 1 rfl) ?_
                refine g_X6_37 Cx hW (k := 193) (by decide) rfl (v := .ref (G.2.2.1 + 206)) (rf_193_7 iu_31) dX6_addLimit_111 ?_
                refine lv_iconst (v := iv 1) hx hb dX6_addLimit_114 (by decide) ?_
                have q_36 : 0 ≤ u_31.1 206 1 ∧ u_31.1 206 1 ≤ 32 := iu_31.fi 206 1 0 (by decide) rfl
                have q_37 : 0 ≤ u_14.1 202 1 ∧ u_14.1 202 1 ≤ 32 := iu_14.fi 202 1 0 (by decide) rfl
                have lk_38 : u_31.1 202 1 = u_14.1 202 1 := (fu_31 202 rfl).1 1
                have q_39 : (-1) ≤ u_14.1 202 2 ∧ u_14.1 202 2 ≤ 1 := iu_14.fi 202 2 0 (by decide) rfl
                have lk_40 : u_31.1 202 2 = u_14.1 202 2 := (fu_31 202 rfl).1 2
                have q_41 : (-1) ≤ u_31.1 206 2 ∧ u_31.1 206 2 ≤ 1 := iu_31.fi 206 2 0 (by decide) rfl
                refine sBv (sV (As := [.ref (G.2.2.1 + 206), .int (iv 1)]) (rest := []) (k := 202) Cx (t_X0_add_p l G u_31 (o := 202) (a := 206) (n := 6) (t := 999999) iu_31 rfl rfl (show (202 : Nat) ≠ 206 by decide) (by omega) (fun q => by have e : u_31.2.1 203 6 = _ := (fu_31 203 rfl).2.1 6; rw [e]; exact hsm (by omega))) (c_X6_93 Cx rfl rfl (rmk_ok (by omega) (by decide))) hW (by decide) rfl rfl rfl hl.1 rfl (Nat.le_of_ble_eq_true rfl) dX6_addLimit_115 ⟨Nat.le_of_ble_eq_true rfl, Nat.le_of_ble_eq_true rfl⟩) hL (fun u_42 H locs k_43 hW hL => ?_)
                obtain ⟨iu_42, fu_42, xu_42⟩ := k_43
                have F_44 := F_33.trans (fu_42.to (pB_sub rfl rfl))
                have F_45 := F_34.trans (fu_42.to (pB_sub rfl rfl))
                have F_46 := F_35.trans (fu_42.to (pB_sub rfl rfl))
                refine lv_aload_n hx hb dX6_addLimit_118 rfl (lv_at hl 1 rfl) ?_
                refine g_X6_31 Cx hW (k := 193) (by decide) rfl (v := .ref (G.2.2.1 + 202)) (rf_193_5 iu_42) dX6_addLimit_119 ?_
                have q_47 : 0 ≤ u_42.1 202 1 ∧ u_42.1 202 1 ≤ 32 := iu_42.fi 202 1 0 (by decide) rfl
                have q_48 : (-1) ≤ u_42.1 202 2 ∧ u_42.1 202 2 ≤ 1 := iu_42.fi 202 2 0 (by decide) rfl
                refine sBv (sV (As := []) (rest := []) (k := 202) Cx (s_X0_turn l G u_42 (o := 202) iu_42 rfl) (c_X6_119 Cx rfl rfl (rmk_ok (by omega) (by decide))) hW (by decide) rfl rfl rfl hl.1 rfl (Nat.le_of_ble_eq_true rfl) dX6_addLimit_122 ⟨Nat.le_of_ble_eq_true rfl, Nat.le_of_ble_eq_true rfl⟩) hL (fun u_49 H locs k_50 hW hL => ?_)
                obtain ⟨iu_49, fu_49, xu_49⟩ := k_50
                have F_51 := F_44.trans (fu_49.to (pB_sub rfl rfl))
                have F_52 := F_45.trans (fu_49.to (pB_sub rfl rfl))
                have F_53 := F_46.trans (fu_49.to (pB_sub rfl rfl))
                have q_54 : 0 ≤ u_49.1 202 1 ∧ u_49.1 202 1 ≤ 32 := iu_49.fi 202 1 0 (by decide) rfl
                exact join_125 u_49  _ _ _ iu_49 F_51 F_52 F_53 (by omega) hW hL (lv_sub hl [0, 1, 2, 3, 4] rfl)
            · refine lv_aload_n hx hb dX6_addLimit_43 rfl (lv_at hl 1 rfl) ?_
              refine g_X6_13 Cx hW (k := 193) (by decide) rfl (v := .ref (G.2.2.1 + 194)) (rf_193_0 hI34) dX6_addLimit_44 ?_
              refine lv_aload_n hx hb dX6_addLimit_47 rfl (lv_at hl 1 rfl) ?_
              refine g_X6_50 Cx hW (k := 193) (by decide) rfl (v := (S.1 193 9) + 1) (((hL34_ 193 rfl).1 9).trans (uF_on)) dX6_addLimit_48 ?_
              refine lv_iload hx hb dX6_addLimit_51 (lv_at hl 0 rfl) ?_
              refine sBi (sSt (As := [.int (iv ((S.1 193 9) + 1)), .int (iv j)]) (rest := [.ref (G.2.2.1 + 194)]) Cx (s_X6_at l G S34 (k := (S.1 193 9) + 1) (j := j) (by omega) (by omega)) (c_X6_53 Cx rfl rfl (rmk_ok (by omega) (by decide))) hW rfl hl.1 rfl (Nat.le_of_ble_eq_true rfl) dX6_addLimit_53 ⟨Nat.le_of_ble_eq_true rfl, Nat.le_of_ble_eq_true rfl⟩) hL (fun r_57 u_55 H locs k_56 hW hL => ?_)
              obtain ⟨eu_55, xu_55⟩ := k_56
              rw [eu_55] at hW
              refine lv_iload hx hb dX6_addLimit_56 (lv_at hl 0 rfl) ?_
              refine lv_iload_n hx hb dX6_addLimit_58 rfl (lv_at hl 2 rfl) ?_
              refine r_icmp_eq (tgt := 66) hx hb ⟨(by omega), (by omega)⟩ ⟨(by omega), (by omega)⟩ dX6_addLimit_59 (by decide) (fun c_58 => ?_) (fun c_58 => ?_)
              · refine lv_iload_n hx hb dX6_addLimit_66 rfl (lv_at hl 4 rfl) ?_
                refine r_if_eq (tgt := 76) hx hb ⟨(by omega), (by omega)⟩ dX6_addLimit_67 (by decide) (fun c_59 => ?_) (fun c_59 => ?_)
                · refine lv_lconst (v := jv 1) hx hb dX6_addLimit_76 (by decide) ?_
                  refine sBv (sSt (As := [.ref (G.2.2.1 + 194), .int (iv r_57), .long (jv 1)]) (rest := []) Cx (s_X0_store l G S34 (k := 194) (a := r_57) (v := 1) (N := 4264) hI34 ⟨by decide, rfl, by decide, rfl, rfl, rfl⟩ (by omega) (by omega) (fun q _ => by rcases q with q | q <;> exact absurd q (by decide))) (c_X6_60 Cx rfl rfl (rmk_ok (by omega) (by decide))) hW rfl hl.1 rfl (Nat.le_of_ble_eq_true rfl) dX6_addLimit_77 ⟨Nat.le_of_ble_eq_true rfl, Nat.le_of_ble_eq_true rfl⟩) hL (fun u_60 H locs k_61 hW hL => ?_)
                  obtain ⟨iu_60, fu_60⟩ := k_61
                  have F_62 := hFm34.trans (fu_60.to (p1_sub rfl))
                  have F_63 := hL34_.trans (fu_60.to (p1_sub rfl))
                  refine lv_iinc (v := iv (j + 1)) (lv' := [(4, .int (iv (j + 1))), (0, .ref (G.2.2.1 + 193)), (1, .int (iv z)), (2, .ref (G.2.2.1 + 219)), (3, .int (iv ab))]) hx hb dX6_addLimit_80 hl (k := 0) rfl ((Int32.ofInt_add _ _).symm) (by decide) rfl (fun ls hl => ?_)
                  refine lv_goto (tgt := 34) hx hb dX6_addLimit_83 (by decide) ?_
                  have q_64 : 0 ≤ S34.1 219 1 ∧ S34.1 219 1 ≤ 32 := hI34.fi 219 1 0 (by decide) rfl
                  have lk_65 : u_60.1 219 1 = S34.1 219 1 := (fu_60 219 rfl).1 1
                  exact ih_34 u_60 (j + 1) _ _ _ (by omega) iu_60 F_62 F_63 (by omega) (by omega) (fun q => by have e : u_60.2.1 220 6 = S34.2.1 220 6 := (fu_60 220 rfl).2.1 6; rw [e]; exact hv64 (by omega)) hW hL (lv_sub hl [0, 1, 2, 3, 4] rfl)
                · refine lv_ldc2 hx hb hown (hts _ w_1551) dX6_addLimit_70 ?_
                  refine lv_goto (tgt := 77) hx hb dX6_addLimit_73 (by decide) ?_
                  refine sBv (sSt (As := [.ref (G.2.2.1 + 194), .int (iv r_57), .long (jv ((-1)))]) (rest := []) Cx (s_X0_store l G S34 (k := 194) (a := r_57) (v := (-1)) (N := 4264) hI34 ⟨by decide, rfl, by decide, rfl, rfl, rfl⟩ (by omega) (by omega) (fun q _ => by rcases q with q | q <;> exact absurd q (by decide))) (c_X6_60 Cx rfl rfl (rmk_ok (by omega) (by decide))) hW rfl hl.1 rfl (Nat.le_of_ble_eq_true rfl) dX6_addLimit_77 ⟨Nat.le_of_ble_eq_true rfl, Nat.le_of_ble_eq_true rfl⟩) hL (fun u_66 H locs k_67 hW hL => ?_)
                  obtain ⟨iu_66, fu_66⟩ := k_67
                  have F_68 := hFm34.trans (fu_66.to (p1_sub rfl))
                  have F_69 := hL34_.trans (fu_66.to (p1_sub rfl))
                  refine lv_iinc (v := iv (j + 1)) (lv' := [(4, .int (iv (j + 1))), (0, .ref (G.2.2.1 + 193)), (1, .int (iv z)), (2, .ref (G.2.2.1 + 219)), (3, .int (iv ab))]) hx hb dX6_addLimit_80 hl (k := 0) rfl ((Int32.ofInt_add _ _).symm) (by decide) rfl (fun ls hl => ?_)
                  refine lv_goto (tgt := 34) hx hb dX6_addLimit_83 (by decide) ?_
                  have q_70 : 0 ≤ S34.1 219 1 ∧ S34.1 219 1 ≤ 32 := hI34.fi 219 1 0 (by decide) rfl
                  have lk_71 : u_66.1 219 1 = S34.1 219 1 := (fu_66 219 rfl).1 1
                  exact ih_34 u_66 (j + 1) _ _ _ (by omega) iu_66 F_68 F_69 (by omega) (by omega) (fun q => by have e : u_66.2.1 220 6 = S34.2.1 220 6 := (fu_66 220 rfl).2.1 6; rw [e]; exact hv64 (by omega)) hW hL (lv_sub hl [0, 1, 2, 3, 4] rfl)
              · refine lv_lconst (v := jv 0) hx hb dX6_addLimit_62 (by decide) ?_
                refine lv_goto (tgt := 77) hx hb dX6_addLimit_63 (by decide) ?_
                refine sBv (sSt (As := [.ref (G.2.2.1 + 194), .int (iv r_57), .long (jv 0)]) (rest := []) Cx (s_X0_store l G S34 (k := 194) (a := r_57) (v := 0) (N := 4264) hI34 ⟨by decide, rfl, by decide, rfl, rfl, rfl⟩ (by omega) (by omega) (fun q _ => by rcases q with q | q <;> exact absurd q (by decide))) (c_X6_60 Cx rfl rfl (rmk_ok (by omega) (by decide))) hW rfl hl.1 rfl (Nat.le_of_ble_eq_true rfl) dX6_addLimit_77 ⟨Nat.le_of_ble_eq_true rfl, Nat.le_of_ble_eq_true rfl⟩) hL (fun u_72 H locs k_73 hW hL => ?_)
                obtain ⟨iu_72, fu_72⟩ := k_73
                have F_74 := hFm34.trans (fu_72.to (p1_sub rfl))
                have F_75 := hL34_.trans (fu_72.to (p1_sub rfl))
                refine lv_iinc (v := iv (j + 1)) (lv' := [(4, .int (iv (j + 1))), (0, .ref (G.2.2.1 + 193)), (1, .int (iv z)), (2, .ref (G.2.2.1 + 219)), (3, .int (iv ab))]) hx hb dX6_addLimit_80 hl (k := 0) rfl ((Int32.ofInt_add _ _).symm) (by decide) rfl (fun ls hl => ?_)
                refine lv_goto (tgt := 34) hx hb dX6_addLimit_83 (by decide) ?_
                have q_76 : 0 ≤ S34.1 219 1 ∧ S34.1 219 1 ≤ 32 := hI34.fi 219 1 0 (by decide) rfl
                have lk_77 : u_72.1 219 1 = S34.1 219 1 := (fu_72 219 rfl).1 1
                exact ih_34 u_72 (j + 1) _ _ _ (by omega) iu_72 F_74 F_75 (by omega) (by omega) (fun q => by have e : u_72.2.1 220 6 = S34.2.1 220 6 := (fu_72 220 rfl).2.1 6; rw [e]; exact hv64 (by omega)) hW hL (lv_sub hl [0, 1, 2, 3, 4] rfl)
        have q_78 : 0 ≤ S.1 219 1 ∧ S.1 219 1 ≤ 32 := hI.fi 219 1 0 (by decide) rfl
        have lk_79 : (uF S 193 9 ((S.1 193 9) + 1)).1 219 1 = S.1 219 1 := uF_ne (fun h => absurd h.2 (by decide))
        exact loop_34 (_ + 1) (uF S 193 9 ((S.1 193 9) + 1)) 1 _ _ _ (Nat.lt_succ_self _) i_10 F_9 Fr.rf (by omega) (by omega) (fun q => by have e : (uF S 193 9 ((S.1 193 9) + 1)).2.1 220 6 = S.2.1 220 6 := uF_a; rw [e]; exact hv6 (by omega)) hW hL (lv_sub hl [0, 1, 2, 3, 4] rfl)
      · exact sVret Cx hr hlk hW hL ⟨hI, (Fr.rf : Fr S S pW)⟩ dX6_addLimit_20
