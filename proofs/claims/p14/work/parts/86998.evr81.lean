/-! The reference's sums; an index in sight -/
theorem eFind_push {N : sN} {x y w : Int} (h0 : 0 ≤ N.1) : eFind (push N x w) y = if 0 ≤ eFind N y then eFind N y else if x = y then N.1 else -1 := by
  have e := eFind_add (N := N) (x := x) (y := y) (f := fun q => if q = 0 then 2 else if q = 1 then w else -1) (w := fun _ => 0) h0
  exact e
theorem isS_push {N : sN} {x y w : Int} (h0 : 0 ≤ N.1) : isS (push N x w) y ↔ isS N y := by
  have e := isS_add (N := N) (x := x) (y := y) (f := fun q => if q = 0 then 2 else if q = 1 then w else -1) (w := fun _ => 0) h0 (by show (if (0 : Int) = 0 then (2 : Int) else _) ≠ 6; rw [if_pos rfl]; decide)
  exact e
theorem NRr.set6 {N : sN} {k v : Int → Int} {S : sS} {x w s : Int} (h : NRr (push N x w) k v S) (s0 : 0 ≤ s) (s1 : s < N.1) (h6 : N.2.2.1 s 0 = 6) : S.2.1 250 s = N.2.2.1 s 1 ∧ S.2.1 251 s = N.2.2.1 s 2 := by
  have hs := (h.2.2 s s0 (show s < N.1 + 1 by omega)).2.1
  rw [push_o (by omega)] at hs; exact ⟨(hs h6).1.symm, (hs h6).2.symm⟩
set_option maxRecDepth 100000 in
set_option maxHeartbeats 4000000 in
theorem n_X12_factor (l : Launch) (G : sG) (S : sS) {ix : Int} (hI : dX G S) (hf9 : S.1 231 20 ≠ 0) : Met l yX12_factor (.code yX12_factor cX12_factor 3 none :: tb) (rmk 1 0 0) (sPc G 294 S [.ref (G.2.2.1 + 231), .int (iv ix)]) (sQv G 294 (fun u => u = S)) 0 0 (sF G) := by
  refine sEnter (by decide) (Nat.le_of_ble_eq_true rfl) ?_
  intro p e s m args below meth c Cx hr hlk hnm hW ls hl
  have Cx : sC G p m c cX12_factor 3 s args RX12 := Cx
  obtain ⟨hx, hb, hml, hown, hts⟩ := id Cx.1
  have hL : sL G [] := sL_nil
  have hl : lv_has ls 3 [(0, .ref (G.2.2.1 + 231)), (1, .int (iv ix))] := hl
  have hW0 := hW
  refine lv_aload_n hx hb dX12_factor_0 rfl (lv_at hl 0 rfl) ?_
  have q_1 : (-2147483648) ≤ S.1 231 20 ∧ S.1 231 20 ≤ 2147483647 := hI.fi 20
  refine g_X12_270 Cx hW (k := 231) (by decide) rfl (v := S.1 231 20) rfl dX12_factor_1 ?_
  refine r_if_eq (tgt := 8) hx hb ⟨(by omega), (by omega)⟩ dX12_factor_4 (by decide) (fun c => absurd c (by omega)) (fun _ => ?_)
  exact sVret Cx hr hlk hW hL rfl dX12_factor_7

set_option maxRecDepth 100000 in
set_option maxHeartbeats 4000000 in
theorem n_X12_product (l : Launch) (G : sG) (S : sS) {ix : Int} (hI : dX G S) (hf9 : S.1 231 20 ≠ 0) (hix : 0 ≤ ix ∧ ix ≤ 1820) : Met l yX12_product (.code yX12_product cX12_product 8 none :: tb) (rmk 2 0 0) (sPc G 294 S [.ref (G.2.2.1 + 231), .int (iv ix)]) (sQv G 294 (fun u => u = S)) 0 0 (sF G) := by
  refine sEnter (by decide) (Nat.le_of_ble_eq_true rfl) ?_
  intro p e s m args below meth c Cx hr hlk hnm hW ls hl
  have Cx : sC G p m c cX12_product 8 s args RX12 := Cx
  obtain ⟨hx, hb, hml, hown, hts⟩ := id Cx.1
  have hL : sL G [] := sL_nil
  have hl : lv_has ls 8 [(0, .ref (G.2.2.1 + 231)), (1, .int (iv ix))] := hl
  have hW0 := hW
  refine lv_aload_n hx hb dX12_product_0 rfl (lv_at hl 0 rfl) ?_
  refine lv_iload_n hx hb dX12_product_1 rfl (lv_at hl 1 rfl) ?_
  have q_1 : (-2147483648) ≤ S.1 231 20 ∧ S.1 231 20 ≤ 2147483647 := hI.fi 20
  refine sBv (sV (As := [.int (iv ix)]) (rest := []) (k := 231) Cx (n_X12_factor l G S (ix := ix) hI (by omega)) (c_X12_426 Cx rfl rfl (rmk_ok (by omega) (by decide))) hW (by decide) rfl rfl rfl hl.1 rfl (Nat.le_of_ble_eq_true rfl) dX12_product_2 ⟨Nat.le_of_ble_eq_true rfl, Nat.le_of_ble_eq_true rfl⟩) hL (fun u_2 H locs k_3 hW hL => ?_)
  rw [k_3] at hW
  refine lv_iload_n hx hb dX12_product_5 rfl (lv_at hl 1 rfl) ?_
  refine lv_bipush (v := iv 12) hx hb dX12_product_6 (by decide) ?_
  refine r_iadd hx hb dX12_product_8 ?_
  refine lv_iconst (v := iv 1) hx hb dX12_product_9 (by decide) ?_
  refine r_iadd hx hb dX12_product_10 ?_
  refine lv_istore_n (lv' := [(2, .int (iv ((ix + 12) + 1))), (0, .ref (G.2.2.1 + 231)), (1, .int (iv ix))]) hx hb dX12_product_11 rfl hl (by decide) rfl (fun ls hl => ?_)
  refine lv_aload_n hx hb dX12_product_12 rfl (lv_at hl 1 rfl) ?_
  refine g_X12_270 Cx hW (k := 231) (by decide) rfl (v := S.1 231 20) rfl dX12_product_13 ?_
  refine r_if_ne (tgt := 177) hx hb ⟨(by omega), (by omega)⟩ dX12_product_16 (by decide) (fun _ => ?_) (fun c => absurd c (by omega))
  exact sVret Cx hr hlk hW hL rfl dX12_product_177

set_option maxRecDepth 100000 in
set_option maxHeartbeats 4000000 in
theorem n_X12_expression (l : Launch) (G : sG) (S : sS) {ix : Int} (hI : dX G S) (hf9 : S.1 231 20 ≠ 0) (hix : 0 ≤ ix ∧ ix ≤ 1820) : Met l yX12_expression (.code yX12_expression cX12_expression 5 none :: tb) (rmk 3 0 0) (sPc G 294 S [.ref (G.2.2.1 + 231), .int (iv ix)]) (sQv G 294 (fun u => u = S)) 0 0 (sF G) := by
  refine sEnter (by decide) (Nat.le_of_ble_eq_true rfl) ?_
  intro p e s m args below meth c Cx hr hlk hnm hW ls hl
  have Cx : sC G p m c cX12_expression 5 s args RX12 := Cx
  obtain ⟨hx, hb, hml, hown, hts⟩ := id Cx.1
  have hL : sL G [] := sL_nil
  have hl : lv_has ls 5 [(0, .ref (G.2.2.1 + 231)), (1, .int (iv ix))] := hl
  have hW0 := hW
  refine lv_aload_n hx hb dX12_expression_0 rfl (lv_at hl 0 rfl) ?_
  refine lv_iload_n hx hb dX12_expression_1 rfl (lv_at hl 1 rfl) ?_
  have q_1 : (-2147483648) ≤ S.1 231 20 ∧ S.1 231 20 ≤ 2147483647 := hI.fi 20
  refine sBv (sV (As := [.int (iv ix)]) (rest := []) (k := 231) Cx (n_X12_product l G S (ix := ix) hI (by omega) (by omega)) (c_X12_423 Cx rfl rfl (rmk_ok (by omega) (by decide))) hW (by decide) rfl rfl rfl hl.1 rfl (Nat.le_of_ble_eq_true rfl) dX12_expression_2 ⟨Nat.le_of_ble_eq_true rfl, Nat.le_of_ble_eq_true rfl⟩) hL (fun u_2 H locs k_3 hW hL => ?_)
  rw [k_3] at hW
  refine lv_iload_n hx hb dX12_expression_5 rfl (lv_at hl 1 rfl) ?_
  refine lv_bipush (v := iv 12) hx hb dX12_expression_6 (by decide) ?_
  refine r_iadd hx hb dX12_expression_8 ?_
  refine lv_iconst (v := iv 1) hx hb dX12_expression_9 (by decide) ?_
  refine r_iadd hx hb dX12_expression_10 ?_
  refine lv_istore_n (lv' := [(2, .int (iv ((ix + 12) + 1))), (0, .ref (G.2.2.1 + 231)), (1, .int (iv ix))]) hx hb dX12_expression_11 rfl hl (by decide) rfl (fun ls hl => ?_)
  refine lv_aload_n hx hb dX12_expression_12 rfl (lv_at hl 1 rfl) ?_
  refine g_X12_270 Cx hW (k := 231) (by decide) rfl (v := S.1 231 20) rfl dX12_expression_13 ?_
  refine r_if_ne (tgt := 143) hx hb ⟨(by omega), (by omega)⟩ dX12_expression_16 (by decide) (fun _ => ?_) (fun c => absurd c (by omega))
  exact sVret Cx hr hlk hW hL rfl dX12_expression_143

set_option maxRecDepth 100000 in
set_option maxHeartbeats 4000000 in
theorem e_X12_sum (l : Launch) (G : sG) (S : sS) {N : sN} {k v : Int → Int} {T pz q q1 ix : Int} {n d1 D : Nat} (hI : dX G S) (hkr : Hd (KRr S k v T)) (hNr : Hd (NRr N k v S)) (hK_ : Hd (NK N)) (hTV : Hd (TVn k v)) (hf0 : S.1 231 20 = 0) (hc : S.1 231 24 = pz) (hlk : 0 ≤ S.1 231 42 ∧ S.1 231 42 ≤ 20000) (h1 : d1 < D) (h8 : 12 ≤ D) (hnm : N.1 + n ≤ 127) (hqb : 0 ≤ pz ∧ q1 + 1 ≤ T - 1) (hix : 0 ≤ ix ∧ ix + 13 + (39 * n + 26) + 12 < 1820) (hk21 : Hd (k (pz + 1) = 2)) (hk23 : Hd (k (pz + 3) = 2)) (hgx : Hd (ogU T k (ogF T k n) (pz + 5) = some q1)) (hqq : q = q1 + 1) (hU : Hd (EXr l G d1 n)) : Met l yX12_sum (.code yX12_sum cX12_sum 9 none :: tb) (rmk D 0 0) (sPc G 294 S [.ref (G.2.2.1 + 231), .int (iv ix)]) (sQv G 294 (fun u => dX G u ∧ Fr S u (pl [231, 248, 249, 250, 251, 252, 257, 258]) ∧ FF S u (fl [20, 21, 24, 25, 42, 43]) ∧ (EOr S u N k v q (eSm T k v n N (S.1 231 42) pz) ix ∧ (0 ≤ u.1 231 24 ∧ u.1 231 24 ≤ q)))) 0 0 (sF G) := by
  refine sEnter (by decide) (Nat.le_of_ble_eq_true rfl) ?_
  intro p e s m args below meth c Cx hr hlk hnm hW ls hl
  have Cx : sC G p m c cX12_sum 9 s args RX12 := Cx
  obtain ⟨hx, hb, hml, hown, hts⟩ := id Cx.1
  have hL : sL G [] := sL_nil
  have hl : lv_has ls 9 [(0, .ref (G.2.2.1 + 231)), (1, .int (iv ix))] := hl
  have hW0 := hW
  obtain ⟨K, hK⟩ : ∃ z, S.2.1 244 = z := ⟨_, rfl⟩
  obtain ⟨V, hV⟩ : ∃ z, S.2.1 247 = z := ⟨_, rfl⟩
  obtain ⟨Fm, hFm⟩ : ∃ z, S.2.1 245 = z := ⟨_, rfl⟩
  obtain ⟨Wd, hWd⟩ : ∃ z, S.2.1 246 = z := ⟨_, rfl⟩
  have hkk : kr K V T = k := (by rw [← hK, ← hV]; exact hkr.1)
  have hTb := hkr.2.1
  have hN1 := hNr.1
  have hgl := ogU_inc (ogF_inc n) _ _ hgx
  refine lv_aload_n hx hb dX12_sum_0 rfl (lv_at hl 0 rfl) ?_
  have q_1 : (-2147483648) ≤ S.1 231 24 ∧ S.1 231 24 ≤ 2147483647 := hI.fi 24
  refine g_X12_315 Cx hW (k := 231) (by decide) rfl (v := S.1 231 24) rfl dX12_sum_1 ?_
  refine lv_istore_n (lv' := [(2, .int (iv (S.1 231 24))), (0, .ref (G.2.2.1 + 231)), (1, .int (iv ix))]) hx hb dX12_sum_4 rfl hl (by decide) rfl (fun ls hl => ?_)
  refine lv_aload_n hx hb dX12_sum_5 rfl (lv_at hl 1 rfl) ?_
  refine lv_dup hx hb dX12_sum_6 rfl ?_
  refine g_X12_315 Cx hW (k := 231) (by decide) rfl (v := S.1 231 24) rfl dX12_sum_7 ?_
  refine lv_iconst (v := iv 1) hx hb dX12_sum_10 (by decide) ?_
  refine r_iadd hx hb dX12_sum_11 ?_
  refine p_X12_315 Cx hW hL (k := 231) (by decide) rfl dX12_sum_12 (fun H locs hW hL => ?_)
  have F_2 : Fr S (uF S 231 24 ((S.1 231 24) + 1)) (pl [231, 248, 249, 250, 251, 252, 257, 258]) := (Fr.rf : Fr S S (pl [231, 248, 249, 250, 251, 252, 257, 258])).F rfl
  have g_3 : FF S (uF S 231 24 ((S.1 231 24) + 1)) (fl [20, 21, 24, 25, 42, 43]) := FF.F FF.rf rfl
  have i_4 : dX G (uF S 231 24 ((S.1 231 24) + 1)) := hI.F (i := 24) (show (-2147483648) ≤ (S.1 231 24) + 1 ∧ (S.1 231 24) + 1 ≤ 2147483647 from ⟨by omega, by omega⟩)
  refine lv_aload_n hx hb dX12_sum_15 rfl (lv_at hl 1 rfl) ?_
  refine lv_aload_n hx hb dX12_sum_16 rfl (lv_at hl 1 rfl) ?_
  refine g_X12_315 Cx hW (k := 231) (by decide) rfl (v := (S.1 231 24) + 1) uF_on dX12_sum_17 ?_
  refine lv_iconst (v := iv 5) hx hb dX12_sum_20 (by decide) ?_
  have q_5 : (-2147483648) ≤ S.1 231 20 ∧ S.1 231 20 ≤ 2147483647 := hI.fi 20
  have lk_6 : (uF S 231 24 ((S.1 231 24) + 1)).1 231 20 = S.1 231 20 := uF_ne (fun h => absurd h.2 (by decide))
  have q_7 : (-2147483648) ≤ S.1 231 25 ∧ S.1 231 25 ≤ 2147483647 := hI.fi 25
  have lk_8 : (uF S 231 24 ((S.1 231 24) + 1)).1 231 25 = S.1 231 25 := uF_ne (fun h => absurd h.2 (by decide))
  have kr_9 : KRr (uF S 231 24 ((S.1 231 24) + 1)) k v T := hkr.of (funext fun j => uF_a) (funext fun j => uF_a) (funext fun j => uF_a) (funext fun j => uF_a) (funext fun j => uF_a)
  have nr_10 : NRr N k v (uF S 231 24 ((S.1 231 24) + 1)) := hNr.of (uF_ne (fun h => absurd h.2 (by decide))) (funext fun j => uF_a) (funext fun j => uF_a) (funext fun j => uF_a) (funext fun j => uF_a) (funext fun j => uF_a) (funext fun j => uF_a)
  refine sBi (sV (As := [.int (iv ((S.1 231 24) + 1)), .int (iv 5)]) (rest := []) (k := 231) Cx (e_X12_add_ l G (uF S 231 24 ((S.1 231 24) + 1)) (tk := (S.1 231 24) + 1) (so := 5) i_4 kr_9 nr_10 hK_ (by omega) (by rw [hc]; exact hk21) (by omega) (by omega)) (c_X12_404 Cx rfl rfl (rmk_ok (by omega) (by decide))) hW (by decide) rfl rfl rfl hl.1 rfl (Nat.le_of_ble_eq_true rfl) dX12_sum_21 ⟨Nat.le_of_ble_eq_true rfl, Nat.le_of_ble_eq_true rfl⟩) hL (fun r_13 u_11 H locs k_12 hW hL => ?_)
  obtain ⟨iu_11, fu_11, gu_11, xu_11⟩ := k_12
  have F_14 := F_2.trans (fu_11.to (pl_sub (by decide)))
  have g_15 : FF S u_11 (fl [20, 21, 24, 25, 42, 43]) := FF.trans g_3 (FF.to gu_11 (fl_sub (by decide)))
  refine lv_istore_n (lv' := [(3, .int (iv r_13)), (2, .int (iv (S.1 231 24))), (0, .ref (G.2.2.1 + 231)), (1, .int (iv ix))]) hx hb dX12_sum_24 rfl hl (by decide) rfl (fun ls hl => ?_)
  refine lv_aload_n hx hb dX12_sum_25 rfl (lv_at hl 2 rfl) ?_
  have q_16 : (-2147483648) ≤ u_11.1 231 20 ∧ u_11.1 231 20 ≤ 2147483647 := iu_11.fi 20
  refine g_X12_270 Cx hW (k := 231) (by decide) rfl (v := u_11.1 231 20) rfl dX12_sum_26 ?_
  refine r_if_eq (tgt := 33) hx hb ⟨(by omega), (by omega)⟩ dX12_sum_29 (by decide) (fun c_17 => ?_) (fun c_17 => ?_)
  · obtain ⟨hfn0, hr3, h25u, hrw⟩ := xu_11.2.2 (by omega)
    have hfn : eFind N (v (pz + 1)) = -1 := (by rw [← hc]; exact hfn0)
    have h25S : (uF S 231 24 ((S.1 231 24) + 1)).1 231 25 = S.1 231 25 := uF_ne (fun h => absurd h.2 (by decide))
    have hrN : r_13 = N.1 := (by omega)
    have hp0 : NRr (push N (v (pz + 1)) 0) k v u_11 := (by rw [← hc]; exact NRr.pushed nr_10 hK_ (by rw [hc]; exact hk21) h25u hrw (funext fun j => (fu_11 253 rfl).2.1 j) (by omega))
    have hKp0 : NK (push N (v (pz + 1)) 0) := NK.pushed hK_ (by omega) hfn (by omega)
    refine lv_aload_n hx hb dX12_sum_33 rfl (lv_at hl 2 rfl) ?_
    refine lv_dup hx hb dX12_sum_34 rfl ?_
    refine g_X12_315 Cx hW (k := 231) (by decide) rfl (v := (S.1 231 24) + 1) ((gu_11 24 rfl).trans (uF_on)) dX12_sum_35 ?_
    refine lv_iconst (v := iv 2) hx hb dX12_sum_38 (by decide) ?_
    refine r_iadd hx hb dX12_sum_39 ?_
    refine p_X12_315 Cx hW hL (k := 231) (by decide) rfl dX12_sum_40 (fun H locs hW hL => ?_)
    have F_18 : Fr S (uF u_11 231 24 (((S.1 231 24) + 1) + 2)) (pl [231, 248, 249, 250, 251, 252, 257, 258]) := F_14.F rfl
    have g_19 : FF S (uF u_11 231 24 (((S.1 231 24) + 1) + 2)) (fl [20, 21, 24, 25, 42, 43]) := FF.F g_15 rfl
    have i_20 : dX G (uF u_11 231 24 (((S.1 231 24) + 1) + 2)) := iu_11.F (i := 24) (show (-2147483648) ≤ ((S.1 231 24) + 1) + 2 ∧ ((S.1 231 24) + 1) + 2 ≤ 2147483647 from ⟨by omega, by omega⟩)
    refine lv_aload_n hx hb dX12_sum_43 rfl (lv_at hl 2 rfl) ?_
    have lk_21 : (uF u_11 231 24 (((S.1 231 24) + 1) + 2)).1 231 20 = u_11.1 231 20 := uF_ne (fun h => absurd h.2 (by decide))
    have lk_22 : (uF u_11 231 24 (((S.1 231 24) + 1) + 2)).1 231 24 = ((S.1 231 24) + 1) + 2 := uF_on
    have kr_23 : KRr (uF u_11 231 24 (((S.1 231 24) + 1) + 2)) k v T := hkr.of (funext fun j => (uF_a).trans (((fu_11 243 rfl).2.1 j).trans (uF_a))) (funext fun j => (uF_a).trans (((fu_11 244 rfl).2.1 j).trans (uF_a))) (funext fun j => (uF_a).trans (((fu_11 245 rfl).2.1 j).trans (uF_a))) (funext fun j => (uF_a).trans (((fu_11 246 rfl).2.1 j).trans (uF_a))) (funext fun j => (uF_a).trans (((fu_11 247 rfl).2.1 j).trans (uF_a)))
    have nr_24 : NRr (push N (v (pz + 1)) 0) k v (uF u_11 231 24 (((S.1 231 24) + 1) + 2)) := hp0.of (uF_ne (fun h => absurd h.2 (by decide))) (funext fun j => uF_a) (funext fun j => uF_a) (funext fun j => uF_a) (funext fun j => uF_a) (funext fun j => uF_a) (funext fun j => uF_a)
    refine sBi (sV (As := []) (rest := []) (k := 231) Cx (e_X12_setHere l G (uF u_11 231 24 (((S.1 231 24) + 1) + 2)) (pz := ((pz) + 1) + 2) i_20 kr_23 nr_24 hKp0 (by omega) (by omega) (by rw [show ((pz) + 1) + 2 = pz + 3 by omega]; exact hk23)) (c_X12_364 Cx rfl rfl (rmk_ok (by omega) (by decide))) hW (by decide) rfl rfl rfl hl.1 rfl (Nat.le_of_ble_eq_true rfl) dX12_sum_44 ⟨Nat.le_of_ble_eq_true rfl, Nat.le_of_ble_eq_true rfl⟩) hL (fun s4 u_25 H locs k_26 hW hL => ?_)
    obtain ⟨iu_25, fu_25, gu_25, xu_25⟩ := k_26
    have F_27 := F_18.trans (fu_25.to (pl_sub (by decide)))
    have g_28 : FF S u_25 (fl [20, 21, 24, 25, 42, 43]) := FF.trans g_19 (FF.to gu_25 (fl_sub (by decide)))
    refine lv_istore (lv' := [(4, .int (iv s4)), (3, .int (iv r_13)), (2, .int (iv (S.1 231 24))), (0, .ref (G.2.2.1 + 231)), (1, .int (iv ix))]) hx hb dX12_sum_47 hl (by decide) rfl (fun ls hl => ?_)
    refine lv_aload_n hx hb dX12_sum_49 rfl (lv_at hl 3 rfl) ?_
    have q_29 : (-2147483648) ≤ u_25.1 231 20 ∧ u_25.1 231 20 ≤ 2147483647 := iu_25.fi 20
    refine g_X12_270 Cx hW (k := 231) (by decide) rfl (v := u_25.1 231 20) rfl dX12_sum_50 ?_
    refine r_if_eq (tgt := 57) hx hb ⟨(by omega), (by omega)⟩ dX12_sum_53 (by decide) (fun c_30 => ?_) (fun c_30 => ?_)
    · obtain ⟨hsr, hsi⟩ := xu_25.2.2.2 (by omega)
      rw [show ((pz) + 1) + 2 = pz + 3 by omega] at hsr hsi
      have hs6 : isS N (v (pz + 3)) := (isS_push (by omega)).mp hsi
      have hsE : s4 = eFind N (v (pz + 3)) := (by rw [hsr, eFind_push (by omega), if_pos hs6.1])
      have hsl := eFind_lt (N := N) (x := v (pz + 3)) (by omega)
      have hsN : 0 ≤ s4 ∧ s4 < N.1 := (by have z := hs6.1; omega)
      have h6 : N.2.2.1 s4 0 = 6 := (by rw [hsE]; exact hs6.2)
      have hb6 := (hK_.2 s4 hsN.1 hsN.2).2.1 h6
      have e250 : u_11.2.1 250 s4 = N.2.2.1 s4 1 := (hp0.set6 hsN.1 hsN.2 h6).1
      have e24 := xu_25.2.1
      refine lv_aload_n hx hb dX12_sum_57 rfl (lv_at hl 3 rfl) ?_
      refine lv_dup hx hb dX12_sum_58 rfl ?_
      have q_31 : (-2147483648) ≤ u_25.1 231 24 ∧ u_25.1 231 24 ≤ 2147483647 := iu_25.fi 24
      refine g_X12_315 Cx hW (k := 231) (by decide) rfl (v := u_25.1 231 24) rfl dX12_sum_59 ?_
      refine lv_iconst (v := iv 1) hx hb dX12_sum_62 (by decide) ?_
      refine r_iadd hx hb dX12_sum_63 ?_
      refine p_X12_315 Cx hW hL (k := 231) (by decide) rfl dX12_sum_64 (fun H locs hW hL => ?_)
      have F_32 : Fr S (uF u_25 231 24 ((u_25.1 231 24) + 1)) (pl [231, 248, 249, 250, 251, 252, 257, 258]) := F_27.F rfl
      have g_33 : FF S (uF u_25 231 24 ((u_25.1 231 24) + 1)) (fl [20, 21, 24, 25, 42, 43]) := FF.F g_28 rfl
      have i_34 : dX G (uF u_25 231 24 ((u_25.1 231 24) + 1)) := iu_25.F (i := 24) (show (-2147483648) ≤ (u_25.1 231 24) + 1 ∧ (u_25.1 231 24) + 1 ≤ 2147483647 from ⟨by omega, by omega⟩)
      refine lv_aload_n hx hb dX12_sum_67 rfl (lv_at hl 3 rfl) ?_
      refine g_X12_315 Cx hW (k := 231) (by decide) rfl (v := (u_25.1 231 24) + 1) uF_on dX12_sum_68 ?_
      refine lv_istore (lv' := [(5, .int (iv ((u_25.1 231 24) + 1))), (4, .int (iv s4)), (3, .int (iv r_13)), (2, .int (iv (S.1 231 24))), (0, .ref (G.2.2.1 + 231)), (1, .int (iv ix))]) hx hb dX12_sum_71 hl (by decide) rfl (fun ls hl => ?_)
      refine lv_iload_n hx hb dX12_sum_73 rfl (lv_at hl 5 rfl) ?_
      refine lv_bipush (v := iv 12) hx hb dX12_sum_74 (by decide) ?_
      refine r_iadd hx hb dX12_sum_76 ?_
      refine lv_iconst (v := iv 1) hx hb dX12_sum_77 (by decide) ?_
      refine r_iadd hx hb dX12_sum_78 ?_
      refine lv_istore (lv' := [(6, .int (iv ((ix + 12) + 1))), (5, .int (iv ((u_25.1 231 24) + 1))), (4, .int (iv s4)), (3, .int (iv r_13)), (2, .int (iv (S.1 231 24))), (0, .ref (G.2.2.1 + 231)), (1, .int (iv ix))]) hx hb dX12_sum_79 hl (by decide) rfl (fun ls hl => ?_)
      refine lv_aload_n hx hb dX12_sum_81 rfl (lv_at hl 5 rfl) ?_
      refine lv_iload_n hx hb dX12_sum_82 rfl (lv_at hl 6 rfl) ?_
      refine lv_lconst (v := jv 0) hx hb dX12_sum_83 (by decide) ?_
      refine sBv (sV (As := [.int (iv ix), .long (jv 0)]) (rest := []) (k := 231) Cx (e_X12_constant l G (uF u_25 231 24 ((u_25.1 231 24) + 1)) (ix := ix) (cv := 0) i_34 (by omega) (by omega)) (c_X12_431 Cx rfl rfl (rmk_ok (by omega) (by decide))) hW (by decide) rfl rfl rfl hl.1 rfl (Nat.le_of_ble_eq_true rfl) dX12_sum_84 ⟨Nat.le_of_ble_eq_true rfl, Nat.le_of_ble_eq_true rfl⟩) hL (fun u_35 H locs k_36 hW hL => ?_)
      obtain ⟨iu_35, fu_35, gu_35, xu_35⟩ := k_36
      have F_37 := F_32.trans (fu_35.to (pl_sub (by decide)))
      have g_38 : FF S u_35 (fl [20, 21, 24, 25, 42, 43]) := FF.trans g_33 (FF.to gu_35 (fl_sub (by decide)))
      refine lv_aload_n hx hb dX12_sum_87 rfl (lv_at hl 5 rfl) ?_
      refine g_X12_65 Cx hW (k := 231) (by decide) rfl (v := .ref (G.2.2.1 + 250)) (rd_28 iu_35) dX12_sum_88 ?_
      refine lv_iload hx hb dX12_sum_91 (lv_at hl 2 rfl) ?_
      refine rIald Cx hW (k := 250) (by decide) rfl (by decide) (by omega) (by omega) dX12_sum_93 ?_
      have q_39 : (-2147483648) ≤ u_11.2.1 250 s4 ∧ u_11.2.1 250 s4 ≤ 2147483647 := iu_11.ai 250 s4
      refine r_i (b := u_11.2.1 250 s4) (((fu_35 250 rfl).2.1 s4).trans ((uF_a).trans (((fu_25 250 rfl).2.1 s4).trans (uF_a)))) ?_
      refine lv_istore (lv' := [(7, .int (iv (u_11.2.1 250 s4))), (6, .int (iv ((ix + 12) + 1))), (5, .int (iv ((u_25.1 231 24) + 1))), (4, .int (iv s4)), (3, .int (iv r_13)), (2, .int (iv (S.1 231 24))), (0, .ref (G.2.2.1 + 231)), (1, .int (iv ix))]) hx hb dX12_sum_94 hl (by decide) rfl (fun ls hl => ?_)
      have loop_96 : ∀ (fuel : Nat) (S96 : sS) (va : Int) (H : Heap) (locs : List Loc) (ls : Array Slot), (N.2.2.1 s4 2 + 1 - va).toNat < fuel → (dX G S96) → (Fr S S96 (pl [231, 248, 249, 250, 251, 252, 257, 258])) → (Fr u_35 S96 (pl [231, 248, 249, 250, 251, 252, 257, 258])) → (FF S S96 (fl [20, 21, 24, 25, 42, 43])) → (FF u_35 S96 (fl [20, 21, 24, 25, 42, 43])) → (N.2.2.1 s4 1 ≤ va) → (Hd (∀ j, j < ix → S96.2.2.1 257 j = S.2.2.1 257 j)) → (Hd (S96.1 231 20 = 0 → va ≤ N.2.2.1 s4 2 + 1 ∧ ∃ V w0, eSm T k v n N (S.1 231 42) pz = eSq T k v n N pz (N.2.2.1 s4 2 + 1 - va).toNat va V (S96.1 231 42) q1 ∧ veq (fvr S96 ix) V ∧ vb9 V ∧ NRr (push N (v (pz + 1)) w0) k v S96 ∧ (0 ≤ S96.1 231 42 ∧ S96.1 231 42 ≤ 20000) ∧ (N.2.2.1 s4 1 < va → S96.1 231 24 = q1))) → (Hd (S96.1 231 20 ≠ 0 → eSm T k v n N (S.1 231 42) pz = none)) → (va ≤ 100001) → (0 ≤ S96.1 231 24 ∧ S96.1 231 24 ≤ q1) → sW G 294 S96 H → sL G locs → lv_has ls 9 [(7, .int (iv va)), (6, .int (iv ((ix + 12) + 1))), (5, .int (iv ((u_25.1 231 24) + 1))), (4, .int (iv s4)), (3, .int (iv r_13)), (2, .int (iv (S.1 231 24))), (0, .ref (G.2.2.1 + 231)), (1, .int (iv ix))] → W p l e (rmk D 0 0) s m args below meth c H locs 0 0 (MQ below (sQv G 294 (fun u => dX G u ∧ Fr S u (pl [231, 248, 249, 250, 251, 252, 257, 258]) ∧ FF S u (fl [20, 21, 24, 25, 42, 43]) ∧ (EOr S u N k v q (eSm T k v n N (S.1 231 42) pz) ix ∧ (0 ≤ u.1 231 24 ∧ u.1 231 24 ≤ q)))) args s 0 0 (sF G)) (F0 m 96 ls []) := by
        intro fuel
        induction fuel with
        | zero => intro S96 va H locs ls hmeas hI96 hFm96 hL96_ hGm96 gL96_ hva hlo hOK hNO hvb hcu hW hL hl; exact absurd hmeas (Nat.not_lt_zero _)
        | succ fuel ih_96 =>
          intro S96 va H locs ls hmeas hI96 hFm96 hL96_ hGm96 gL96_ hva hlo hOK hNO hvb hcu hW hL hl
          have hm96 := hmeas
          refine lv_iload hx hb dX12_sum_96 (lv_at hl 0 rfl) ?_
          refine lv_aload_n hx hb dX12_sum_98 rfl (lv_at hl 6 rfl) ?_
          refine g_X12_68 Cx hW (k := 231) (by decide) rfl (v := .ref (G.2.2.1 + 251)) (rd_29 hI96) dX12_sum_99 ?_
          refine lv_iload hx hb dX12_sum_102 (lv_at hl 3 rfl) ?_
          refine rIald Cx hW (k := 251) (by decide) rfl (by decide) (by omega) (by omega) dX12_sum_104 ?_
          have q_40 : (-2147483648) ≤ S96.2.1 251 s4 ∧ S96.2.1 251 s4 ≤ 2147483647 := hI96.ai 251 s4
          refine r_i (b := S96.2.1 251 s4) rfl ?_
          refine r_icmp_gt (tgt := 201) hx hb ⟨(by omega), (by omega)⟩ ⟨(by omega), (by omega)⟩ dX12_sum_105 (by decide) (fun c_41 => ?_) (fun c_41 => ?_)
          · by_cases hfz : S96.1 231 20 = 0
            · obtain ⟨hvh, V, w0, eV0, wV, bV, nV, lV, cV⟩ := hOK hfz
              have h251 := (nV.set6 hsN.1 hsN.2 h6).2
              have hk96 : N.1 + 1 = S96.1 231 25 := nV.1.1
              have hcq := cV (by omega)
              refine lv_aload_n hx hb dX12_sum_201 rfl (lv_at hl 6 rfl) ?_
              refine lv_dup hx hb dX12_sum_202 rfl ?_
              have q_42 : (-2147483648) ≤ S96.1 231 25 ∧ S96.1 231 25 ≤ 2147483647 := hI96.fi 25
              refine g_X12_358 Cx hW (k := 231) (by decide) rfl (v := S96.1 231 25) rfl dX12_sum_203 ?_
              refine lv_iconst (v := iv 1) hx hb dX12_sum_206 (by decide) ?_
              refine r_isub hx hb dX12_sum_207 ?_
              refine p_X12_358 Cx hW hL (k := 231) (by decide) rfl dX12_sum_208 (fun H locs hW hL => ?_)
              have F_43 : Fr S (uF S96 231 25 ((S96.1 231 25) - 1)) (pl [231, 248, 249, 250, 251, 252, 257, 258]) := hFm96.F rfl
              have F_44 : Fr u_35 (uF S96 231 25 ((S96.1 231 25) - 1)) (pl [231, 248, 249, 250, 251, 252, 257, 258]) := hL96_.F rfl
              have g_45 : FF S (uF S96 231 25 ((S96.1 231 25) - 1)) (fl [20, 21, 24, 25, 42, 43]) := FF.F hGm96 rfl
              have g_46 : FF u_35 (uF S96 231 25 ((S96.1 231 25) - 1)) (fl [20, 21, 24, 25, 42, 43]) := FF.F gL96_ rfl
              have i_47 : dX G (uF S96 231 25 ((S96.1 231 25) - 1)) := hI96.F (i := 25) (show (-2147483648) ≤ (S96.1 231 25) - 1 ∧ (S96.1 231 25) - 1 ≤ 2147483647 from ⟨by omega, by omega⟩)
              refine lv_aload_n hx hb dX12_sum_211 rfl (lv_at hl 6 rfl) ?_
              refine lv_dup hx hb dX12_sum_212 rfl ?_
              have q_48 : (-2147483648) ≤ S96.1 231 24 ∧ S96.1 231 24 ≤ 2147483647 := hI96.fi 24
              refine g_X12_315 Cx hW (k := 231) (by decide) rfl (v := S96.1 231 24) (uF_ne (fun h => absurd h.2 (by decide))) dX12_sum_213 ?_
              refine lv_iconst (v := iv 1) hx hb dX12_sum_216 (by decide) ?_
              refine r_iadd hx hb dX12_sum_217 ?_
              refine p_X12_315 Cx hW hL (k := 231) (by decide) rfl dX12_sum_218 (fun H locs hW hL => ?_)
              have F_49 : Fr S (uF (uF S96 231 25 ((S96.1 231 25) - 1)) 231 24 ((S96.1 231 24) + 1)) (pl [231, 248, 249, 250, 251, 252, 257, 258]) := F_43.F rfl
              have F_50 : Fr u_35 (uF (uF S96 231 25 ((S96.1 231 25) - 1)) 231 24 ((S96.1 231 24) + 1)) (pl [231, 248, 249, 250, 251, 252, 257, 258]) := F_44.F rfl
              have g_51 : FF S (uF (uF S96 231 25 ((S96.1 231 25) - 1)) 231 24 ((S96.1 231 24) + 1)) (fl [20, 21, 24, 25, 42, 43]) := FF.F g_45 rfl
              have g_52 : FF u_35 (uF (uF S96 231 25 ((S96.1 231 25) - 1)) 231 24 ((S96.1 231 24) + 1)) (fl [20, 21, 24, 25, 42, 43]) := FF.F g_46 rfl
              have i_53 : dX G (uF (uF S96 231 25 ((S96.1 231 25) - 1)) 231 24 ((S96.1 231 24) + 1)) := i_47.F (i := 24) (show (-2147483648) ≤ (S96.1 231 24) + 1 ∧ (S96.1 231 24) + 1 ≤ 2147483647 from ⟨by omega, by omega⟩)
              have lk_54 : (uF (uF S96 231 25 ((S96.1 231 25) - 1)) 231 24 ((S96.1 231 24) + 1)).1 231 24 = (S96.1 231 24) + 1 := uF_on
              have q_55 : (-2147483648) ≤ S96.1 231 20 ∧ S96.1 231 20 ≤ 2147483647 := hI96.fi 20
              have lk_56 : (uF (uF S96 231 25 ((S96.1 231 25) - 1)) 231 24 ((S96.1 231 24) + 1)).1 231 20 = S96.1 231 20 := (uF_ne (fun h => absurd h.2 (by decide))).trans (uF_ne (fun h => absurd h.2 (by decide)))
              have q_57 : (-2147483648) ≤ S96.1 231 42 ∧ S96.1 231 42 ≤ 2147483647 := hI96.fi 42
              have lk_58 : (uF (uF S96 231 25 ((S96.1 231 25) - 1)) 231 24 ((S96.1 231 24) + 1)).1 231 42 = S96.1 231 42 := (uF_ne (fun h => absurd h.2 (by decide))).trans (uF_ne (fun h => absurd h.2 (by decide)))
              exact sVret Cx hr hlk hW hL ⟨i_53, F_49, g_51, ⟨⟨(fun j a => hlo j a), (fun _ => ⟨V, (by rw [eV0, eSq_z (by omega), show (uF (uF S96 231 25 ((S96.1 231 25) - 1)) 231 24 ((S96.1 231 24) + 1)).1 231 42 = S96.1 231 42 from (show (uF (uF S96 231 25 ((S96.1 231 25) - 1)) 231 24 ((S96.1 231 24) + 1)).1 231 42 = S96.1 231 42 from (uF_ne (fun h => absurd h.2 (by decide))).trans (uF_ne (fun h => absurd h.2 (by decide)))), hqq]), wV, bV, (by rw [show (uF (uF S96 231 25 ((S96.1 231 25) - 1)) 231 24 ((S96.1 231 24) + 1)).1 231 42 = S96.1 231 42 from (show (uF (uF S96 231 25 ((S96.1 231 25) - 1)) 231 24 ((S96.1 231 24) + 1)).1 231 42 = S96.1 231 42 from (uF_ne (fun h => absurd h.2 (by decide))).trans (uF_ne (fun h => absurd h.2 (by decide))))]; exact lV), (by have e7 := (show (uF (uF S96 231 25 ((S96.1 231 25) - 1)) 231 24 ((S96.1 231 24) + 1)).1 231 24 = (S96.1 231 24) + 1 from uF_on); omega), (nV.pop hK_ (by omega) (by have e6 := (show (uF (uF S96 231 25 ((S96.1 231 25) - 1)) 231 24 ((S96.1 231 24) + 1)).1 231 25 = (S96.1 231 25) - 1 from (uF_ne (fun h => absurd h.2 (by decide))).trans (uF_on)); omega) (funext fun j => (uF_a).trans (uF_a)) (funext fun j => (uF_a).trans (uF_a)) (funext fun j => (uF_a).trans (uF_a)) (funext fun j => (uF_a).trans (uF_a)) (funext fun j => (uF_a).trans (uF_a)) (funext fun j => (uF_a).trans (uF_a)))⟩), (fun h => absurd (show (uF (uF S96 231 25 ((S96.1 231 25) - 1)) 231 24 ((S96.1 231 24) + 1)).1 231 20 = 0 by have e9 := (show (uF (uF S96 231 25 ((S96.1 231 25) - 1)) 231 24 ((S96.1 231 24) + 1)).1 231 20 = S96.1 231 20 from (uF_ne (fun h => absurd h.2 (by decide))).trans (uF_ne (fun h => absurd h.2 (by decide)))); omega) h)⟩, (by have e7c := (show (uF (uF S96 231 25 ((S96.1 231 25) - 1)) 231 24 ((S96.1 231 24) + 1)).1 231 24 = (S96.1 231 24) + 1 from uF_on); omega)⟩⟩ dX12_sum_221
            · refine lv_aload_n hx hb dX12_sum_201 rfl (lv_at hl 6 rfl) ?_
              refine lv_dup hx hb dX12_sum_202 rfl ?_
              have q_59 : (-2147483648) ≤ S96.1 231 25 ∧ S96.1 231 25 ≤ 2147483647 := hI96.fi 25
              refine g_X12_358 Cx hW (k := 231) (by decide) rfl (v := S96.1 231 25) rfl dX12_sum_203 ?_
              refine lv_iconst (v := iv 1) hx hb dX12_sum_206 (by decide) ?_
              refine r_isub hx hb dX12_sum_207 ?_
              obtain ⟨z_60, ez_60, hz_60, kz_60⟩ := iv_of (iv ((S96.1 231 25) - 1))
              rw [ez_60]
              refine p_X12_358 Cx hW hL (k := 231) (by decide) rfl dX12_sum_208 (fun H locs hW hL => ?_)
              have F_61 : Fr S (uF S96 231 25 z_60) (pl [231, 248, 249, 250, 251, 252, 257, 258]) := hFm96.F rfl
              have F_62 : Fr u_35 (uF S96 231 25 z_60) (pl [231, 248, 249, 250, 251, 252, 257, 258]) := hL96_.F rfl
              have g_63 : FF S (uF S96 231 25 z_60) (fl [20, 21, 24, 25, 42, 43]) := FF.F hGm96 rfl
              have g_64 : FF u_35 (uF S96 231 25 z_60) (fl [20, 21, 24, 25, 42, 43]) := FF.F gL96_ rfl
              have i_65 : dX G (uF S96 231 25 z_60) := hI96.F (i := 25) (show (-2147483648) ≤ z_60 ∧ z_60 ≤ 2147483647 from ⟨by omega, by omega⟩)
              refine lv_aload_n hx hb dX12_sum_211 rfl (lv_at hl 6 rfl) ?_
              refine lv_dup hx hb dX12_sum_212 rfl ?_
              have q_66 : (-2147483648) ≤ S96.1 231 24 ∧ S96.1 231 24 ≤ 2147483647 := hI96.fi 24
              refine g_X12_315 Cx hW (k := 231) (by decide) rfl (v := S96.1 231 24) (uF_ne (fun h => absurd h.2 (by decide))) dX12_sum_213 ?_
              refine lv_iconst (v := iv 1) hx hb dX12_sum_216 (by decide) ?_
              refine r_iadd hx hb dX12_sum_217 ?_
              refine p_X12_315 Cx hW hL (k := 231) (by decide) rfl dX12_sum_218 (fun H locs hW hL => ?_)
              have F_67 : Fr S (uF (uF S96 231 25 z_60) 231 24 ((S96.1 231 24) + 1)) (pl [231, 248, 249, 250, 251, 252, 257, 258]) := F_61.F rfl
              have F_68 : Fr u_35 (uF (uF S96 231 25 z_60) 231 24 ((S96.1 231 24) + 1)) (pl [231, 248, 249, 250, 251, 252, 257, 258]) := F_62.F rfl
              have g_69 : FF S (uF (uF S96 231 25 z_60) 231 24 ((S96.1 231 24) + 1)) (fl [20, 21, 24, 25, 42, 43]) := FF.F g_63 rfl
              have g_70 : FF u_35 (uF (uF S96 231 25 z_60) 231 24 ((S96.1 231 24) + 1)) (fl [20, 21, 24, 25, 42, 43]) := FF.F g_64 rfl
              have i_71 : dX G (uF (uF S96 231 25 z_60) 231 24 ((S96.1 231 24) + 1)) := i_65.F (i := 24) (show (-2147483648) ≤ (S96.1 231 24) + 1 ∧ (S96.1 231 24) + 1 ≤ 2147483647 from ⟨by omega, by omega⟩)
              have lk_72 : (uF (uF S96 231 25 z_60) 231 24 ((S96.1 231 24) + 1)).1 231 24 = (S96.1 231 24) + 1 := uF_on
              have q_73 : (-2147483648) ≤ S96.1 231 20 ∧ S96.1 231 20 ≤ 2147483647 := hI96.fi 20
              have lk_74 : (uF (uF S96 231 25 z_60) 231 24 ((S96.1 231 24) + 1)).1 231 20 = S96.1 231 20 := (uF_ne (fun h => absurd h.2 (by decide))).trans (uF_ne (fun h => absurd h.2 (by decide)))
              have q_75 : (-2147483648) ≤ S96.1 231 42 ∧ S96.1 231 42 ≤ 2147483647 := hI96.fi 42
              have lk_76 : (uF (uF S96 231 25 z_60) 231 24 ((S96.1 231 24) + 1)).1 231 42 = S96.1 231 42 := (uF_ne (fun h => absurd h.2 (by decide))).trans (uF_ne (fun h => absurd h.2 (by decide)))
              exact sVret Cx hr hlk hW hL ⟨i_71, F_67, g_69, ⟨⟨(fun j a => hlo j a), (fun h => absurd h (by have e9 := (show (uF (uF S96 231 25 z_60) 231 24 ((S96.1 231 24) + 1)).1 231 20 = S96.1 231 20 from (uF_ne (fun h => absurd h.2 (by decide))).trans (uF_ne (fun h => absurd h.2 (by decide)))); omega)), (fun _ => hNO hfz)⟩, (by have e7c := (show (uF (uF S96 231 25 z_60) 231 24 ((S96.1 231 24) + 1)).1 231 24 = (S96.1 231 24) + 1 from uF_on); omega)⟩⟩ dX12_sum_221
          · refine lv_aload_n hx hb dX12_sum_108 rfl (lv_at hl 6 rfl) ?_
            have q_77 : (-2147483648) ≤ S96.1 231 20 ∧ S96.1 231 20 ≤ 2147483647 := hI96.fi 20
            refine g_X12_270 Cx hW (k := 231) (by decide) rfl (v := S96.1 231 20) rfl dX12_sum_109 ?_
            refine r_if_ne (tgt := 201) hx hb ⟨(by omega), (by omega)⟩ dX12_sum_112 (by decide) (fun c_78 => ?_) (fun c_78 => ?_)
            · have hfz : ¬ S96.1 231 20 = 0 := (by omega)
              refine lv_aload_n hx hb dX12_sum_201 rfl (lv_at hl 6 rfl) ?_
              refine lv_dup hx hb dX12_sum_202 rfl ?_
              have q_79 : (-2147483648) ≤ S96.1 231 25 ∧ S96.1 231 25 ≤ 2147483647 := hI96.fi 25
              refine g_X12_358 Cx hW (k := 231) (by decide) rfl (v := S96.1 231 25) rfl dX12_sum_203 ?_
              refine lv_iconst (v := iv 1) hx hb dX12_sum_206 (by decide) ?_
              refine r_isub hx hb dX12_sum_207 ?_
              obtain ⟨z_80, ez_80, hz_80, kz_80⟩ := iv_of (iv ((S96.1 231 25) - 1))
              rw [ez_80]
              refine p_X12_358 Cx hW hL (k := 231) (by decide) rfl dX12_sum_208 (fun H locs hW hL => ?_)
              have F_81 : Fr S (uF S96 231 25 z_80) (pl [231, 248, 249, 250, 251, 252, 257, 258]) := hFm96.F rfl
              have F_82 : Fr u_35 (uF S96 231 25 z_80) (pl [231, 248, 249, 250, 251, 252, 257, 258]) := hL96_.F rfl
              have g_83 : FF S (uF S96 231 25 z_80) (fl [20, 21, 24, 25, 42, 43]) := FF.F hGm96 rfl
              have g_84 : FF u_35 (uF S96 231 25 z_80) (fl [20, 21, 24, 25, 42, 43]) := FF.F gL96_ rfl
              have i_85 : dX G (uF S96 231 25 z_80) := hI96.F (i := 25) (show (-2147483648) ≤ z_80 ∧ z_80 ≤ 2147483647 from ⟨by omega, by omega⟩)
              refine lv_aload_n hx hb dX12_sum_211 rfl (lv_at hl 6 rfl) ?_
              refine lv_dup hx hb dX12_sum_212 rfl ?_
              have q_86 : (-2147483648) ≤ S96.1 231 24 ∧ S96.1 231 24 ≤ 2147483647 := hI96.fi 24
              refine g_X12_315 Cx hW (k := 231) (by decide) rfl (v := S96.1 231 24) (uF_ne (fun h => absurd h.2 (by decide))) dX12_sum_213 ?_
              refine lv_iconst (v := iv 1) hx hb dX12_sum_216 (by decide) ?_
              refine r_iadd hx hb dX12_sum_217 ?_
              refine p_X12_315 Cx hW hL (k := 231) (by decide) rfl dX12_sum_218 (fun H locs hW hL => ?_)
              have F_87 : Fr S (uF (uF S96 231 25 z_80) 231 24 ((S96.1 231 24) + 1)) (pl [231, 248, 249, 250, 251, 252, 257, 258]) := F_81.F rfl
              have F_88 : Fr u_35 (uF (uF S96 231 25 z_80) 231 24 ((S96.1 231 24) + 1)) (pl [231, 248, 249, 250, 251, 252, 257, 258]) := F_82.F rfl
              have g_89 : FF S (uF (uF S96 231 25 z_80) 231 24 ((S96.1 231 24) + 1)) (fl [20, 21, 24, 25, 42, 43]) := FF.F g_83 rfl
              have g_90 : FF u_35 (uF (uF S96 231 25 z_80) 231 24 ((S96.1 231 24) + 1)) (fl [20, 21, 24, 25, 42, 43]) := FF.F g_84 rfl
              have i_91 : dX G (uF (uF S96 231 25 z_80) 231 24 ((S96.1 231 24) + 1)) := i_85.F (i := 24) (show (-2147483648) ≤ (S96.1 231 24) + 1 ∧ (S96.1 231 24) + 1 ≤ 2147483647 from ⟨by omega, by omega⟩)
              have lk_92 : (uF (uF S96 231 25 z_80) 231 24 ((S96.1 231 24) + 1)).1 231 24 = (S96.1 231 24) + 1 := uF_on
              have lk_93 : (uF (uF S96 231 25 z_80) 231 24 ((S96.1 231 24) + 1)).1 231 20 = S96.1 231 20 := (uF_ne (fun h => absurd h.2 (by decide))).trans (uF_ne (fun h => absurd h.2 (by decide)))
              have q_94 : (-2147483648) ≤ S96.1 231 42 ∧ S96.1 231 42 ≤ 2147483647 := hI96.fi 42
              have lk_95 : (uF (uF S96 231 25 z_80) 231 24 ((S96.1 231 24) + 1)).1 231 42 = S96.1 231 42 := (uF_ne (fun h => absurd h.2 (by decide))).trans (uF_ne (fun h => absurd h.2 (by decide)))
              exact sVret Cx hr hlk hW hL ⟨i_91, F_87, g_89, ⟨⟨(fun j a => hlo j a), (fun h => absurd h (by have e9 := (show (uF (uF S96 231 25 z_80) 231 24 ((S96.1 231 24) + 1)).1 231 20 = S96.1 231 20 from (uF_ne (fun h => absurd h.2 (by decide))).trans (uF_ne (fun h => absurd h.2 (by decide)))); omega)), (fun _ => hNO hfz)⟩, (by have e7c := (show (uF (uF S96 231 25 z_80) 231 24 ((S96.1 231 24) + 1)).1 231 24 = (S96.1 231 24) + 1 from uF_on); omega)⟩⟩ dX12_sum_221
            · obtain ⟨hvh, V, w0, eV0, wV, bV, nV, lV, cV⟩ := hOK (by omega)
              have h251 := (nV.set6 hsN.1 hsN.2 h6).2
              have hk96 : N.1 + 1 = S96.1 231 25 := nV.1.1
              refine lv_aload_n hx hb dX12_sum_115 rfl (lv_at hl 6 rfl) ?_
              refine g_X12_71 Cx hW (k := 231) (by decide) rfl (v := .ref (G.2.2.1 + 252)) (rd_30 hI96) dX12_sum_116 ?_
              refine lv_iload_n hx hb dX12_sum_119 rfl (lv_at hl 4 rfl) ?_
              refine lv_iload hx hb dX12_sum_120 (lv_at hl 0 rfl) ?_
              refine rIast Cx hW hL (k := 252) (by decide) rfl (by decide) (by omega) (by omega) dX12_sum_122 (fun H locs hW hL => ?_)
              have F_96 : Fr S (uA S96 252 r_13 va) (pl [231, 248, 249, 250, 251, 252, 257, 258]) := hFm96.A rfl
              have F_97 : Fr u_35 (uA S96 252 r_13 va) (pl [231, 248, 249, 250, 251, 252, 257, 258]) := hL96_.A rfl
              have i_98 : dX G (uA S96 252 r_13 va) := hI96.A (k := 252) (show (-2147483648) ≤ va ∧ va ≤ 2147483647 from ⟨by omega, by omega⟩)
              have hnv : NRr (push N (v (pz + 1)) va) k v (uA S96 252 r_13 va) := nV.low hK_ (by omega) rfl rfl rfl rfl rfl rfl (fun s => by rw [uA_get]; by_cases z : s = N.1; (rw [if_pos ⟨rfl, (by omega)⟩, if_pos z]); (rw [if_neg (fun h => z (by have h2 := h.2; omega)), if_neg z]))
              have hKv : NK (push N (v (pz + 1)) va) := NK.pushed hK_ (by omega) hfn (by omega)
              refine lv_aload_n hx hb dX12_sum_123 rfl (lv_at hl 6 rfl) ?_
              refine lv_iload hx hb dX12_sum_124 (lv_at hl 2 rfl) ?_
              refine p_X12_315 Cx hW hL (k := 231) (by decide) rfl dX12_sum_126 (fun H locs hW hL => ?_)
              have F_99 : Fr S (uF (uA S96 252 r_13 va) 231 24 ((u_25.1 231 24) + 1)) (pl [231, 248, 249, 250, 251, 252, 257, 258]) := F_96.F rfl
              have F_100 : Fr u_35 (uF (uA S96 252 r_13 va) 231 24 ((u_25.1 231 24) + 1)) (pl [231, 248, 249, 250, 251, 252, 257, 258]) := F_97.F rfl
              have g_101 : FF S (uF (uA S96 252 r_13 va) 231 24 ((u_25.1 231 24) + 1)) (fl [20, 21, 24, 25, 42, 43]) := FF.F hGm96 rfl
              have g_102 : FF u_35 (uF (uA S96 252 r_13 va) 231 24 ((u_25.1 231 24) + 1)) (fl [20, 21, 24, 25, 42, 43]) := FF.F gL96_ rfl
              have i_103 : dX G (uF (uA S96 252 r_13 va) 231 24 ((u_25.1 231 24) + 1)) := i_98.F (i := 24) (show (-2147483648) ≤ (u_25.1 231 24) + 1 ∧ (u_25.1 231 24) + 1 ≤ 2147483647 from ⟨by omega, by omega⟩)
              refine lv_aload_n hx hb dX12_sum_129 rfl (lv_at hl 6 rfl) ?_
              refine lv_iload hx hb dX12_sum_130 (lv_at hl 1 rfl) ?_
              have lk_104 : (uF (uA S96 252 r_13 va) 231 24 ((u_25.1 231 24) + 1)).1 231 20 = S96.1 231 20 := (uF_ne (fun h => absurd h.2 (by decide))).trans (uA_f)
              have lk_105 : (uF (uA S96 252 r_13 va) 231 24 ((u_25.1 231 24) + 1)).1 231 24 = (u_25.1 231 24) + 1 := uF_on
              have q_106 : (-2147483648) ≤ S96.1 231 42 ∧ S96.1 231 42 ≤ 2147483647 := hI96.fi 42
              have lk_107 : (uF (uA S96 252 r_13 va) 231 24 ((u_25.1 231 24) + 1)).1 231 42 = S96.1 231 42 := (uF_ne (fun h => absurd h.2 (by decide))).trans (uA_f)
              have nr_108 : NRr (push N (v (pz + 1)) va) k v (uF (uA S96 252 r_13 va) 231 24 ((u_25.1 231 24) + 1)) := hnv.of (uF_ne (fun h => absurd h.2 (by decide))) (funext fun j => uF_a) (funext fun j => uF_a) (funext fun j => uF_a) (funext fun j => uF_a) (funext fun j => uF_a) (funext fun j => uF_a)
              have kr_109 : KRr (uF (uA S96 252 r_13 va) 231 24 ((u_25.1 231 24) + 1)) k v T := hkr.of (funext fun j => (uF_a).trans ((uA_ne (fun h => absurd h.1 (by decide))).trans (((hL96_ 243 rfl).2.1 j).trans (((fu_35 243 rfl).2.1 j).trans ((uF_a).trans (((fu_25 243 rfl).2.1 j).trans ((uF_a).trans (((fu_11 243 rfl).2.1 j).trans (uF_a))))))))) (funext fun j => (uF_a).trans ((uA_ne (fun h => absurd h.1 (by decide))).trans (((hL96_ 244 rfl).2.1 j).trans (((fu_35 244 rfl).2.1 j).trans ((uF_a).trans (((fu_25 244 rfl).2.1 j).trans ((uF_a).trans (((fu_11 244 rfl).2.1 j).trans (uF_a))))))))) (funext fun j => (uF_a).trans ((uA_ne (fun h => absurd h.1 (by decide))).trans (((hL96_ 245 rfl).2.1 j).trans (((fu_35 245 rfl).2.1 j).trans ((uF_a).trans (((fu_25 245 rfl).2.1 j).trans ((uF_a).trans (((fu_11 245 rfl).2.1 j).trans (uF_a))))))))) (funext fun j => (uF_a).trans ((uA_ne (fun h => absurd h.1 (by decide))).trans (((hL96_ 246 rfl).2.1 j).trans (((fu_35 246 rfl).2.1 j).trans ((uF_a).trans (((fu_25 246 rfl).2.1 j).trans ((uF_a).trans (((fu_11 246 rfl).2.1 j).trans (uF_a))))))))) (funext fun j => (uF_a).trans ((uA_ne (fun h => absurd h.1 (by decide))).trans (((hL96_ 247 rfl).2.1 j).trans (((fu_35 247 rfl).2.1 j).trans ((uF_a).trans (((fu_25 247 rfl).2.1 j).trans ((uF_a).trans (((fu_11 247 rfl).2.1 j).trans (uF_a)))))))))
              refine sBv (sV (As := [.int (iv ((ix + 12) + 1))]) (rest := []) (k := 231) Cx (hU (uF (uA S96 252 r_13 va) 231 24 ((u_25.1 231 24) + 1)) (push N (v (pz + 1)) va) k v T (pz + 5) q1 ((ix + 12) + 1) i_103 ⟨nr_108, hKv, hTV, kr_109, (by omega), (by omega), (by omega), ⟨by omega, by omega⟩⟩ (show N.1 + 1 + (n : Int) ≤ 128 by omega) (by omega) (by omega) hgx) (c_X12_398 Cx rfl rfl (rmk_ok (by omega) (by decide))) hW (by decide) rfl rfl rfl hl.1 rfl (Nat.le_of_ble_eq_true rfl) dX12_sum_132 ⟨Nat.le_of_ble_eq_true rfl, Nat.le_of_ble_eq_true rfl⟩) hL (fun u_110 H locs k_111 hW hL => ?_)
              obtain ⟨iu_110, fu_110, gu_110, xu_110, yu_110⟩ := k_111
              have F_112 := F_99.trans fu_110
              have F_113 := F_100.trans fu_110
              have g_114 : FF S u_110 (fl [20, 21, 24, 25, 42, 43]) := FF.trans g_101 (FF.to gu_110 (fl_sub (by decide)))
              have g_115 : FF u_35 u_110 (fl [20, 21, 24, 25, 42, 43]) := FF.trans g_102 (FF.to gu_110 (fl_sub (by decide)))
              refine lv_iconst (v := iv 0) hx hb dX12_sum_135 (by decide) ?_
              refine lv_istore (lv' := [(8, .int (iv 0)), (7, .int (iv va)), (6, .int (iv ((ix + 12) + 1))), (5, .int (iv ((u_25.1 231 24) + 1))), (4, .int (iv s4)), (3, .int (iv r_13)), (2, .int (iv (S.1 231 24))), (0, .ref (G.2.2.1 + 231)), (1, .int (iv ix))]) hx hb dX12_sum_136 hl (by decide) rfl (fun ls hl => ?_)
              have loop_138 : ∀ (fuel : Nat) (S138 : sS) (kk : Int) (H : Heap) (locs : List Loc) (ls : Array Slot), (13 - kk).toNat < fuel → (dX G S138) → (Fr S S138 (pl [231, 248, 249, 250, 251, 252, 257, 258])) → (Fr u_35 S138 (pl [231, 248, 249, 250, 251, 252, 257, 258])) → (Fr u_110 S138 (pl [257])) → (FF S S138 (fl [20, 21, 24, 25, 42, 43])) → (FF u_35 S138 (fl [20, 21, 24, 25, 42, 43])) → (FF u_110 S138 (fl [])) → (0 ≤ kk ∧ kk ≤ 13) → (Hd (∀ j, (j < ix ∨ ix + 13 ≤ j) → S138.2.2.1 257 j = u_110.2.2.1 257 j)) → (Hd (BDr u_110 ix → ∀ t, 0 ≤ t → t < 13 → S138.2.2.1 257 (ix + t) = if t < kk then u_110.2.2.1 257 (ix + t) + 1 * u_110.2.2.1 257 (ix + 13 + t) else u_110.2.2.1 257 (ix + t))) → sW G 294 S138 H → sL G locs → lv_has ls 9 [(8, .int (iv kk)), (7, .int (iv va)), (6, .int (iv ((ix + 12) + 1))), (5, .int (iv ((u_25.1 231 24) + 1))), (4, .int (iv s4)), (3, .int (iv r_13)), (2, .int (iv (S.1 231 24))), (0, .ref (G.2.2.1 + 231)), (1, .int (iv ix))] → W p l e (rmk D 0 0) s m args below meth c H locs 0 0 (MQ below (sQv G 294 (fun u => dX G u ∧ Fr S u (pl [231, 248, 249, 250, 251, 252, 257, 258]) ∧ FF S u (fl [20, 21, 24, 25, 42, 43]) ∧ (EOr S u N k v q (eSm T k v n N (S.1 231 42) pz) ix ∧ (0 ≤ u.1 231 24 ∧ u.1 231 24 ≤ q)))) args s 0 0 (sF G)) (F0 m 138 ls []) := by
                intro fuel
                induction fuel with
                | zero => intro S138 kk H locs ls hmeas hI138 hFm138 hFL96138 hL138_ hGm138 hGL96138 gL138_ hk hl2 hrow hW hL hl; exact absurd hmeas (Nat.not_lt_zero _)
                | succ fuel ih_138 =>
                  intro S138 kk H locs ls hmeas hI138 hFm138 hFL96138 hL138_ hGm138 hGL96138 gL138_ hk hl2 hrow hW hL hl
                  refine lv_iload hx hb dX12_sum_138 (lv_at hl 0 rfl) ?_
                  refine lv_bipush (v := iv 12) hx hb dX12_sum_140 (by decide) ?_
                  refine r_icmp_gt (tgt := 173) hx hb ⟨(by omega), (by omega)⟩ ⟨(by omega), (by omega)⟩ dX12_sum_142 (by decide) (fun c_116 => ?_) (fun c_116 => ?_)
                  · refine lv_aload_n hx hb dX12_sum_173 rfl (lv_at hl 7 rfl) ?_
                    have q_117 : (-2147483648) ≤ u_110.1 231 20 ∧ u_110.1 231 20 ≤ 2147483647 := iu_110.fi 20
                    refine g_X12_270 Cx hW (k := 231) (by decide) rfl (v := u_110.1 231 20) (gL138_ 20 rfl) dX12_sum_174 ?_
                    refine r_if_ne (tgt := 195) hx hb ⟨(by omega), (by omega)⟩ dX12_sum_177 (by decide) (fun c_118 => ?_) (fun c_118 => ?_)
                    · refine lv_iinc (v := iv (va + 1)) (lv' := [(7, .int (iv (va + 1))), (8, .int (iv kk)), (6, .int (iv ((ix + 12) + 1))), (5, .int (iv ((u_25.1 231 24) + 1))), (4, .int (iv s4)), (3, .int (iv r_13)), (2, .int (iv (S.1 231 24))), (0, .ref (G.2.2.1 + 231)), (1, .int (iv ix))]) hx hb dX12_sum_195 hl (k := 1) rfl ((Int32.ofInt_add _ _).symm) (by decide) rfl (fun ls hl => ?_)
                      refine lv_goto (tgt := 96) hx hb dX12_sum_198 (by decide) ?_
                      have lk_119 : S138.1 231 20 = u_110.1 231 20 := gL138_ 20 rfl
                      have q_120 : (-2147483648) ≤ u_110.1 231 42 ∧ u_110.1 231 42 ≤ 2147483647 := iu_110.fi 42
                      have lk_121 : S138.1 231 42 = u_110.1 231 42 := gL138_ 42 rfl
                      have q_122 : (-2147483648) ≤ u_110.1 231 24 ∧ u_110.1 231 24 ≤ 2147483647 := iu_110.fi 24
                      have lk_123 : S138.1 231 24 = u_110.1 231 24 := gL138_ 24 rfl
                      exact ih_96 S138 (va + 1) _ _ _ (by omega) hI138 hFm138 hFL96138 hGm138 hGL96138 (by omega) (fun j a => (rfl).trans ((hl2 j (.inl a)).trans ((xu_110.1 j (by omega)).trans (hlo j a)))) (fun h => absurd h (by have e9 := (show S138.1 231 20 = u_110.1 231 20 from gL138_ 20 rfl); omega)) (fun _ => by have q9 := xu_110.2.2 (by have e9 := (show S138.1 231 20 = u_110.1 231 20 from gL138_ 20 rfl); omega); rw [show (uF (uA S96 252 r_13 va) 231 24 ((u_25.1 231 24) + 1)).1 231 42 = S96.1 231 42 by omega] at q9; rw [eV0]; exact eSq_n (by omega) q9) (by omega) (by omega) hW hL (lv_sub hl [0, 2, 3, 4, 5, 6, 7, 8] rfl)
                    · obtain ⟨Vb, e1, w1, b1, l1, c1_, n1⟩ := xu_110.2.1 (by have e9 := (show S138.1 231 20 = u_110.1 231 20 from gL138_ 20 rfl); omega)
                      rw [show (uF (uA S96 252 r_13 va) 231 24 ((u_25.1 231 24) + 1)).1 231 42 = S96.1 231 42 by omega] at e1
                      have wP : veq (fvr u_110 ix) V := (fun j a b => by show u_110.2.2.1 257 (ix + j) = _; rw [xu_110.1 (ix + j) (by omega)]; exact wV j a b)
                      have w1 : veq (fvr u_110 (ix + 13)) Vb := (by have z := w1; rw [show ix + 12 + 1 = ix + 13 by omega] at z; exact z)
                      have wS : veq (fvr S138 ix) (vad V Vb 1) := (fun j a b => by show S138.2.2.1 257 (ix + j) = V j + 1 * Vb j; rw [hrow (BDr.of (bV.eq wP) (b1.eq w1)) j a b, if_pos (by omega), ← wP j a b, ← w1 j a b]; rfl)
                      refine lv_aload_n hx hb dX12_sum_180 rfl (lv_at hl 7 rfl) ?_
                      refine lv_iload_n hx hb dX12_sum_181 rfl (lv_at hl 8 rfl) ?_
                      refine sBi (sV (As := [.int (iv ix)]) (rest := []) (k := 231) Cx (e_X12_isGreat l G S138 (ix := ix) hI138 (by omega)) (c_X12_416 Cx rfl rfl (rmk_ok (by omega) (by decide))) hW (by decide) rfl rfl rfl hl.1 rfl (Nat.le_of_ble_eq_true rfl) dX12_sum_182 ⟨Nat.le_of_ble_eq_true rfl, Nat.le_of_ble_eq_true rfl⟩) hL (fun r_126 u_124 H locs k_125 hW hL => ?_)
                      obtain ⟨eu_124, xu_124⟩ := k_125
                      rw [eu_124] at hW
                      refine r_if_eq (tgt := 195) hx hb ⟨(by omega), (by omega)⟩ dX12_sum_185 (by decide) (fun c_127 => ?_) (fun c_127 => ?_)
                      · have ngr : Hd (¬ grt (vad V Vb 1)) := (fun z => xu_124.2.2 (by omega) ((veq_grt wS).mpr z))
                        refine lv_iinc (v := iv (va + 1)) (lv' := [(7, .int (iv (va + 1))), (8, .int (iv kk)), (6, .int (iv ((ix + 12) + 1))), (5, .int (iv ((u_25.1 231 24) + 1))), (4, .int (iv s4)), (3, .int (iv r_13)), (2, .int (iv (S.1 231 24))), (0, .ref (G.2.2.1 + 231)), (1, .int (iv ix))]) hx hb dX12_sum_195 hl (k := 1) rfl ((Int32.ofInt_add _ _).symm) (by decide) rfl (fun ls hl => ?_)
                        refine lv_goto (tgt := 96) hx hb dX12_sum_198 (by decide) ?_
                        have lk_128 : S138.1 231 20 = u_110.1 231 20 := gL138_ 20 rfl
                        have q_129 : (-2147483648) ≤ u_110.1 231 42 ∧ u_110.1 231 42 ≤ 2147483647 := iu_110.fi 42
                        have lk_130 : S138.1 231 42 = u_110.1 231 42 := gL138_ 42 rfl
                        have q_131 : (-2147483648) ≤ u_110.1 231 24 ∧ u_110.1 231 24 ≤ 2147483647 := iu_110.fi 24
                        have lk_132 : S138.1 231 24 = u_110.1 231 24 := gL138_ 24 rfl
                        have nr_133 : NRr (push N (v (pz + 1)) va) k v S138 := n1.of (gL138_ 25 rfl) (funext fun j => (hL138_ 248 rfl).2.1 j) (funext fun j => (hL138_ 249 rfl).2.1 j) (funext fun j => (hL138_ 250 rfl).2.1 j) (funext fun j => (hL138_ 251 rfl).2.1 j) (funext fun j => (hL138_ 252 rfl).2.1 j) (funext fun j => (hL138_ 253 rfl).2.1 j)
                        exact ih_96 S138 (va + 1) _ _ _ (by omega) hI138 hFm138 hFL96138 hGm138 hGL96138 (by omega) (fun j a => (rfl).trans ((hl2 j (.inl a)).trans ((xu_110.1 j (by omega)).trans (hlo j a)))) (fun _ => ⟨(by omega), vad V Vb 1, va, (by rw [eV0, eSq_s (by omega) e1 ngr, show S138.1 231 42 = u_110.1 231 42 from (show S138.1 231 42 = u_110.1 231 42 from gL138_ 42 rfl)]), wS, vb9_n ngr, nr_133, (by rw [show S138.1 231 42 = u_110.1 231 42 from (show S138.1 231 42 = u_110.1 231 42 from gL138_ 42 rfl)]; exact l1), (fun _ => by have z := (show S138.1 231 24 = u_110.1 231 24 from gL138_ 24 rfl); omega)⟩) (fun h => absurd (show S138.1 231 20 = 0 by have e9 := (show S138.1 231 20 = u_110.1 231 20 from gL138_ 20 rfl); omega) h) (by omega) (by omega) hW hL (lv_sub hl [0, 2, 3, 4, 5, 6, 7, 8] rfl)
                      · refine lv_aload_n hx hb dX12_sum_188 rfl (lv_at hl 7 rfl) ?_
                        refine lv_bipush (v := iv 6) hx hb dX12_sum_189 (by decide) ?_
                        refine lv_iload_n hx hb dX12_sum_191 rfl (lv_at hl 6 rfl) ?_
                        refine sBv (sV (As := [.int (iv 6), .int (iv (S.1 231 24))]) (rest := []) (k := 231) Cx (s_X12_wrong l G S138 (cd := 6) (tk := S.1 231 24) hI138 (by omega) (by omega)) (c_X12_321 Cx rfl rfl (rmk_ok (by omega) (by decide))) hW (by decide) rfl rfl rfl hl.1 rfl (Nat.le_of_ble_eq_true rfl) dX12_sum_192 ⟨Nat.le_of_ble_eq_true rfl, Nat.le_of_ble_eq_true rfl⟩) hL (fun u_134 H locs k_135 hW hL => ?_)
                        obtain ⟨iu_134, fu_134, gu_134, xu_134⟩ := k_135
                        have F_136 := hFm138.trans (fu_134.to (pl_sub (by decide)))
                        have F_137 := hFL96138.trans (fu_134.to (pl_sub (by decide)))
                        have g_138 : FF S u_134 (fl [20, 21, 24, 25, 42, 43]) := FF.trans hGm138 (FF.to gu_134 (fl_sub (by decide)))
                        have g_139 : FF u_35 u_134 (fl [20, 21, 24, 25, 42, 43]) := FF.trans hGL96138 (FF.to gu_134 (fl_sub (by decide)))
                        refine lv_iinc (v := iv (va + 1)) (lv' := [(7, .int (iv (va + 1))), (8, .int (iv kk)), (6, .int (iv ((ix + 12) + 1))), (5, .int (iv ((u_25.1 231 24) + 1))), (4, .int (iv s4)), (3, .int (iv r_13)), (2, .int (iv (S.1 231 24))), (0, .ref (G.2.2.1 + 231)), (1, .int (iv ix))]) hx hb dX12_sum_195 hl (k := 1) rfl ((Int32.ofInt_add _ _).symm) (by decide) rfl (fun ls hl => ?_)
                        refine lv_goto (tgt := 96) hx hb dX12_sum_198 (by decide) ?_
                        have q_141 : (-2147483648) ≤ u_134.1 231 20 ∧ u_134.1 231 20 ≤ 2147483647 := iu_134.fi 20
                        have q_142 : (-2147483648) ≤ u_110.1 231 42 ∧ u_110.1 231 42 ≤ 2147483647 := iu_110.fi 42
                        have lk_143 : u_134.1 231 42 = u_110.1 231 42 := (gu_134 42 rfl).trans (gL138_ 42 rfl)
                        have q_144 : (-2147483648) ≤ u_110.1 231 24 ∧ u_110.1 231 24 ≤ 2147483647 := iu_110.fi 24
                        have lk_145 : u_134.1 231 24 = u_110.1 231 24 := (gu_134 24 rfl).trans (gL138_ 24 rfl)
                        exact ih_96 u_134 (va + 1) _ _ _ (by omega) iu_134 F_136 F_137 g_138 g_139 (by omega) (fun j a => ((fu_134 257 rfl).2.2.1 j).trans ((hl2 j (.inl a)).trans ((xu_110.1 j (by omega)).trans (hlo j a)))) (fun h => absurd h (by have e9 := (show u_134.1 231 20 = u_134.1 231 20 from rfl); have a9 := xu_134; omega)) (fun _ => by rw [eV0]; exact eSq_g (by omega) e1 ((veq_grt wS).mp (xu_124.2.1 (by omega)))) (by omega) (by omega) hW hL (lv_sub hl [0, 2, 3, 4, 5, 6, 7, 8] rfl)
                  · refine lv_aload_n hx hb dX12_sum_145 rfl (lv_at hl 7 rfl) ?_
                    refine g_X12_88 Cx hW (k := 231) (by decide) rfl (v := .ref (G.2.2.1 + 257)) (rd_41 hI138) dX12_sum_146 ?_
                    refine lv_iload_n hx hb dX12_sum_149 rfl (lv_at hl 8 rfl) ?_
                    refine lv_iload hx hb dX12_sum_150 (lv_at hl 0 rfl) ?_
                    refine r_iadd hx hb dX12_sum_152 ?_
                    refine lv_dup2_11 hx hb dX12_sum_153 rfl rfl ?_
                    refine rLald Cx hW (k := 257) (by decide) rfl (by decide) (by omega) (by omega) dX12_sum_154 ?_
                    have q_146 : -9223372036854775808 ≤ S138.2.2.1 257 (ix + kk) ∧ S138.2.2.1 257 (ix + kk) ≤ 9223372036854775807 := hI138.li 257 (ix + kk)
                    refine r_j (b := S138.2.2.1 257 (ix + kk)) rfl ?_
                    refine lv_aload_n hx hb dX12_sum_155 rfl (lv_at hl 7 rfl) ?_
                    refine g_X12_88 Cx hW (k := 231) (by decide) rfl (v := .ref (G.2.2.1 + 257)) (rd_41 hI138) dX12_sum_156 ?_
                    refine lv_iload hx hb dX12_sum_159 (lv_at hl 2 rfl) ?_
                    refine lv_iload hx hb dX12_sum_161 (lv_at hl 0 rfl) ?_
                    refine r_iadd hx hb dX12_sum_163 ?_
                    refine rLald Cx hW (k := 257) (by decide) rfl (by decide) (by omega) (by omega) dX12_sum_164 ?_
                    have q_147 : -9223372036854775808 ≤ S138.2.2.1 257 (((ix + 12) + 1) + kk) ∧ S138.2.2.1 257 (((ix + 12) + 1) + kk) ≤ 9223372036854775807 := hI138.li 257 (((ix + 12) + 1) + kk)
                    refine r_j (b := S138.2.2.1 257 (((ix + 12) + 1) + kk)) rfl ?_
                    refine r_ladd hx hb dX12_sum_165 ?_
                    obtain ⟨za, eza, lza, hza, fza⟩ := jv_h ((S138.2.2.1 257 (ix + kk)) + (S138.2.2.1 257 (((ix + 12) + 1) + kk)))
                    rw [eza]
                    refine rLast Cx hW hL (k := 257) (by decide) rfl (by decide) (by omega) (by omega) dX12_sum_166 (fun H locs hW hL => ?_)
                    have F_148 : Fr S (uL S138 257 (ix + kk) za) (pl [231, 248, 249, 250, 251, 252, 257, 258]) := hFm138.L rfl
                    have F_149 : Fr u_35 (uL S138 257 (ix + kk) za) (pl [231, 248, 249, 250, 251, 252, 257, 258]) := hFL96138.L rfl
                    have F_150 : Fr u_110 (uL S138 257 (ix + kk) za) (pl [257]) := hL138_.L rfl
                    have i_151 : dX G (uL S138 257 (ix + kk) za) := hI138.L ⟨by omega, by omega⟩
                    refine lv_iinc (v := iv (kk + 1)) (lv' := [(8, .int (iv (kk + 1))), (7, .int (iv va)), (6, .int (iv ((ix + 12) + 1))), (5, .int (iv ((u_25.1 231 24) + 1))), (4, .int (iv s4)), (3, .int (iv r_13)), (2, .int (iv (S.1 231 24))), (0, .ref (G.2.2.1 + 231)), (1, .int (iv ix))]) hx hb dX12_sum_167 hl (k := 0) rfl ((Int32.ofInt_add _ _).symm) (by decide) rfl (fun ls hl => ?_)
                    refine lv_goto (tgt := 138) hx hb dX12_sum_170 (by decide) ?_
                    exact ih_138 (uL S138 257 (ix + kk) za) (kk + 1) _ _ _ (by omega) i_151 F_148 F_149 F_150 hGm138 hGL96138 gL138_ (by omega) (fun j a => (uL_ne (fun h => by have h2 := h.2; omega)).trans (hl2 j a)) (fun hb9 t a b => by by_cases z : t = kk; (rw [z, uL_on, if_pos (by omega)]; have c1 := hrow hb9 kk (by omega) (by omega); rw [if_neg (by omega)] at c1; have c2 : S138.2.2.1 257 (ix + 12 + 1 + kk) = u_110.2.2.1 257 (ix + 13 + kk) := (by rw [← hl2 (ix + 13 + kk) (by omega)]; exact congrArg _ (by omega)); have hb1 := hb9 kk (by omega) (by omega); have za1 := fza (by omega) (by omega); omega); (rw [uL_ne (fun h => z (by have h2 := h.2; omega)), hrow hb9 t a b]; by_cases y : t < kk; (rw [if_pos y, if_pos (by omega)]); (rw [if_neg y, if_neg (by omega)]))) hW hL (lv_sub hl [0, 1, 2, 3, 4, 5, 6, 7, 8] rfl)
              exact loop_138 (_ + 1) u_110 0 _ _ _ (Nat.lt_succ_self _) iu_110 F_112 F_113 Fr.rf g_114 g_115 FF.rf (by omega) (fun j a => rfl) (fun _ t a b => (if_neg (by omega)).symm) hW hL (lv_sub hl [0, 1, 2, 3, 4, 5, 6, 7, 8] rfl)
      have lk_152 : u_35.1 231 20 = u_25.1 231 20 := (gu_35 20 rfl).trans (uF_ne (fun h => absurd h.2 (by decide)))
      have q_153 : (-2147483648) ≤ S.1 231 42 ∧ S.1 231 42 ≤ 2147483647 := hI.fi 42
      have lk_154 : u_35.1 231 42 = S.1 231 42 := (gu_35 42 rfl).trans ((uF_ne (fun h => absurd h.2 (by decide))).trans ((gu_25 42 rfl).trans ((uF_ne (fun h => absurd h.2 (by decide))).trans ((gu_11 42 rfl).trans (uF_ne (fun h => absurd h.2 (by decide)))))))
      have lk_155 : u_35.1 231 24 = (u_25.1 231 24) + 1 := (gu_35 24 rfl).trans (uF_on)
      have nr_156 : NRr (push N (v (pz + 1)) 0) k v u_35 := hp0.of ((gu_35 25 rfl).trans ((uF_ne (fun h => absurd h.2 (by decide))).trans ((gu_25 25 rfl).trans (uF_ne (fun h => absurd h.2 (by decide)))))) (funext fun j => ((fu_35 248 rfl).2.1 j).trans ((uF_a).trans (((fu_25 248 rfl).2.1 j).trans (uF_a)))) (funext fun j => ((fu_35 249 rfl).2.1 j).trans ((uF_a).trans (((fu_25 249 rfl).2.1 j).trans (uF_a)))) (funext fun j => ((fu_35 250 rfl).2.1 j).trans ((uF_a).trans (((fu_25 250 rfl).2.1 j).trans (uF_a)))) (funext fun j => ((fu_35 251 rfl).2.1 j).trans ((uF_a).trans (((fu_25 251 rfl).2.1 j).trans (uF_a)))) (funext fun j => ((fu_35 252 rfl).2.1 j).trans ((uF_a).trans (((fu_25 252 rfl).2.1 j).trans (uF_a)))) (funext fun j => ((fu_35 253 rfl).2.1 j).trans ((uF_a).trans (((fu_25 253 rfl).2.1 j).trans (uF_a))))
      exact loop_96 (_ + 1) u_35 (u_11.2.1 250 s4) _ _ _ (Nat.lt_succ_self _) iu_35 F_37 Fr.rf g_38 FF.rf (by omega) (fun j a => (xu_35.2 j a).trans ((uF_l).trans (((fu_25 257 rfl).2.2.1 j).trans ((uF_l).trans (((fu_11 257 rfl).2.2.1 j).trans (uF_l)))))) (fun h => ⟨(by omega), cst 0, 0, (by rw [show u_35.1 231 42 = S.1 231 42 from (show u_35.1 231 42 = S.1 231 42 from (gu_35 42 rfl).trans ((uF_ne (fun h => absurd h.2 (by decide))).trans ((gu_25 42 rfl).trans ((uF_ne (fun h => absurd h.2 (by decide))).trans ((gu_11 42 rfl).trans (uF_ne (fun h => absurd h.2 (by decide))))))))]; exact eSm_y hfn hsE.symm hsN.1 h6 e250 rfl (by omega)), xu_35.1, vb9_cst (by decide), nr_156, (by rw [show u_35.1 231 42 = S.1 231 42 from (show u_35.1 231 42 = S.1 231 42 from (gu_35 42 rfl).trans ((uF_ne (fun h => absurd h.2 (by decide))).trans ((gu_25 42 rfl).trans ((uF_ne (fun h => absurd h.2 (by decide))).trans ((gu_11 42 rfl).trans (uF_ne (fun h => absurd h.2 (by decide))))))))]; omega), (fun z => absurd z (by omega))⟩) (fun h => absurd (show u_35.1 231 20 = 0 by have e9 := (show u_35.1 231 20 = u_25.1 231 20 from (gu_35 20 rfl).trans (uF_ne (fun h => absurd h.2 (by decide)))); omega) h) (by omega) (by omega) hW hL (lv_sub hl [0, 1, 2, 3, 4, 5, 6, 7] rfl)
    · have q_157 : (-2147483648) ≤ u_25.1 231 24 ∧ u_25.1 231 24 ≤ 2147483647 := iu_25.fi 24
      have q_158 : (-2147483648) ≤ S.1 231 42 ∧ S.1 231 42 ≤ 2147483647 := hI.fi 42
      have lk_159 : u_25.1 231 42 = S.1 231 42 := (gu_25 42 rfl).trans ((uF_ne (fun h => absurd h.2 (by decide))).trans ((gu_11 42 rfl).trans (uF_ne (fun h => absurd h.2 (by decide)))))
      exact sVret Cx hr hlk hW hL ⟨iu_25, F_27, g_28, ⟨⟨(fun j a => ((fu_25 257 rfl).2.2.1 j).trans ((uF_l).trans (((fu_11 257 rfl).2.2.1 j).trans (uF_l)))), (fun h => absurd h (by have e9 := (show u_25.1 231 20 = u_25.1 231 20 from rfl); omega)), (fun _ => eSm_n (fun z => by have z2 := xu_25.2.2.1 (by omega); rw [show ((pz) + 1) + 2 = pz + 3 by omega] at z2; exact z2 ((isS_push (by omega)).mpr z.2)))⟩, (by have e7c := (show u_25.1 231 24 = u_25.1 231 24 from rfl); omega)⟩⟩ dX12_sum_56
  · have lk_160 : u_11.1 231 24 = (S.1 231 24) + 1 := (gu_11 24 rfl).trans (uF_on)
    have q_161 : (-2147483648) ≤ S.1 231 42 ∧ S.1 231 42 ≤ 2147483647 := hI.fi 42
    have lk_162 : u_11.1 231 42 = S.1 231 42 := (gu_11 42 rfl).trans (uF_ne (fun h => absurd h.2 (by decide)))
    exact sVret Cx hr hlk hW hL ⟨iu_11, F_14, g_15, ⟨⟨(fun j a => ((fu_11 257 rfl).2.2.1 j).trans (uF_l)), (fun h => absurd h (by have e9 := (show u_11.1 231 20 = u_11.1 231 20 from rfl); omega)), (fun _ => eSm_n (fun z => by have z1 := z.1; have z2 : 0 ≤ eFind N (v (pz + 1)) := (by rw [← hc]; exact xu_11.2.1 (by omega)); omega))⟩, (by have e7c := (show u_11.1 231 24 = (S.1 231 24) + 1 from (gu_11 24 rfl).trans (uF_on)); omega)⟩⟩ dX12_sum_32
