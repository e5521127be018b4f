/-! The checker: points -/
def dPT (S : sS) : Prop := (∀ j, 1 ≤ j → j ≤ S.1 231 46 + 1 → NO (S.2.1 285) (10 * j) 7) ∧ 0 < nv (S.2.1 285) (10 * (S.1 231 46 + 1))
def dUP (S : sS) : Prop := NO (S.2.1 286) 0 7 ∧ NO (S.2.1 287) 0 7
theorem dPT.sm {S u : sS} (h : dPT S) (e46 : u.1 231 46 = S.1 231 46) (a285 : u.2.1 285 = S.2.1 285) : dPT u := by
  simp only [dPT] at h ⊢
  simp only [e46, a285]
  exact h
theorem dUP.sm {S u : sS} (h : dUP S) (a286 : u.2.1 286 = S.2.1 286) (a287 : u.2.1 287 = S.2.1 287) : dUP u := by
  simp only [dUP] at h ⊢
  simp only [a286, a287]
  exact h
set_option maxRecDepth 100000 in
set_option maxHeartbeats 4000000 in
theorem s_X12_pointHere (l : Launch) (G : sG) (S : sS) {Xt Fm Wd Vt : Int → Int} {pz : Int} (hI : dX G S) (hX : S.2.1 243 = Xt) (hFm : S.2.1 245 = Fm) (hWd : S.2.1 246 = Wd) (hVt : S.2.1 247 = Vt) (hm : 0 ≤ S.1 231 46 ∧ S.1 231 46 ≤ 12) (hc : S.1 231 24 = pz) (hN1 : Hd (∀ i, 0 ≤ i → i < S.1 231 46 → nTk Xt Fm Wd Vt (pz + i))) (hN2 : nTk Xt Fm Wd Vt (pz + S.1 231 46 + 1)) (hN3 : Vt (pz + S.1 231 46 + 1) = 1) (hpq : 0 ≤ pz ∧ pz + S.1 231 46 + 2 ≤ 30001) : Met l yX12_pointHere (.code yX12_pointHere cX12_pointHere 2 none :: tb) (rmk 3 0 0) (sPc G 294 S [.ref (G.2.2.1 + 231)]) (sQv G 294 (fun u => dX G u ∧ Fr S u (pl [231, 285]) ∧ FF S u (fl [24]) ∧ (u.1 231 24 = pz + S.1 231 46 + 2 ∧ dPT u))) 0 0 (sF G) := by
  refine sEnter (by decide) (Nat.le_of_ble_eq_true rfl) ?_
  intro p e s m args below meth c Cx hr hlk hnm hW ls hl
  have Cx : sC G p m c cX12_pointHere 2 s args RX12 := Cx
  obtain ⟨hx, hb, hml, hown, hts⟩ := id Cx.1
  have hL : sL G [] := sL_nil
  have hl : lv_has ls 2 [(0, .ref (G.2.2.1 + 231))] := hl
  have hW0 := hW
  refine lv_iconst (v := iv 1) hx hb dX12_pointHere_0 (by decide) ?_
  refine lv_istore_n (lv' := [(1, .int (iv 1)), (0, .ref (G.2.2.1 + 231))]) hx hb dX12_pointHere_1 rfl hl (by decide) rfl (fun ls hl => ?_)
  have loop_2 : ∀ (fuel : Nat) (S2 : sS) (j : Int) (H : Heap) (locs : List Loc) (ls : Array Slot), (S.1 231 46 + 1 - j).toNat < fuel → (dX G S2) → (Fr S S2 (pl [231, 285])) → (Fr S S2 (pl [231, 285])) → (FF S S2 (fl [24])) → (FF S S2 (fl [24])) → (1 ≤ j ∧ j ≤ S.1 231 46 + 1 ∧ S2.1 231 24 = pz + j - 1) → (∀ t, 1 ≤ t → t < j → NO (S2.2.1 285) (10 * t) 7) → sW G 294 S2 H → sL G locs → lv_has ls 2 [(1, .int (iv j)), (0, .ref (G.2.2.1 + 231))] → W p l e (rmk 3 0 0) s m args below meth c H locs 0 0 (MQ below (sQv G 294 (fun u => dX G u ∧ Fr S u (pl [231, 285]) ∧ FF S u (fl [24]) ∧ (u.1 231 24 = pz + S.1 231 46 + 2 ∧ dPT u))) args s 0 0 (sF G)) (F0 m 2 ls []) := by
    intro fuel
    induction fuel with
    | zero => intro S2 j H locs ls hmeas hI2 hFm2 hL2_ hGm2 gL2_ hj hz2 hW hL hl; exact absurd hmeas (Nat.not_lt_zero _)
    | succ fuel ih_2 =>
      intro S2 j H locs ls hmeas hI2 hFm2 hL2_ hGm2 gL2_ hj hz2 hW hL hl
      refine lv_iload_n hx hb dX12_pointHere_2 rfl (lv_at hl 0 rfl) ?_
      refine lv_aload_n hx hb dX12_pointHere_3 rfl (lv_at hl 1 rfl) ?_
      have q_1 : (-2147483648) ≤ S.1 231 46 ∧ S.1 231 46 ≤ 2147483647 := hI.fi 46
      refine g_X12_465 Cx hW (k := 231) (by decide) rfl (v := S.1 231 46) (gL2_ 46 rfl) dX12_pointHere_4 ?_
      refine r_icmp_gt (tgt := 42) hx hb ⟨(by omega), (by omega)⟩ ⟨(by omega), (by omega)⟩ dX12_pointHere_7 (by decide) (fun c_2 => ?_) (fun c_2 => ?_)
      · refine lv_aload_n hx hb dX12_pointHere_42 rfl (lv_at hl 1 rfl) ?_
        refine lv_dup hx hb dX12_pointHere_43 rfl ?_
        have q_3 : (-2147483648) ≤ S2.1 231 24 ∧ S2.1 231 24 ≤ 2147483647 := hI2.fi 24
        refine g_X12_315 Cx hW (k := 231) (by decide) rfl (v := S2.1 231 24) rfl dX12_pointHere_44 ?_
        refine lv_iconst (v := iv 1) hx hb dX12_pointHere_47 (by decide) ?_
        refine r_iadd hx hb dX12_pointHere_48 ?_
        refine p_X12_315 Cx hW hL (k := 231) (by decide) rfl dX12_pointHere_49 (fun H locs hW hL => ?_)
        have F_4 : Fr S (uF S2 231 24 ((S2.1 231 24) + 1)) (pl [231, 285]) := hFm2.F rfl
        have F_5 : Fr S (uF S2 231 24 ((S2.1 231 24) + 1)) (pl [231, 285]) := hL2_.F rfl
        have g_6 : FF S (uF S2 231 24 ((S2.1 231 24) + 1)) (fl [24]) := FF.F hGm2 rfl
        have g_7 : FF S (uF S2 231 24 ((S2.1 231 24) + 1)) (fl [24]) := FF.F gL2_ rfl
        have i_8 : dX G (uF S2 231 24 ((S2.1 231 24) + 1)) := hI2.F (i := 24) (show (-2147483648) ≤ (S2.1 231 24) + 1 ∧ (S2.1 231 24) + 1 ≤ 2147483647 from ⟨by omega, by omega⟩)
        refine lv_aload_n hx hb dX12_pointHere_52 rfl (lv_at hl 1 rfl) ?_
        refine lv_aload_n hx hb dX12_pointHere_53 rfl (lv_at hl 1 rfl) ?_
        refine g_X12_315 Cx hW (k := 231) (by decide) rfl (v := (S2.1 231 24) + 1) uF_on dX12_pointHere_54 ?_
        refine lv_aload_n hx hb dX12_pointHere_57 rfl (lv_at hl 1 rfl) ?_
        refine g_X12_175 Cx hW (k := 231) (by decide) rfl (v := .ref (G.2.2.1 + 285)) (rd_95 i_8) dX12_pointHere_58 ?_
        refine lv_bipush (v := iv 10) hx hb dX12_pointHere_61 (by decide) ?_
        refine lv_aload_n hx hb dX12_pointHere_63 rfl (lv_at hl 1 rfl) ?_
        refine g_X12_465 Cx hW (k := 231) (by decide) rfl (v := S.1 231 46) ((uF_ne (fun h => absurd h.2 (by decide))).trans (gL2_ 46 rfl)) dX12_pointHere_64 ?_
        refine lv_iconst (v := iv 1) hx hb dX12_pointHere_67 (by decide) ?_
        refine r_iadd hx hb dX12_pointHere_68 ?_
        refine r_imul hx hb dX12_pointHere_69 ?_
        refine sBv (sV (As := [.int (iv ((S2.1 231 24) + 1)), .ref (G.2.2.1 + 285), .int (iv (10 * ((S.1 231 46) + 1)))]) (rest := []) (k := 231) Cx (s_X12_numberAt l G (uF S2 231 24 ((S2.1 231 24) + 1)) (tk := (S2.1 231 24) + 1) (ka := 285) (po := 10 * ((S.1 231 46) + 1)) (Nka := 140) (Xt := Xt) (Fm := Fm) (Wd := Wd) (Vt := Vt) i_8 ⟨rfl, by decide, by decide, by decide, rfl⟩ (show (285 : Nat) ≠ 243 by decide) (show (285 : Nat) ≠ 245 by decide) (show (285 : Nat) ≠ 246 by decide) (show (285 : Nat) ≠ 247 by decide) ((funext fun j => (uF_a).trans ((hL2_ 243 rfl).2.1 j) : (uF S2 231 24 ((S2.1 231 24) + 1)).2.1 243 = S.2.1 243).trans hX) ((funext fun j => (uF_a).trans ((hL2_ 245 rfl).2.1 j) : (uF S2 231 24 ((S2.1 231 24) + 1)).2.1 245 = S.2.1 245).trans hFm) ((funext fun j => (uF_a).trans ((hL2_ 246 rfl).2.1 j) : (uF S2 231 24 ((S2.1 231 24) + 1)).2.1 246 = S.2.1 246).trans hWd) ((funext fun j => (uF_a).trans ((hL2_ 247 rfl).2.1 j) : (uF S2 231 24 ((S2.1 231 24) + 1)).2.1 247 = S.2.1 247).trans hVt) (by rw [show S2.1 231 24 + 1 = pz + S.1 231 46 + 1 by omega]; exact hN2) (by omega) (by omega)) (c_X12_703 Cx rfl rfl (rmk_ok (by omega) (by decide))) hW (by decide) rfl rfl rfl hl.1 rfl (Nat.le_of_ble_eq_true rfl) dX12_pointHere_70 ⟨Nat.le_of_ble_eq_true rfl, Nat.le_of_ble_eq_true rfl⟩) hL (fun u_9 H locs k_10 hW hL => ?_)
        obtain ⟨iu_9, fu_9, gu_9, xu_9⟩ := k_10
        have F_11 := F_4.trans (fu_9.to (pl_sub (by decide)))
        have F_12 := F_5.trans (fu_9.to (pl_sub (by decide)))
        have g_13 : FF S u_9 (fl [24]) := FF.trans g_6 (FF.to gu_9 (fl_sub (by decide)))
        have g_14 : FF S u_9 (fl [24]) := FF.trans g_7 (FF.to gu_9 (fl_sub (by decide)))
        have hN3x : Vt (S2.1 231 24 + 1) = 1 := by rw [show S2.1 231 24 + 1 = pz + S.1 231 46 + 1 by omega]; exact hN3
        refine lv_aload_n hx hb dX12_pointHere_73 rfl (lv_at hl 1 rfl) ?_
        refine lv_dup hx hb dX12_pointHere_74 rfl ?_
        refine g_X12_315 Cx hW (k := 231) (by decide) rfl (v := (S2.1 231 24) + 1) ((gu_9 24 rfl).trans (uF_on)) dX12_pointHere_75 ?_
        refine lv_iconst (v := iv 1) hx hb dX12_pointHere_78 (by decide) ?_
        refine r_iadd hx hb dX12_pointHere_79 ?_
        refine p_X12_315 Cx hW hL (k := 231) (by decide) rfl dX12_pointHere_80 (fun H locs hW hL => ?_)
        have F_15 : Fr S (uF u_9 231 24 (((S2.1 231 24) + 1) + 1)) (pl [231, 285]) := F_11.F rfl
        have F_16 : Fr S (uF u_9 231 24 (((S2.1 231 24) + 1) + 1)) (pl [231, 285]) := F_12.F rfl
        have g_17 : FF S (uF u_9 231 24 (((S2.1 231 24) + 1) + 1)) (fl [24]) := FF.F g_13 rfl
        have g_18 : FF S (uF u_9 231 24 (((S2.1 231 24) + 1) + 1)) (fl [24]) := FF.F g_14 rfl
        have i_19 : dX G (uF u_9 231 24 (((S2.1 231 24) + 1) + 1)) := iu_9.F (i := 24) (show (-2147483648) ≤ ((S2.1 231 24) + 1) + 1 ∧ ((S2.1 231 24) + 1) + 1 ≤ 2147483647 from ⟨by omega, by omega⟩)
        have lk_20 : (uF u_9 231 24 (((S2.1 231 24) + 1) + 1)).1 231 24 = ((S2.1 231 24) + 1) + 1 := uF_on
        exact sVret Cx hr hlk hW hL ⟨i_19, F_15, g_17, ⟨(by have y := (show (uF u_9 231 24 (((S2.1 231 24) + 1) + 1)).1 231 24 = ((S2.1 231 24) + 1) + 1 from uF_on); omega), ⟨(fun t t0 t1 => by rw [show (uF u_9 231 24 (((S2.1 231 24) + 1) + 1)).1 231 46 = S.1 231 46 from (uF_ne (fun h => absurd h.2 (by decide))).trans ((gu_9 46 rfl).trans ((uF_ne (fun h => absurd h.2 (by decide))).trans (gL2_ 46 rfl)))] at t1; rw [show (uF u_9 231 24 (((S2.1 231 24) + 1) + 1)).2.1 285 = u_9.2.1 285 from funext fun j => uF_a]; by_cases z : t = S.1 231 46 + 1; (rw [z]; exact xu_9.1); exact ((hz2 t t0 (by omega)).same (g := u_9.2.1 285) (fun x x0 x1 => xu_9.2.2 x (by omega))).1), (by rw [show (uF u_9 231 24 (((S2.1 231 24) + 1) + 1)).1 231 46 = S.1 231 46 from (uF_ne (fun h => absurd h.2 (by decide))).trans ((gu_9 46 rfl).trans ((uF_ne (fun h => absurd h.2 (by decide))).trans (gL2_ 46 rfl))), show (uF u_9 231 24 (((S2.1 231 24) + 1) + 1)).2.1 285 = u_9.2.1 285 from funext fun j => uF_a]; exact xu_9.2.1 hN3x)⟩⟩⟩ dX12_pointHere_83
      · refine lv_aload_n hx hb dX12_pointHere_10 rfl (lv_at hl 1 rfl) ?_
        refine lv_aload_n hx hb dX12_pointHere_11 rfl (lv_at hl 1 rfl) ?_
        have q_21 : (-2147483648) ≤ S2.1 231 24 ∧ S2.1 231 24 ≤ 2147483647 := hI2.fi 24
        refine g_X12_315 Cx hW (k := 231) (by decide) rfl (v := S2.1 231 24) rfl dX12_pointHere_12 ?_
        refine lv_aload_n hx hb dX12_pointHere_15 rfl (lv_at hl 1 rfl) ?_
        refine g_X12_175 Cx hW (k := 231) (by decide) rfl (v := .ref (G.2.2.1 + 285)) (rd_95 hI2) dX12_pointHere_16 ?_
        refine lv_bipush (v := iv 10) hx hb dX12_pointHere_19 (by decide) ?_
        refine lv_iload_n hx hb dX12_pointHere_21 rfl (lv_at hl 0 rfl) ?_
        refine r_imul hx hb dX12_pointHere_22 ?_
        refine sBv (sV (As := [.int (iv (S2.1 231 24)), .ref (G.2.2.1 + 285), .int (iv (10 * j))]) (rest := []) (k := 231) Cx (s_X12_numberAt l G S2 (tk := S2.1 231 24) (ka := 285) (po := 10 * j) (Nka := 140) (Xt := Xt) (Fm := Fm) (Wd := Wd) (Vt := Vt) hI2 ⟨rfl, by decide, by decide, by decide, rfl⟩ (show (285 : Nat) ≠ 243 by decide) (show (285 : Nat) ≠ 245 by decide) (show (285 : Nat) ≠ 246 by decide) (show (285 : Nat) ≠ 247 by decide) ((funext fun j => (hL2_ 243 rfl).2.1 j : S2.2.1 243 = S.2.1 243).trans hX) ((funext fun j => (hL2_ 245 rfl).2.1 j : S2.2.1 245 = S.2.1 245).trans hFm) ((funext fun j => (hL2_ 246 rfl).2.1 j : S2.2.1 246 = S.2.1 246).trans hWd) ((funext fun j => (hL2_ 247 rfl).2.1 j : S2.2.1 247 = S.2.1 247).trans hVt) (by rw [show S2.1 231 24 = pz + (j - 1) by omega]; exact hN1 _ (by omega) (by omega)) (by omega) (by omega)) (c_X12_703 Cx rfl rfl (rmk_ok (by omega) (by decide))) hW (by decide) rfl rfl rfl hl.1 rfl (Nat.le_of_ble_eq_true rfl) dX12_pointHere_23 ⟨Nat.le_of_ble_eq_true rfl, Nat.le_of_ble_eq_true rfl⟩) hL (fun u_22 H locs k_23 hW hL => ?_)
        obtain ⟨iu_22, fu_22, gu_22, xu_22⟩ := k_23
        have F_24 := hFm2.trans (fu_22.to (pl_sub (by decide)))
        have F_25 := hL2_.trans (fu_22.to (pl_sub (by decide)))
        have g_26 : FF S u_22 (fl [24]) := FF.trans hGm2 (FF.to gu_22 (fl_sub (by decide)))
        have g_27 : FF S u_22 (fl [24]) := FF.trans gL2_ (FF.to gu_22 (fl_sub (by decide)))
        refine lv_aload_n hx hb dX12_pointHere_26 rfl (lv_at hl 1 rfl) ?_
        refine lv_dup hx hb dX12_pointHere_27 rfl ?_
        refine g_X12_315 Cx hW (k := 231) (by decide) rfl (v := S2.1 231 24) (gu_22 24 rfl) dX12_pointHere_28 ?_
        refine lv_iconst (v := iv 1) hx hb dX12_pointHere_31 (by decide) ?_
        refine r_iadd hx hb dX12_pointHere_32 ?_
        refine p_X12_315 Cx hW hL (k := 231) (by decide) rfl dX12_pointHere_33 (fun H locs hW hL => ?_)
        have F_28 : Fr S (uF u_22 231 24 ((S2.1 231 24) + 1)) (pl [231, 285]) := F_24.F rfl
        have F_29 : Fr S (uF u_22 231 24 ((S2.1 231 24) + 1)) (pl [231, 285]) := F_25.F rfl
        have g_30 : FF S (uF u_22 231 24 ((S2.1 231 24) + 1)) (fl [24]) := FF.F g_26 rfl
        have g_31 : FF S (uF u_22 231 24 ((S2.1 231 24) + 1)) (fl [24]) := FF.F g_27 rfl
        have i_32 : dX G (uF u_22 231 24 ((S2.1 231 24) + 1)) := iu_22.F (i := 24) (show (-2147483648) ≤ (S2.1 231 24) + 1 ∧ (S2.1 231 24) + 1 ≤ 2147483647 from ⟨by omega, by omega⟩)
        refine lv_iinc (v := iv (j + 1)) (lv' := [(1, .int (iv (j + 1))), (0, .ref (G.2.2.1 + 231))]) hx hb dX12_pointHere_36 hl (k := 0) rfl ((Int32.ofInt_add _ _).symm) (by decide) rfl (fun ls hl => ?_)
        refine lv_goto (tgt := 2) hx hb dX12_pointHere_39 (by decide) ?_
        have lk_33 : (uF u_22 231 24 ((S2.1 231 24) + 1)).1 231 24 = (S2.1 231 24) + 1 := uF_on
        exact ih_2 (uF u_22 231 24 ((S2.1 231 24) + 1)) (j + 1) _ _ _ (by omega) i_32 F_28 F_29 g_30 g_31 (by omega) (fun t t0 t1 => by rw [show (uF u_22 231 24 ((S2.1 231 24) + 1)).2.1 285 = u_22.2.1 285 from funext fun j => uF_a]; by_cases z : t = j; (rw [z]; exact xu_22.1); exact ((hz2 t t0 (by omega)).same (g := u_22.2.1 285) (fun x x0 x1 => xu_22.2.2 x (by omega))).1) hW hL (lv_sub hl [0, 1] rfl)
  have q_34 : (-2147483648) ≤ S.1 231 24 ∧ S.1 231 24 ≤ 2147483647 := hI.fi 24
  exact loop_2 (_ + 1) S 1 _ _ _ (Nat.lt_succ_self _) hI (Fr.rf : Fr S S (pl [231, 285])) Fr.rf FF.rf FF.rf (by omega) (fun t a b => absurd b (by omega)) hW hL (lv_sub hl [0, 1] rfl)

set_option maxRecDepth 100000 in
set_option maxHeartbeats 4000000 in
theorem s_X12_along (l : Launch) (G : sG) (S : sS) {k : Int} (hI : dX G S) (hm : 0 ≤ S.1 231 46 ∧ S.1 231 46 ≤ 12) (hk : 0 ≤ k ∧ k ≤ 16) (hPT : dPT S) (hGM : GM S) : Met l yX12_along (.code yX12_along cX12_along 3 none :: tb) (rmk 5 0 0) (sPc G 294 S [.ref (G.2.2.1 + 231), .int (iv k)]) (sQv G 294 (fun u => dX G u ∧ Fr S u (pl [237, 277, 284]) ∧ FF S u (fl []) ∧ (NO (u.2.1 284) 0 23))) 0 0 (sF G) := by
  refine sEnter (by decide) (Nat.le_of_ble_eq_true rfl) ?_
  intro p e s m args below meth c Cx hr hlk hnm hW ls hl
  have Cx : sC G p m c cX12_along 3 s args RX12 := Cx
  obtain ⟨hx, hb, hml, hown, hts⟩ := id Cx.1
  have hL : sL G [] := sL_nil
  have hl : lv_has ls 3 [(0, .ref (G.2.2.1 + 231)), (1, .int (iv k))] := hl
  have hW0 := hW
  refine lv_aload_n hx hb dX12_along_0 rfl (lv_at hl 0 rfl) ?_
  refine g_X12_172 Cx hW (k := 231) (by decide) rfl (v := .ref (G.2.2.1 + 284)) (rd_94 hI) dX12_along_1 ?_
  refine lv_iconst (v := iv 0) hx hb dX12_along_4 (by decide) ?_
  refine lv_iconst (v := iv 0) hx hb dX12_along_5 (by decide) ?_
  refine rIast Cx hW hL (k := 284) (by decide) rfl (by decide) (by omega) (by omega) dX12_along_6 (fun H locs hW hL => ?_)
  have F_1 : Fr S (uA S 284 0 0) (pl [237, 277, 284]) := (Fr.rf : Fr S S (pl [237, 277, 284])).A rfl
  have i_2 : dX G (uA S 284 0 0) := hI.A (k := 284) (show (-2147483648) ≤ 0 ∧ 0 ≤ 2147483647 from ⟨by omega, by omega⟩)
  refine lv_iconst (v := iv 1) hx hb dX12_along_7 (by decide) ?_
  refine lv_istore_n (lv' := [(2, .int (iv 1)), (0, .ref (G.2.2.1 + 231)), (1, .int (iv k))]) hx hb dX12_along_8 rfl hl (by decide) rfl (fun ls hl => ?_)
  have loop_9 : ∀ (fuel : Nat) (S9 : sS) (j : Int) (H : Heap) (locs : List Loc) (ls : Array Slot), (S.1 231 46 + 1 - j).toNat < fuel → (dX G S9) → (Fr S S9 (pl [237, 277, 284])) → (Fr ((uA S 284 0 0)) S9 (pl [237, 277, 284])) → (FF S S9 (fl [])) → (FF ((uA S 284 0 0)) S9 (fl [])) → (1 ≤ j ∧ j ≤ S.1 231 46 + 1) → (NO (S9.2.1 284) 0 (9 + j)) → sW G 294 S9 H → sL G locs → lv_has ls 3 [(2, .int (iv j)), (0, .ref (G.2.2.1 + 231)), (1, .int (iv k))] → W p l e (rmk 5 0 0) s m args below meth c H locs 0 0 (MQ below (sQv G 294 (fun u => dX G u ∧ Fr S u (pl [237, 277, 284]) ∧ FF S u (fl []) ∧ (NO (u.2.1 284) 0 23))) args s 0 0 (sF G)) (F0 m 9 ls []) := by
    intro fuel
    induction fuel with
    | zero => intro S9 j H locs ls hmeas hI9 hFm9 hL9_ hGm9 gL9_ hj hs9 hW hL hl; exact absurd hmeas (Nat.not_lt_zero _)
    | succ fuel ih_9 =>
      intro S9 j H locs ls hmeas hI9 hFm9 hL9_ hGm9 gL9_ hj hs9 hW hL hl
      refine lv_iload_n hx hb dX12_along_9 rfl (lv_at hl 0 rfl) ?_
      refine lv_aload_n hx hb dX12_along_10 rfl (lv_at hl 1 rfl) ?_
      have q_3 : (-2147483648) ≤ S.1 231 46 ∧ S.1 231 46 ≤ 2147483647 := hI.fi 46
      refine g_X12_465 Cx hW (k := 231) (by decide) rfl (v := S.1 231 46) ((gL9_ 46 rfl).trans (uA_f)) dX12_along_11 ?_
      refine r_icmp_gt (tgt := 95) hx hb ⟨(by omega), (by omega)⟩ ⟨(by omega), (by omega)⟩ dX12_along_14 (by decide) (fun c_4 => ?_) (fun c_4 => ?_)
      · exact sVret Cx hr hlk hW hL ⟨hI9, hFm9, hGm9, hs9.mono (by omega)⟩ dX12_along_95
      · refine lv_aload_n hx hb dX12_along_17 rfl (lv_at hl 1 rfl) ?_
        refine g_X12_151 Cx hW (k := 231) (by decide) rfl (v := .ref (G.2.2.1 + 277)) (rd_87 hI9) dX12_along_18 ?_
        refine lv_iconst (v := iv 0) hx hb dX12_along_21 (by decide) ?_
        refine lv_iload_n hx hb dX12_along_22 rfl (lv_at hl 2 rfl) ?_
        refine r_if_ne (tgt := 35) hx hb ⟨(by omega), (by omega)⟩ dX12_along_23 (by decide) (fun c_5 => ?_) (fun c_5 => ?_)
        · have hgv := hGM.2 (13 * k + j)
          refine lv_aload_n hx hb dX12_along_35 rfl (lv_at hl 1 rfl) ?_
          refine g_X12_190 Cx hW (k := 231) (by decide) rfl (v := .ref (G.2.2.1 + 290)) (rd_101 hI9) dX12_along_36 ?_
          refine lv_bipush (v := iv 13) hx hb dX12_along_39 (by decide) ?_
          refine lv_iload_n hx hb dX12_along_41 rfl (lv_at hl 2 rfl) ?_
          refine r_imul hx hb dX12_along_42 ?_
          refine lv_iload_n hx hb dX12_along_43 rfl (lv_at hl 0 rfl) ?_
          refine r_iadd hx hb dX12_along_44 ?_
          refine rLald Cx hW (k := 290) (by decide) rfl (by decide) (by omega) (by omega) dX12_along_45 ?_
          have q_6 : -9223372036854775808 ≤ S.2.2.1 290 ((13 * k) + j) ∧ S.2.2.1 290 ((13 * k) + j) ≤ 9223372036854775807 := hI.li 290 ((13 * k) + j)
          refine r_j (b := S.2.2.1 290 ((13 * k) + j)) (((hL9_ 290 rfl).2.2.1 ((13 * k) + j)).trans (uA_l)) ?_
          refine sBv (sSt (As := [.ref (G.2.2.1 + 277), .int (iv 0), .long (jv (S.2.2.1 290 ((13 * k) + j)))]) (rest := []) Cx (s_X12_put l G S9 (ka := 277) (po := 0) (v := S.2.2.1 290 ((13 * k) + j)) (Nka := 4) hI9 ⟨rfl, by decide, by decide, by decide, rfl⟩ (by omega) (by omega)) (c_X12_241 Cx rfl rfl (rmk_ok (by omega) (by decide))) hW rfl hl.1 rfl (Nat.le_of_ble_eq_true rfl) dX12_along_46 ⟨Nat.le_of_ble_eq_true rfl, Nat.le_of_ble_eq_true rfl⟩) hL (fun u_7 H locs k_8 hW hL => ?_)
          obtain ⟨iu_7, fu_7, xu_7⟩ := k_8
          have F_9 := hFm9.trans (fu_7.to (p1_sub rfl))
          have F_10 := hL9_.trans (fu_7.to (p1_sub rfl))
          have g_11 : FF S u_7 (fl []) := FF.fr hGm9 fu_7 rfl
          have g_12 : FF ((uA S 284 0 0)) u_7 (fl []) := FF.fr gL9_ fu_7 rfl
          refine lv_aload_n hx hb dX12_along_49 rfl (lv_at hl 1 rfl) ?_
          refine g_X12_175 Cx hW (k := 231) (by decide) rfl (v := .ref (G.2.2.1 + 285)) (rd_95 iu_7) dX12_along_50 ?_
          refine lv_bipush (v := iv 10) hx hb dX12_along_53 (by decide) ?_
          refine lv_iload_n hx hb dX12_along_55 rfl (lv_at hl 0 rfl) ?_
          refine r_imul hx hb dX12_along_56 ?_
          refine lv_aload_n hx hb dX12_along_57 rfl (lv_at hl 1 rfl) ?_
          refine g_X12_151 Cx hW (k := 231) (by decide) rfl (v := .ref (G.2.2.1 + 277)) (rd_87 iu_7) dX12_along_58 ?_
          refine lv_iconst (v := iv 0) hx hb dX12_along_61 (by decide) ?_
          refine lv_aload_n hx hb dX12_along_62 rfl (lv_at hl 1 rfl) ?_
          refine g_X12_26 Cx hW (k := 231) (by decide) rfl (v := .ref (G.2.2.1 + 237)) (rd_7 iu_7) dX12_along_63 ?_
          refine lv_iconst (v := iv 0) hx hb dX12_along_66 (by decide) ?_
          refine sBv (sSt (As := [.ref (G.2.2.1 + 285), .int (iv (10 * j)), .ref (G.2.2.1 + 277), .int (iv 0), .ref (G.2.2.1 + 237), .int (iv 0)]) (rest := []) Cx (s_X12_multiply l G u_7 (ka := 285) (po := 10 * j) (kb := 277) (qo := 0) (kc := 237) (ro := 0) (Nka := 140) (Nkb := 4) (Nkc := 68) (La := 7) (Lb := 3) iu_7 ⟨rfl, by decide, by decide, by decide, rfl⟩ ⟨rfl, by decide, by decide, by decide, rfl⟩ ⟨rfl, by decide, by decide, by decide, rfl⟩ (show (237 : Nat) ≠ 277 by decide) (show (237 : Nat) ≠ 285 by decide) (by omega) (by rw [show u_7.2.1 285 = S.2.1 285 from (funext fun j => ((fu_7 285 rfl).2.1 j).trans (((hL9_ 285 rfl).2.1 j).trans (uA_ne (fun h => absurd h.1 (by decide)))))]; exact hPT.1 j (by omega) (by omega)) xu_7.1) (c_X12_548 Cx rfl rfl (rmk_ok (by omega) (by decide))) hW rfl hl.1 rfl (Nat.le_of_ble_eq_true rfl) dX12_along_67 ⟨Nat.le_of_ble_eq_true rfl, Nat.le_of_ble_eq_true rfl⟩) hL (fun u_13 H locs k_14 hW hL => ?_)
          obtain ⟨iu_13, fu_13, xu_13⟩ := k_14
          have F_15 := F_9.trans (fu_13.to (p1_sub rfl))
          have F_16 := F_10.trans (fu_13.to (p1_sub rfl))
          have g_17 : FF S u_13 (fl []) := FF.fr g_11 fu_13 rfl
          have g_18 : FF ((uA S 284 0 0)) u_13 (fl []) := FF.fr g_12 fu_13 rfl
          refine lv_aload_n hx hb dX12_along_70 rfl (lv_at hl 1 rfl) ?_
          refine g_X12_172 Cx hW (k := 231) (by decide) rfl (v := .ref (G.2.2.1 + 284)) (rd_94 iu_13) dX12_along_71 ?_
          refine lv_iconst (v := iv 0) hx hb dX12_along_74 (by decide) ?_
          refine lv_aload_n hx hb dX12_along_75 rfl (lv_at hl 1 rfl) ?_
          refine g_X12_26 Cx hW (k := 231) (by decide) rfl (v := .ref (G.2.2.1 + 237)) (rd_7 iu_13) dX12_along_76 ?_
          refine lv_iconst (v := iv 0) hx hb dX12_along_79 (by decide) ?_
          refine lv_iconst (v := iv 0) hx hb dX12_along_80 (by decide) ?_
          refine lv_aload_n hx hb dX12_along_81 rfl (lv_at hl 1 rfl) ?_
          refine g_X12_172 Cx hW (k := 231) (by decide) rfl (v := .ref (G.2.2.1 + 284)) (rd_94 iu_13) dX12_along_82 ?_
          refine lv_iconst (v := iv 0) hx hb dX12_along_85 (by decide) ?_
          refine sBv (sSt (As := [.ref (G.2.2.1 + 284), .int (iv 0), .ref (G.2.2.1 + 237), .int (iv 0), .int (iv 0), .ref (G.2.2.1 + 284), .int (iv 0)]) (rest := []) Cx (s_X12_add l G u_13 (ka := 284) (po := 0) (kb := 237) (qo := 0) (lz := 0) (kc := 284) (ro := 0) (Nka := 520) (Nkb := 68) (Nkc := 520) (La := 9 + j) (Lb := 10) (Lc := 10 + j) iu_13 ⟨rfl, by decide, by decide, by decide, rfl⟩ ⟨rfl, by decide, by decide, by decide, rfl⟩ ⟨rfl, by decide, by decide, by decide, rfl⟩ (show (284 : Nat) ≠ 237 by decide) (fun _ => rfl) (by omega) (by omega) (by rw [show u_13.2.1 284 = S9.2.1 284 from (funext fun j => ((fu_13 284 rfl).2.1 j).trans ((fu_7 284 rfl).2.1 j))]; exact hs9) xu_13.1) (c_X12_249 Cx rfl rfl (rmk_ok (by omega) (by decide))) hW rfl hl.1 rfl (Nat.le_of_ble_eq_true rfl) dX12_along_86 ⟨Nat.le_of_ble_eq_true rfl, Nat.le_of_ble_eq_true rfl⟩) hL (fun u_19 H locs k_20 hW hL => ?_)
          obtain ⟨iu_19, fu_19, xu_19⟩ := k_20
          have F_21 := F_15.trans (fu_19.to (p1_sub rfl))
          have F_22 := F_16.trans (fu_19.to (p1_sub rfl))
          have g_23 : FF S u_19 (fl []) := FF.fr g_17 fu_19 rfl
          have g_24 : FF ((uA S 284 0 0)) u_19 (fl []) := FF.fr g_18 fu_19 rfl
          refine lv_iinc (v := iv (j + 1)) (lv' := [(2, .int (iv (j + 1))), (0, .ref (G.2.2.1 + 231)), (1, .int (iv k))]) hx hb dX12_along_89 hl (k := 0) rfl ((Int32.ofInt_add _ _).symm) (by decide) rfl (fun ls hl => ?_)
          refine lv_goto (tgt := 9) hx hb dX12_along_92 (by decide) ?_
          exact ih_9 u_19 (j + 1) _ _ _ (by omega) iu_19 F_21 F_22 g_23 g_24 (by omega) (by rw [show 9 + (j + 1) = 10 + j by omega]; exact xu_19.1) hW hL (lv_sub hl [0, 1, 2] rfl)
        · have hgv := hGM.1 j
          refine lv_aload_n hx hb dX12_along_26 rfl (lv_at hl 1 rfl) ?_
          refine g_X12_97 Cx hW (k := 231) (by decide) rfl (v := .ref (G.2.2.1 + 260)) (rd_51 hI9) dX12_along_27 ?_
          refine lv_iload_n hx hb dX12_along_30 rfl (lv_at hl 0 rfl) ?_
          refine rLald Cx hW (k := 260) (by decide) rfl (by decide) (by omega) (by omega) dX12_along_31 ?_
          have q_25 : -9223372036854775808 ≤ S.2.2.1 260 j ∧ S.2.2.1 260 j ≤ 9223372036854775807 := hI.li 260 j
          refine r_j (b := S.2.2.1 260 j) (((hL9_ 260 rfl).2.2.1 j).trans (uA_l)) ?_
          refine lv_goto (tgt := 46) hx hb dX12_along_32 (by decide) ?_
          refine sBv (sSt (As := [.ref (G.2.2.1 + 277), .int (iv 0), .long (jv (S.2.2.1 260 j))]) (rest := []) Cx (s_X12_put l G S9 (ka := 277) (po := 0) (v := S.2.2.1 260 j) (Nka := 4) hI9 ⟨rfl, by decide, by decide, by decide, rfl⟩ (by omega) (by omega)) (c_X12_241 Cx rfl rfl (rmk_ok (by omega) (by decide))) hW rfl hl.1 rfl (Nat.le_of_ble_eq_true rfl) dX12_along_46 ⟨Nat.le_of_ble_eq_true rfl, Nat.le_of_ble_eq_true rfl⟩) hL (fun u_26 H locs k_27 hW hL => ?_)
          obtain ⟨iu_26, fu_26, xu_26⟩ := k_27
          have F_28 := hFm9.trans (fu_26.to (p1_sub rfl))
          have F_29 := hL9_.trans (fu_26.to (p1_sub rfl))
          have g_30 : FF S u_26 (fl []) := FF.fr hGm9 fu_26 rfl
          have g_31 : FF ((uA S 284 0 0)) u_26 (fl []) := FF.fr gL9_ fu_26 rfl
          refine lv_aload_n hx hb dX12_along_49 rfl (lv_at hl 1 rfl) ?_
          refine g_X12_175 Cx hW (k := 231) (by decide) rfl (v := .ref (G.2.2.1 + 285)) (rd_95 iu_26) dX12_along_50 ?_
          refine lv_bipush (v := iv 10) hx hb dX12_along_53 (by decide) ?_
          refine lv_iload_n hx hb dX12_along_55 rfl (lv_at hl 0 rfl) ?_
          refine r_imul hx hb dX12_along_56 ?_
          refine lv_aload_n hx hb dX12_along_57 rfl (lv_at hl 1 rfl) ?_
          refine g_X12_151 Cx hW (k := 231) (by decide) rfl (v := .ref (G.2.2.1 + 277)) (rd_87 iu_26) dX12_along_58 ?_
          refine lv_iconst (v := iv 0) hx hb dX12_along_61 (by decide) ?_
          refine lv_aload_n hx hb dX12_along_62 rfl (lv_at hl 1 rfl) ?_
          refine g_X12_26 Cx hW (k := 231) (by decide) rfl (v := .ref (G.2.2.1 + 237)) (rd_7 iu_26) dX12_along_63 ?_
          refine lv_iconst (v := iv 0) hx hb dX12_along_66 (by decide) ?_
          refine sBv (sSt (As := [.ref (G.2.2.1 + 285), .int (iv (10 * j)), .ref (G.2.2.1 + 277), .int (iv 0), .ref (G.2.2.1 + 237), .int (iv 0)]) (rest := []) Cx (s_X12_multiply l G u_26 (ka := 285) (po := 10 * j) (kb := 277) (qo := 0) (kc := 237) (ro := 0) (Nka := 140) (Nkb := 4) (Nkc := 68) (La := 7) (Lb := 3) iu_26 ⟨rfl, by decide, by decide, by decide, rfl⟩ ⟨rfl, by decide, by decide, by decide, rfl⟩ ⟨rfl, by decide, by decide, by decide, rfl⟩ (show (237 : Nat) ≠ 277 by decide) (show (237 : Nat) ≠ 285 by decide) (by omega) (by rw [show u_26.2.1 285 = S.2.1 285 from (funext fun j => ((fu_26 285 rfl).2.1 j).trans (((hL9_ 285 rfl).2.1 j).trans (uA_ne (fun h => absurd h.1 (by decide)))))]; exact hPT.1 j (by omega) (by omega)) xu_26.1) (c_X12_548 Cx rfl rfl (rmk_ok (by omega) (by decide))) hW rfl hl.1 rfl (Nat.le_of_ble_eq_true rfl) dX12_along_67 ⟨Nat.le_of_ble_eq_true rfl, Nat.le_of_ble_eq_true rfl⟩) hL (fun u_32 H locs k_33 hW hL => ?_)
          obtain ⟨iu_32, fu_32, xu_32⟩ := k_33
          have F_34 := F_28.trans (fu_32.to (p1_sub rfl))
          have F_35 := F_29.trans (fu_32.to (p1_sub rfl))
          have g_36 : FF S u_32 (fl []) := FF.fr g_30 fu_32 rfl
          have g_37 : FF ((uA S 284 0 0)) u_32 (fl []) := FF.fr g_31 fu_32 rfl
          refine lv_aload_n hx hb dX12_along_70 rfl (lv_at hl 1 rfl) ?_
          refine g_X12_172 Cx hW (k := 231) (by decide) rfl (v := .ref (G.2.2.1 + 284)) (rd_94 iu_32) dX12_along_71 ?_
          refine lv_iconst (v := iv 0) hx hb dX12_along_74 (by decide) ?_
          refine lv_aload_n hx hb dX12_along_75 rfl (lv_at hl 1 rfl) ?_
          refine g_X12_26 Cx hW (k := 231) (by decide) rfl (v := .ref (G.2.2.1 + 237)) (rd_7 iu_32) dX12_along_76 ?_
          refine lv_iconst (v := iv 0) hx hb dX12_along_79 (by decide) ?_
          refine lv_iconst (v := iv 0) hx hb dX12_along_80 (by decide) ?_
          refine lv_aload_n hx hb dX12_along_81 rfl (lv_at hl 1 rfl) ?_
          refine g_X12_172 Cx hW (k := 231) (by decide) rfl (v := .ref (G.2.2.1 + 284)) (rd_94 iu_32) dX12_along_82 ?_
          refine lv_iconst (v := iv 0) hx hb dX12_along_85 (by decide) ?_
          refine sBv (sSt (As := [.ref (G.2.2.1 + 284), .int (iv 0), .ref (G.2.2.1 + 237), .int (iv 0), .int (iv 0), .ref (G.2.2.1 + 284), .int (iv 0)]) (rest := []) Cx (s_X12_add l G u_32 (ka := 284) (po := 0) (kb := 237) (qo := 0) (lz := 0) (kc := 284) (ro := 0) (Nka := 520) (Nkb := 68) (Nkc := 520) (La := 9 + j) (Lb := 10) (Lc := 10 + j) iu_32 ⟨rfl, by decide, by decide, by decide, rfl⟩ ⟨rfl, by decide, by decide, by decide, rfl⟩ ⟨rfl, by decide, by decide, by decide, rfl⟩ (show (284 : Nat) ≠ 237 by decide) (fun _ => rfl) (by omega) (by omega) (by rw [show u_32.2.1 284 = S9.2.1 284 from (funext fun j => ((fu_32 284 rfl).2.1 j).trans ((fu_26 284 rfl).2.1 j))]; exact hs9) xu_32.1) (c_X12_249 Cx rfl rfl (rmk_ok (by omega) (by decide))) hW rfl hl.1 rfl (Nat.le_of_ble_eq_true rfl) dX12_along_86 ⟨Nat.le_of_ble_eq_true rfl, Nat.le_of_ble_eq_true rfl⟩) hL (fun u_38 H locs k_39 hW hL => ?_)
          obtain ⟨iu_38, fu_38, xu_38⟩ := k_39
          have F_40 := F_34.trans (fu_38.to (p1_sub rfl))
          have F_41 := F_35.trans (fu_38.to (p1_sub rfl))
          have g_42 : FF S u_38 (fl []) := FF.fr g_36 fu_38 rfl
          have g_43 : FF ((uA S 284 0 0)) u_38 (fl []) := FF.fr g_37 fu_38 rfl
          refine lv_iinc (v := iv (j + 1)) (lv' := [(2, .int (iv (j + 1))), (0, .ref (G.2.2.1 + 231)), (1, .int (iv k))]) hx hb dX12_along_89 hl (k := 0) rfl ((Int32.ofInt_add _ _).symm) (by decide) rfl (fun ls hl => ?_)
          refine lv_goto (tgt := 9) hx hb dX12_along_92 (by decide) ?_
          exact ih_9 u_38 (j + 1) _ _ _ (by omega) iu_38 F_40 F_41 g_42 g_43 (by omega) (by rw [show 9 + (j + 1) = 10 + j by omega]; exact xu_38.1) hW hL (lv_sub hl [0, 1, 2] rfl)
  exact loop_9 (_ + 1) (uA S 284 0 0) 1 _ _ _ (Nat.lt_succ_self _) i_2 F_1 Fr.rf FF.rf FF.rf (by omega) (NO_z uA_on (by omega)) hW hL (lv_sub hl [0, 1, 2] rfl)

set_option maxRecDepth 100000 in
set_option maxHeartbeats 4000000 in
theorem s_X12_isPoint (l : Launch) (G : sG) (S : sS) {bb : Int} (hI : dX G S) (hbb : 0 ≤ bb ∧ bb ≤ 1) (hm : 0 ≤ S.1 231 46 ∧ S.1 231 46 ≤ 12) (hm2 : 0 ≤ S.1 231 47 ∧ S.1 231 47 ≤ 16) (hPT : dPT S) (hGM : GM S) : Met l yX12_isPoint (.code yX12_isPoint cX12_isPoint 4 (some .boolean) :: tb) (rmk 6 0 0) (sPc G 294 S [.ref (G.2.2.1 + 231), .int (iv bb)]) (sQi G 294 (fun r u => dX G u ∧ Fr S u (pl [233, 234, 235, 237, 240, 277, 284]) ∧ FF S u (fl []) ∧ (0 ≤ r ∧ r ≤ 1))) 0 0 (sF G) := by
  refine sEnter (by decide) (Nat.le_of_ble_eq_true rfl) ?_
  intro p e s m args below meth c Cx hr hlk hnm hW ls hl
  have Cx : sC G p m c cX12_isPoint 4 s args RX12 := Cx
  obtain ⟨hx, hb, hml, hown, hts⟩ := id Cx.1
  have hL : sL G [] := sL_nil
  have hl : lv_has ls 4 [(0, .ref (G.2.2.1 + 231)), (1, .int (iv bb))] := hl
  have hW0 := hW
  refine lv_bipush (v := iv 10) hx hb dX12_isPoint_0 (by decide) ?_
  refine lv_aload_n hx hb dX12_isPoint_2 rfl (lv_at hl 0 rfl) ?_
  have q_1 : (-2147483648) ≤ S.1 231 46 ∧ S.1 231 46 ≤ 2147483647 := hI.fi 46
  refine g_X12_465 Cx hW (k := 231) (by decide) rfl (v := S.1 231 46) rfl dX12_isPoint_3 ?_
  refine lv_iconst (v := iv 1) hx hb dX12_isPoint_6 (by decide) ?_
  refine r_iadd hx hb dX12_isPoint_7 ?_
  refine r_imul hx hb dX12_isPoint_8 ?_
  refine lv_istore_n (lv' := [(2, .int (iv (10 * ((S.1 231 46) + 1)))), (0, .ref (G.2.2.1 + 231)), (1, .int (iv bb))]) hx hb dX12_isPoint_9 rfl hl (by decide) rfl (fun ls hl => ?_)
  refine lv_iconst (v := iv 1) hx hb dX12_isPoint_10 (by decide) ?_
  refine lv_istore_n (lv' := [(3, .int (iv 1)), (2, .int (iv (10 * ((S.1 231 46) + 1)))), (0, .ref (G.2.2.1 + 231)), (1, .int (iv bb))]) hx hb dX12_isPoint_11 rfl hl (by decide) rfl (fun ls hl => ?_)
  have loop_12 : ∀ (fuel : Nat) (S12 : sS) (j : Int) (H : Heap) (locs : List Loc) (ls : Array Slot), (S.1 231 46 + 1 - j).toNat < fuel → (dX G S12) → (Fr S S12 (pl [233, 234, 235, 237, 240, 277, 284])) → (Fr S S12 (pl [233, 234, 235, 237, 240])) → (FF S S12 (fl [])) → (FF S S12 (fl [])) → (1 ≤ j ∧ j ≤ S.1 231 46 + 1) → sW G 294 S12 H → sL G locs → lv_has ls 4 [(3, .int (iv j)), (2, .int (iv (10 * ((S.1 231 46) + 1)))), (0, .ref (G.2.2.1 + 231)), (1, .int (iv bb))] → W p l e (rmk 6 0 0) s m args below meth c H locs 0 0 (MQ below (sQi G 294 (fun r u => dX G u ∧ Fr S u (pl [233, 234, 235, 237, 240, 277, 284]) ∧ FF S u (fl []) ∧ (0 ≤ r ∧ r ≤ 1))) args s 0 0 (sF G)) (F0 m 12 ls []) := by
    intro fuel
    induction fuel with
    | zero => intro S12 j H locs ls hmeas hI12 hFm12 hL12_ hGm12 gL12_ hj hW hL hl; exact absurd hmeas (Nat.not_lt_zero _)
    | succ fuel ih_12 =>
      intro S12 j H locs ls hmeas hI12 hFm12 hL12_ hGm12 gL12_ hj hW hL hl
      refine lv_iload_n hx hb dX12_isPoint_12 rfl (lv_at hl 0 rfl) ?_
      refine lv_aload_n hx hb dX12_isPoint_13 rfl (lv_at hl 2 rfl) ?_
      refine g_X12_465 Cx hW (k := 231) (by decide) rfl (v := S.1 231 46) (gL12_ 46 rfl) dX12_isPoint_14 ?_
      refine r_icmp_gt (tgt := 94) hx hb ⟨(by omega), (by omega)⟩ ⟨(by omega), (by omega)⟩ dX12_isPoint_17 (by decide) (fun c_2 => ?_) (fun c_2 => ?_)
      · refine lv_iconst (v := iv 1) hx hb dX12_isPoint_94 (by decide) ?_
        refine lv_istore_n (lv' := [(3, .int (iv 1)), (2, .int (iv (10 * ((S.1 231 46) + 1)))), (0, .ref (G.2.2.1 + 231)), (1, .int (iv bb))]) hx hb dX12_isPoint_95 rfl hl (by decide) rfl (fun ls hl => ?_)
        have loop_96 : ∀ (fuel : Nat) (S96 : sS) (i : Int) (H : Heap) (locs : List Loc) (ls : Array Slot), (S.1 231 47 + 1 - i).toNat < fuel → (dX G S96) → (Fr S S96 (pl [233, 234, 235, 237, 240, 277, 284])) → (Fr S12 S96 (pl [233, 234, 235, 237, 240, 277, 284])) → (FF S S96 (fl [])) → (FF S12 S96 (fl [])) → (1 ≤ i ∧ i ≤ S.1 231 47 + 1) → sW G 294 S96 H → sL G locs → lv_has ls 4 [(3, .int (iv i)), (2, .int (iv (10 * ((S.1 231 46) + 1)))), (0, .ref (G.2.2.1 + 231)), (1, .int (iv bb))] → W p l e (rmk 6 0 0) s m args below meth c H locs 0 0 (MQ below (sQi G 294 (fun r u => dX G u ∧ Fr S u (pl [233, 234, 235, 237, 240, 277, 284]) ∧ FF S u (fl []) ∧ (0 ≤ r ∧ r ≤ 1))) args s 0 0 (sF G)) (F0 m 96 ls []) := by
          intro fuel
          induction fuel with
          | zero => intro S96 i H locs ls hmeas hI96 hFm96 hL96_ hGm96 gL96_ hi hW hL hl; exact absurd hmeas (Nat.not_lt_zero _)
          | succ fuel ih_96 =>
            intro S96 i H locs ls hmeas hI96 hFm96 hL96_ hGm96 gL96_ hi hW hL hl
            refine lv_iload_n hx hb dX12_isPoint_96 rfl (lv_at hl 0 rfl) ?_
            refine lv_aload_n hx hb dX12_isPoint_97 rfl (lv_at hl 2 rfl) ?_
            have q_3 : (-2147483648) ≤ S.1 231 47 ∧ S.1 231 47 ≤ 2147483647 := hI.fi 47
            refine g_X12_468 Cx hW (k := 231) (by decide) rfl (v := S.1 231 47) ((gL96_ 47 rfl).trans (gL12_ 47 rfl)) dX12_isPoint_98 ?_
            refine r_icmp_gt (tgt := 168) hx hb ⟨(by omega), (by omega)⟩ ⟨(by omega), (by omega)⟩ dX12_isPoint_101 (by decide) (fun c_4 => ?_) (fun c_4 => ?_)
            · refine lv_iconst (v := iv 1) hx hb dX12_isPoint_168 (by decide) ?_
              exact sZret Cx hr hlk hW hL (by omega) ⟨hI96, hFm96, hGm96, (by omega)⟩ dX12_isPoint_169
            · refine lv_aload_n hx hb dX12_isPoint_104 rfl (lv_at hl 2 rfl) ?_
              refine lv_iload_n hx hb dX12_isPoint_105 rfl (lv_at hl 0 rfl) ?_
              have lk_5 : S96.1 231 46 = S.1 231 46 := (gL96_ 46 rfl).trans (gL12_ 46 rfl)
              refine sBv (sV (As := [.int (iv i)]) (rest := []) (k := 231) Cx (s_X12_along l G S96 (k := i) hI96 (by omega) (by omega) (dPT.sm (S := S) (u := S96) hPT ((gL96_ 46 rfl).trans (gL12_ 46 rfl)) (funext fun j => ((hL96_ 285 rfl).2.1 j).trans ((hL12_ 285 rfl).2.1 j))) (GM.sm (S := S) (u := S96) hGM (funext fun j => ((hL96_ 260 rfl).2.2.1 j).trans ((hL12_ 260 rfl).2.2.1 j)) (funext fun j => ((hL96_ 290 rfl).2.2.1 j).trans ((hL12_ 290 rfl).2.2.1 j)))) (c_X12_707 Cx rfl rfl (rmk_ok (by omega) (by decide))) hW (by decide) rfl rfl rfl hl.1 rfl (Nat.le_of_ble_eq_true rfl) dX12_isPoint_106 ⟨Nat.le_of_ble_eq_true rfl, Nat.le_of_ble_eq_true rfl⟩) hL (fun u_6 H locs k_7 hW hL => ?_)
              obtain ⟨iu_6, fu_6, gu_6, xu_6⟩ := k_7
              have F_8 := hFm96.trans (fu_6.to (pl_sub (by decide)))
              have F_9 := hL96_.trans (fu_6.to (pl_sub (by decide)))
              have g_10 : FF S u_6 (fl []) := FF.trans hGm96 (FF.to gu_6 (fl_sub (by decide)))
              have g_11 : FF S12 u_6 (fl []) := FF.trans gL96_ (FF.to gu_6 (fl_sub (by decide)))
              refine lv_aload_n hx hb dX12_isPoint_109 rfl (lv_at hl 2 rfl) ?_
              refine g_X12_151 Cx hW (k := 231) (by decide) rfl (v := .ref (G.2.2.1 + 277)) (rd_87 iu_6) dX12_isPoint_110 ?_
              refine lv_iconst (v := iv 0) hx hb dX12_isPoint_113 (by decide) ?_
              have hgv := hGM.2 (13 * i)
              refine lv_aload_n hx hb dX12_isPoint_114 rfl (lv_at hl 2 rfl) ?_
              refine g_X12_190 Cx hW (k := 231) (by decide) rfl (v := .ref (G.2.2.1 + 290)) (rd_101 iu_6) dX12_isPoint_115 ?_
              refine lv_bipush (v := iv 13) hx hb dX12_isPoint_118 (by decide) ?_
              refine lv_iload_n hx hb dX12_isPoint_120 rfl (lv_at hl 0 rfl) ?_
              refine r_imul hx hb dX12_isPoint_121 ?_
              refine rLald Cx hW (k := 290) (by decide) rfl (by decide) (by omega) (by omega) dX12_isPoint_122 ?_
              have q_12 : -9223372036854775808 ≤ S.2.2.1 290 (13 * i) ∧ S.2.2.1 290 (13 * i) ≤ 9223372036854775807 := hI.li 290 (13 * i)
              refine r_j (b := S.2.2.1 290 (13 * i)) (((fu_6 290 rfl).2.2.1 (13 * i)).trans (((hL96_ 290 rfl).2.2.1 (13 * i)).trans ((hL12_ 290 rfl).2.2.1 (13 * i)))) ?_
              refine sBv (sSt (As := [.ref (G.2.2.1 + 277), .int (iv 0), .long (jv (S.2.2.1 290 (13 * i)))]) (rest := []) Cx (s_X12_put l G u_6 (ka := 277) (po := 0) (v := S.2.2.1 290 (13 * i)) (Nka := 4) iu_6 ⟨rfl, by decide, by decide, by decide, rfl⟩ (by omega) (by omega)) (c_X12_241 Cx rfl rfl (rmk_ok (by omega) (by decide))) hW rfl hl.1 rfl (Nat.le_of_ble_eq_true rfl) dX12_isPoint_123 ⟨Nat.le_of_ble_eq_true rfl, Nat.le_of_ble_eq_true rfl⟩) hL (fun u_13 H locs k_14 hW hL => ?_)
              obtain ⟨iu_13, fu_13, xu_13⟩ := k_14
              have F_15 := F_8.trans (fu_13.to (p1_sub rfl))
              have F_16 := F_9.trans (fu_13.to (p1_sub rfl))
              have g_17 : FF S u_13 (fl []) := FF.fr g_10 fu_13 rfl
              have g_18 : FF S12 u_13 (fl []) := FF.fr g_11 fu_13 rfl
              refine lv_aload_n hx hb dX12_isPoint_126 rfl (lv_at hl 2 rfl) ?_
              refine g_X12_175 Cx hW (k := 231) (by decide) rfl (v := .ref (G.2.2.1 + 285)) (rd_95 iu_13) dX12_isPoint_127 ?_
              refine lv_iload_n hx hb dX12_isPoint_130 rfl (lv_at hl 1 rfl) ?_
              refine lv_aload_n hx hb dX12_isPoint_131 rfl (lv_at hl 2 rfl) ?_
              refine g_X12_151 Cx hW (k := 231) (by decide) rfl (v := .ref (G.2.2.1 + 277)) (rd_87 iu_13) dX12_isPoint_132 ?_
              refine lv_iconst (v := iv 0) hx hb dX12_isPoint_135 (by decide) ?_
              refine lv_aload_n hx hb dX12_isPoint_136 rfl (lv_at hl 2 rfl) ?_
              refine g_X12_26 Cx hW (k := 231) (by decide) rfl (v := .ref (G.2.2.1 + 237)) (rd_7 iu_13) dX12_isPoint_137 ?_
              refine lv_iconst (v := iv 0) hx hb dX12_isPoint_140 (by decide) ?_
              refine sBv (sSt (As := [.ref (G.2.2.1 + 285), .int (iv (10 * ((S.1 231 46) + 1))), .ref (G.2.2.1 + 277), .int (iv 0), .ref (G.2.2.1 + 237), .int (iv 0)]) (rest := []) Cx (s_X12_multiply l G u_13 (ka := 285) (po := 10 * ((S.1 231 46) + 1)) (kb := 277) (qo := 0) (kc := 237) (ro := 0) (Nka := 140) (Nkb := 4) (Nkc := 68) (La := 7) (Lb := 3) iu_13 ⟨rfl, by decide, by decide, by decide, rfl⟩ ⟨rfl, by decide, by decide, by decide, rfl⟩ ⟨rfl, by decide, by decide, by decide, rfl⟩ (show (237 : Nat) ≠ 277 by decide) (show (237 : Nat) ≠ 285 by decide) (by omega) (by rw [show u_13.2.1 285 = S.2.1 285 from (funext fun j => ((fu_13 285 rfl).2.1 j).trans (((fu_6 285 rfl).2.1 j).trans (((hL96_ 285 rfl).2.1 j).trans ((hL12_ 285 rfl).2.1 j))))]; exact hPT.1 (S.1 231 46 + 1) (by omega) (by omega)) xu_13.1) (c_X12_548 Cx rfl rfl (rmk_ok (by omega) (by decide))) hW rfl hl.1 rfl (Nat.le_of_ble_eq_true rfl) dX12_isPoint_141 ⟨Nat.le_of_ble_eq_true rfl, Nat.le_of_ble_eq_true rfl⟩) hL (fun u_19 H locs k_20 hW hL => ?_)
              obtain ⟨iu_19, fu_19, xu_19⟩ := k_20
              have F_21 := F_15.trans (fu_19.to (p1_sub rfl))
              have F_22 := F_16.trans (fu_19.to (p1_sub rfl))
              have g_23 : FF S u_19 (fl []) := FF.fr g_17 fu_19 rfl
              have g_24 : FF S12 u_19 (fl []) := FF.fr g_18 fu_19 rfl
              refine lv_aload_n hx hb dX12_isPoint_144 rfl (lv_at hl 2 rfl) ?_
              refine g_X12_172 Cx hW (k := 231) (by decide) rfl (v := .ref (G.2.2.1 + 284)) (rd_94 iu_19) dX12_isPoint_145 ?_
              refine lv_iconst (v := iv 0) hx hb dX12_isPoint_148 (by decide) ?_
              refine lv_aload_n hx hb dX12_isPoint_149 rfl (lv_at hl 2 rfl) ?_
              refine g_X12_26 Cx hW (k := 231) (by decide) rfl (v := .ref (G.2.2.1 + 237)) (rd_7 iu_19) dX12_isPoint_150 ?_
              refine lv_iconst (v := iv 0) hx hb dX12_isPoint_153 (by decide) ?_
              refine sBi (sSt (As := [.ref (G.2.2.1 + 284), .int (iv 0), .ref (G.2.2.1 + 237), .int (iv 0)]) (rest := []) Cx (s_X12_compare l G u_19 (ka := 284) (po := 0) (kb := 237) (qo := 0) (Nka := 520) (Nkb := 68) (La := 23) (Lb := 10) iu_19 ⟨rfl, by decide, by decide, by decide, rfl⟩ ⟨rfl, by decide, by decide, by decide, rfl⟩ (by omega) (by rw [show u_19.2.1 284 = u_6.2.1 284 from (funext fun j => ((fu_19 284 rfl).2.1 j).trans ((fu_13 284 rfl).2.1 j))]; exact xu_6) xu_19.1) (c_X12_552 Cx rfl rfl (rmk_ok (by omega) (by decide))) hW rfl hl.1 rfl (Nat.le_of_ble_eq_true rfl) dX12_isPoint_154 ⟨Nat.le_of_ble_eq_true rfl, Nat.le_of_ble_eq_true rfl⟩) hL (fun r_27 u_25 H locs k_26 hW hL => ?_)
              obtain ⟨eu_25, xu_25⟩ := k_26
              rw [eu_25] at hW
              have yu_25 := xu_25.2
              unfold Hd at yu_25
              refine r_if_le (tgt := 162) hx hb ⟨(by omega), (by omega)⟩ dX12_isPoint_157 (by decide) (fun c_28 => ?_) (fun c_28 => ?_)
              · refine lv_iinc (v := iv (i + 1)) (lv' := [(3, .int (iv (i + 1))), (2, .int (iv (10 * ((S.1 231 46) + 1)))), (0, .ref (G.2.2.1 + 231)), (1, .int (iv bb))]) hx hb dX12_isPoint_162 hl (k := 0) rfl ((Int32.ofInt_add _ _).symm) (by decide) rfl (fun ls hl => ?_)
                refine lv_goto (tgt := 96) hx hb dX12_isPoint_165 (by decide) ?_
                exact ih_96 u_19 (i + 1) _ _ _ (by omega) iu_19 F_21 F_22 g_23 g_24 (by omega) hW hL (lv_sub hl [0, 1, 2, 3] rfl)
              · refine lv_iconst (v := iv 0) hx hb dX12_isPoint_160 (by decide) ?_
                exact sZret Cx hr hlk hW hL (by omega) ⟨iu_19, F_21, g_23, (by omega)⟩ dX12_isPoint_161
        exact loop_96 (_ + 1) S12 1 _ _ _ (Nat.lt_succ_self _) hI12 hFm12 Fr.rf hGm12 FF.rf (by omega) hW hL (lv_sub hl [0, 1, 2, 3] rfl)
      · refine lv_aload_n hx hb dX12_isPoint_20 rfl (lv_at hl 2 rfl) ?_
        refine g_X12_175 Cx hW (k := 231) (by decide) rfl (v := .ref (G.2.2.1 + 285)) (rd_95 hI12) dX12_isPoint_21 ?_
        refine lv_bipush (v := iv 10) hx hb dX12_isPoint_24 (by decide) ?_
        refine lv_iload_n hx hb dX12_isPoint_26 rfl (lv_at hl 0 rfl) ?_
        refine r_imul hx hb dX12_isPoint_27 ?_
        refine rIald Cx hW (k := 285) (by decide) rfl (by decide) (by omega) (by omega) dX12_isPoint_28 ?_
        have q_29 : (-2147483648) ≤ S.2.1 285 (10 * j) ∧ S.2.1 285 (10 * j) ≤ 2147483647 := hI.ai 285 (10 * j)
        refine r_i (b := S.2.1 285 (10 * j)) ((hL12_ 285 rfl).2.1 (10 * j)) ?_
        refine r_if_ge (tgt := 34) hx hb ⟨(by omega), (by omega)⟩ dX12_isPoint_29 (by decide) (fun c_30 => ?_) (fun c_30 => ?_)
        · have join_88 : ∀ (S88 : sS)  (H : Heap) (locs : List Loc) (ls : Array Slot), (dX G S88) → (Fr S S88 (pl [233, 234, 235, 237, 240, 277, 284])) → (Fr S S88 (pl [233, 234, 235, 237, 240])) → (Fr S12 S88 (pl [233, 234, 235, 237, 240])) → (FF S S88 (fl [])) → (FF S S88 (fl [])) → (FF S12 S88 (fl [])) → sW G 294 S88 H → sL G locs → lv_has ls 4 [(3, .int (iv j)), (2, .int (iv (10 * ((S.1 231 46) + 1)))), (0, .ref (G.2.2.1 + 231)), (1, .int (iv bb))] → W p l e (rmk 6 0 0) s m args below meth c H locs 0 0 (MQ below (sQi G 294 (fun r u => dX G u ∧ Fr S u (pl [233, 234, 235, 237, 240, 277, 284]) ∧ FF S u (fl []) ∧ (0 ≤ r ∧ r ≤ 1))) args s 0 0 (sF G)) (F0 m 88 ls []) := by
            intro S88  H locs ls hI88 hFm88 hFL1288 hL88_ hGm88 hGL1288 gL88_ hW hL hl
            refine lv_iinc (v := iv (j + 1)) (lv' := [(3, .int (iv (j + 1))), (2, .int (iv (10 * ((S.1 231 46) + 1)))), (0, .ref (G.2.2.1 + 231)), (1, .int (iv bb))]) hx hb dX12_isPoint_88 hl (k := 0) rfl ((Int32.ofInt_add _ _).symm) (by decide) rfl (fun ls hl => ?_)
            refine lv_goto (tgt := 12) hx hb dX12_isPoint_91 (by decide) ?_
            exact ih_12 S88 (j + 1) _ _ _ (by omega) hI88 hFm88 hFL1288 hGm88 hGL1288 (by omega) hW hL (lv_sub hl [0, 1, 2, 3] rfl)
          refine lv_iload_n hx hb dX12_isPoint_34 rfl (lv_at hl 3 rfl) ?_
          refine r_if_eq (tgt := 88) hx hb ⟨(by omega), (by omega)⟩ dX12_isPoint_35 (by decide) (fun c_31 => ?_) (fun c_31 => ?_)
          · exact join_88 S12  _ _ _ hI12 hFm12 hL12_ (Fr.rf : Fr S12 S12 (pl [233, 234, 235, 237, 240])) hGm12 gL12_ (FF.rf : FF S12 S12 (fl [])) hW hL (lv_sub hl [0, 1, 2, 3] rfl)
          · refine lv_aload_n hx hb dX12_isPoint_38 rfl (lv_at hl 2 rfl) ?_
            refine g_X12_94 Cx hW (k := 231) (by decide) rfl (v := .ref (G.2.2.1 + 259)) (rd_50 hI12) dX12_isPoint_39 ?_
            refine lv_iload_n hx hb dX12_isPoint_42 rfl (lv_at hl 0 rfl) ?_
            refine rZald Cx hW (k := 259) (by decide) rfl (by decide) (by omega) (by omega) dX12_isPoint_43 ?_
            have q_32 : 0 ≤ S.2.1 259 j ∧ S.2.1 259 j ≤ 1 := hI.ai 259 j
            refine r_i (b := S.2.1 259 j) ((hL12_ 259 rfl).2.1 j) ?_
            refine r_if_ne (tgt := 50) hx hb ⟨(by omega), (by omega)⟩ dX12_isPoint_44 (by decide) (fun c_33 => ?_) (fun c_33 => ?_)
            · have hbp50 : 0 < S12.2.1 285 (10 * (S.1 231 46 + 1)) := by rw [show S12.2.1 285 = S.2.1 285 from (funext fun j => (hL12_ 285 rfl).2.1 j)]; exact (hPT.1 (S.1 231 46 + 1) (by omega) (by omega)).sgn.2.1.mp hPT.2
              refine lv_aload_n hx hb dX12_isPoint_50 rfl (lv_at hl 2 rfl) ?_
              refine lv_aload_n hx hb dX12_isPoint_51 rfl (lv_at hl 2 rfl) ?_
              refine g_X12_175 Cx hW (k := 231) (by decide) rfl (v := .ref (G.2.2.1 + 285)) (rd_95 hI12) dX12_isPoint_52 ?_
              refine lv_bipush (v := iv 10) hx hb dX12_isPoint_55 (by decide) ?_
              refine lv_iload_n hx hb dX12_isPoint_57 rfl (lv_at hl 0 rfl) ?_
              refine r_imul hx hb dX12_isPoint_58 ?_
              refine lv_aload_n hx hb dX12_isPoint_59 rfl (lv_at hl 2 rfl) ?_
              refine g_X12_175 Cx hW (k := 231) (by decide) rfl (v := .ref (G.2.2.1 + 285)) (rd_95 hI12) dX12_isPoint_60 ?_
              refine lv_iload_n hx hb dX12_isPoint_63 rfl (lv_at hl 1 rfl) ?_
              refine lv_aload_n hx hb dX12_isPoint_64 rfl (lv_at hl 2 rfl) ?_
              refine g_X12_26 Cx hW (k := 231) (by decide) rfl (v := .ref (G.2.2.1 + 237)) (rd_7 hI12) dX12_isPoint_65 ?_
              refine lv_iconst (v := iv 0) hx hb dX12_isPoint_68 (by decide) ?_
              refine lv_aload_n hx hb dX12_isPoint_69 rfl (lv_at hl 2 rfl) ?_
              refine g_X12_35 Cx hW (k := 231) (by decide) rfl (v := .ref (G.2.2.1 + 240)) (rd_10 hI12) dX12_isPoint_70 ?_
              refine lv_iconst (v := iv 0) hx hb dX12_isPoint_73 (by decide) ?_
              refine sBv (sV (As := [.ref (G.2.2.1 + 285), .int (iv (10 * j)), .ref (G.2.2.1 + 285), .int (iv (10 * ((S.1 231 46) + 1))), .ref (G.2.2.1 + 237), .int (iv 0), .ref (G.2.2.1 + 240), .int (iv 0)]) (rest := []) (k := 231) Cx (s_X12_divide l G S12 (ka := 285) (po := 10 * j) (kb := 285) (qo := 10 * ((S.1 231 46) + 1)) (kc := 237) (ro := 0) (kd := 240) (eo := 0) (Nka := 140) (Nkb := 140) (Nkc := 68) (Nkd := 68) (La := 7) (Lb := 7) (Ld := 8) hI12 ⟨rfl, by decide, by decide, by decide, rfl⟩ ⟨rfl, by decide, by decide, by decide, rfl⟩ ⟨rfl, by decide, by decide, by decide, rfl⟩ ⟨rfl, by decide, by decide, by decide, rfl⟩ (show (237 : Nat) ≠ 285 by decide) (show (240 : Nat) ≠ 285 by decide) (show (237 : Nat) ≠ 285 by decide) (show (240 : Nat) ≠ 285 by decide) (show (237 : Nat) ≠ 240 by decide) (show (285 : Nat) ≠ 233 by decide) (show (285 : Nat) ≠ 233 by decide) (show (285 : Nat) ≠ 234 by decide) (show (285 : Nat) ≠ 235 by decide) (show (237 : Nat) ≠ 233 by decide) (show (237 : Nat) ≠ 234 by decide) (show (237 : Nat) ≠ 235 by decide) (show (240 : Nat) ≠ 233 by decide) (show (240 : Nat) ≠ 234 by decide) (show (240 : Nat) ≠ 235 by decide) (by omega) (by omega) (by rw [show S12.2.1 285 = S.2.1 285 from (funext fun j => (hL12_ 285 rfl).2.1 j)]; exact hPT.1 j (by omega) (by omega)) (by rw [show S12.2.1 285 = S.2.1 285 from (funext fun j => (hL12_ 285 rfl).2.1 j)]; exact hPT.1 (S.1 231 46 + 1) (by omega) (by omega))) (c_X12_266 Cx rfl rfl (rmk_ok (by omega) (by decide))) hW (by decide) rfl rfl rfl hl.1 rfl (Nat.le_of_ble_eq_true rfl) dX12_isPoint_74 ⟨Nat.le_of_ble_eq_true rfl, Nat.le_of_ble_eq_true rfl⟩) hL (fun u_34 H locs k_35 hW hL => ?_)
              obtain ⟨iu_34, fu_34, xu_34⟩ := k_35
              have F_36 := hFm12.trans (fu_34.to (pl_sub (by decide)))
              have F_37 := hL12_.trans fu_34
              have F_38 := (Fr.rf : Fr S12 S12 (pl [233, 234, 235, 237, 240])).trans fu_34
              have g_39 : FF S u_34 (fl []) := FF.fr hGm12 fu_34 rfl
              have g_40 : FF S u_34 (fl []) := FF.fr gL12_ fu_34 rfl
              have g_41 : FF S12 u_34 (fl []) := FF.fr (FF.rf : FF S12 S12 (fl [])) fu_34 rfl
              refine lv_aload_n hx hb dX12_isPoint_77 rfl (lv_at hl 2 rfl) ?_
              refine g_X12_35 Cx hW (k := 231) (by decide) rfl (v := .ref (G.2.2.1 + 240)) (rd_10 iu_34) dX12_isPoint_78 ?_
              refine lv_iconst (v := iv 0) hx hb dX12_isPoint_81 (by decide) ?_
              refine rIald Cx hW (k := 240) (by decide) rfl (by decide) (by omega) (by omega) dX12_isPoint_82 ?_
              have q_42 : (-2147483648) ≤ u_34.2.1 240 0 ∧ u_34.2.1 240 0 ≤ 2147483647 := iu_34.ai 240 0
              refine r_i (b := u_34.2.1 240 0) rfl ?_
              refine r_if_eq (tgt := 88) hx hb ⟨(by omega), (by omega)⟩ dX12_isPoint_83 (by decide) (fun c_43 => ?_) (fun c_43 => ?_)
              · exact join_88 u_34  _ _ _ iu_34 F_36 F_37 F_38 g_39 g_40 g_41 hW hL (lv_sub hl [0, 1, 2, 3] rfl)
              · refine lv_iconst (v := iv 0) hx hb dX12_isPoint_86 (by decide) ?_
                exact sZret Cx hr hlk hW hL (by omega) ⟨iu_34, F_36, g_39, (by omega)⟩ dX12_isPoint_87
            · refine lv_goto (tgt := 88) hx hb dX12_isPoint_47 (by decide) ?_
              exact join_88 S12  _ _ _ hI12 hFm12 hL12_ (Fr.rf : Fr S12 S12 (pl [233, 234, 235, 237, 240])) hGm12 gL12_ (FF.rf : FF S12 S12 (fl [])) hW hL (lv_sub hl [0, 1, 2, 3] rfl)
        · refine lv_iconst (v := iv 0) hx hb dX12_isPoint_32 (by decide) ?_
          exact sZret Cx hr hlk hW hL (by omega) ⟨hI12, hFm12, hGm12, (by omega)⟩ dX12_isPoint_33
  exact loop_12 (_ + 1) S 1 _ _ _ (Nat.lt_succ_self _) hI (Fr.rf : Fr S S (pl [233, 234, 235, 237, 240, 277, 284])) Fr.rf FF.rf FF.rf (by omega) hW hL (lv_sub hl [0, 1, 2, 3] rfl)

set_option maxRecDepth 100000 in
set_option maxHeartbeats 4000000 in
theorem s_X12_isValue (l : Launch) (G : sG) (S : sS)  (hI : dX G S) (hm : 0 ≤ S.1 231 46 ∧ S.1 231 46 ≤ 12) (hPT : dPT S) (hUP : dUP S) (hGM : GM S) : Met l yX12_isValue (.code yX12_isValue cX12_isValue 2 (some .boolean) :: tb) (rmk 6 0 0) (sPc G 294 S [.ref (G.2.2.1 + 231)]) (sQi G 294 (fun r u => dX G u ∧ Fr S u (pl [237, 238, 277, 284]) ∧ FF S u (fl []) ∧ (0 ≤ r ∧ r ≤ 1))) 0 0 (sF G) := by
  refine sEnter (by decide) (Nat.le_of_ble_eq_true rfl) ?_
  intro p e s m args below meth c Cx hr hlk hnm hW ls hl
  have Cx : sC G p m c cX12_isValue 2 s args RX12 := Cx
  obtain ⟨hx, hb, hml, hown, hts⟩ := id Cx.1
  have hL : sL G [] := sL_nil
  have hl : lv_has ls 2 [(0, .ref (G.2.2.1 + 231))] := hl
  have hW0 := hW
  refine lv_bipush (v := iv 10) hx hb dX12_isValue_0 (by decide) ?_
  refine lv_aload_n hx hb dX12_isValue_2 rfl (lv_at hl 0 rfl) ?_
  have q_1 : (-2147483648) ≤ S.1 231 46 ∧ S.1 231 46 ≤ 2147483647 := hI.fi 46
  refine g_X12_465 Cx hW (k := 231) (by decide) rfl (v := S.1 231 46) rfl dX12_isValue_3 ?_
  refine lv_iconst (v := iv 1) hx hb dX12_isValue_6 (by decide) ?_
  refine r_iadd hx hb dX12_isValue_7 ?_
  refine r_imul hx hb dX12_isValue_8 ?_
  refine lv_istore_n (lv' := [(1, .int (iv (10 * ((S.1 231 46) + 1)))), (0, .ref (G.2.2.1 + 231))]) hx hb dX12_isValue_9 rfl hl (by decide) rfl (fun ls hl => ?_)
  refine lv_aload_n hx hb dX12_isValue_10 rfl (lv_at hl 1 rfl) ?_
  refine lv_iconst (v := iv 0) hx hb dX12_isValue_11 (by decide) ?_
  refine sBv (sV (As := [.int (iv 0)]) (rest := []) (k := 231) Cx (s_X12_along l G S (k := 0) hI (by omega) (by omega) hPT hGM) (c_X12_707 Cx rfl rfl (rmk_ok (by omega) (by decide))) hW (by decide) rfl rfl rfl hl.1 rfl (Nat.le_of_ble_eq_true rfl) dX12_isValue_12 ⟨Nat.le_of_ble_eq_true rfl, Nat.le_of_ble_eq_true rfl⟩) hL (fun u_2 H locs k_3 hW hL => ?_)
  obtain ⟨iu_2, fu_2, gu_2, xu_2⟩ := k_3
  have F_4 := (Fr.rf : Fr S S (pl [237, 238, 277, 284])).trans (fu_2.to (pl_sub (by decide)))
  have g_5 : FF S u_2 (fl []) := FF.trans FF.rf (FF.to gu_2 (fl_sub (by decide)))
  have hgv := hGM.1 0
  refine lv_aload_n hx hb dX12_isValue_15 rfl (lv_at hl 1 rfl) ?_
  refine g_X12_151 Cx hW (k := 231) (by decide) rfl (v := .ref (G.2.2.1 + 277)) (rd_87 iu_2) dX12_isValue_16 ?_
  refine lv_iconst (v := iv 0) hx hb dX12_isValue_19 (by decide) ?_
  refine lv_aload_n hx hb dX12_isValue_20 rfl (lv_at hl 1 rfl) ?_
  refine g_X12_97 Cx hW (k := 231) (by decide) rfl (v := .ref (G.2.2.1 + 260)) (rd_51 iu_2) dX12_isValue_21 ?_
  refine lv_iconst (v := iv 0) hx hb dX12_isValue_24 (by decide) ?_
  refine rLald Cx hW (k := 260) (by decide) rfl (by decide) (by omega) (by omega) dX12_isValue_25 ?_
  have q_6 : -9223372036854775808 ≤ S.2.2.1 260 0 ∧ S.2.2.1 260 0 ≤ 9223372036854775807 := hI.li 260 0
  refine r_j (b := S.2.2.1 260 0) ((fu_2 260 rfl).2.2.1 0) ?_
  refine sBv (sSt (As := [.ref (G.2.2.1 + 277), .int (iv 0), .long (jv (S.2.2.1 260 0))]) (rest := []) Cx (s_X12_put l G u_2 (ka := 277) (po := 0) (v := S.2.2.1 260 0) (Nka := 4) iu_2 ⟨rfl, by decide, by decide, by decide, rfl⟩ (by omega) (by omega)) (c_X12_241 Cx rfl rfl (rmk_ok (by omega) (by decide))) hW rfl hl.1 rfl (Nat.le_of_ble_eq_true rfl) dX12_isValue_26 ⟨Nat.le_of_ble_eq_true rfl, Nat.le_of_ble_eq_true rfl⟩) hL (fun u_7 H locs k_8 hW hL => ?_)
  obtain ⟨iu_7, fu_7, xu_7⟩ := k_8
  have F_9 := F_4.trans (fu_7.to (p1_sub rfl))
  have g_10 : FF S u_7 (fl []) := FF.fr g_5 fu_7 rfl
  refine lv_aload_n hx hb dX12_isValue_29 rfl (lv_at hl 1 rfl) ?_
  refine g_X12_175 Cx hW (k := 231) (by decide) rfl (v := .ref (G.2.2.1 + 285)) (rd_95 iu_7) dX12_isValue_30 ?_
  refine lv_iload_n hx hb dX12_isValue_33 rfl (lv_at hl 0 rfl) ?_
  refine lv_aload_n hx hb dX12_isValue_34 rfl (lv_at hl 1 rfl) ?_
  refine g_X12_151 Cx hW (k := 231) (by decide) rfl (v := .ref (G.2.2.1 + 277)) (rd_87 iu_7) dX12_isValue_35 ?_
  refine lv_iconst (v := iv 0) hx hb dX12_isValue_38 (by decide) ?_
  refine lv_aload_n hx hb dX12_isValue_39 rfl (lv_at hl 1 rfl) ?_
  refine g_X12_26 Cx hW (k := 231) (by decide) rfl (v := .ref (G.2.2.1 + 237)) (rd_7 iu_7) dX12_isValue_40 ?_
  refine lv_iconst (v := iv 0) hx hb dX12_isValue_43 (by decide) ?_
  refine sBv (sSt (As := [.ref (G.2.2.1 + 285), .int (iv (10 * ((S.1 231 46) + 1))), .ref (G.2.2.1 + 277), .int (iv 0), .ref (G.2.2.1 + 237), .int (iv 0)]) (rest := []) Cx (s_X12_multiply l G u_7 (ka := 285) (po := 10 * ((S.1 231 46) + 1)) (kb := 277) (qo := 0) (kc := 237) (ro := 0) (Nka := 140) (Nkb := 4) (Nkc := 68) (La := 7) (Lb := 3) iu_7 ⟨rfl, by decide, by decide, by decide, rfl⟩ ⟨rfl, by decide, by decide, by decide, rfl⟩ ⟨rfl, by decide, by decide, by decide, rfl⟩ (show (237 : Nat) ≠ 277 by decide) (show (237 : Nat) ≠ 285 by decide) (by omega) (by rw [show u_7.2.1 285 = S.2.1 285 from (funext fun j => ((fu_7 285 rfl).2.1 j).trans ((fu_2 285 rfl).2.1 j))]; exact hPT.1 (S.1 231 46 + 1) (by omega) (by omega)) xu_7.1) (c_X12_548 Cx rfl rfl (rmk_ok (by omega) (by decide))) hW rfl hl.1 rfl (Nat.le_of_ble_eq_true rfl) dX12_isValue_44 ⟨Nat.le_of_ble_eq_true rfl, Nat.le_of_ble_eq_true rfl⟩) hL (fun u_11 H locs k_12 hW hL => ?_)
  obtain ⟨iu_11, fu_11, xu_11⟩ := k_12
  have F_13 := F_9.trans (fu_11.to (p1_sub rfl))
  have g_14 : FF S u_11 (fl []) := FF.fr g_10 fu_11 rfl
  refine lv_aload_n hx hb dX12_isValue_47 rfl (lv_at hl 1 rfl) ?_
  refine g_X12_172 Cx hW (k := 231) (by decide) rfl (v := .ref (G.2.2.1 + 284)) (rd_94 iu_11) dX12_isValue_48 ?_
  refine lv_iconst (v := iv 0) hx hb dX12_isValue_51 (by decide) ?_
  refine lv_aload_n hx hb dX12_isValue_52 rfl (lv_at hl 1 rfl) ?_
  refine g_X12_26 Cx hW (k := 231) (by decide) rfl (v := .ref (G.2.2.1 + 237)) (rd_7 iu_11) dX12_isValue_53 ?_
  refine lv_iconst (v := iv 0) hx hb dX12_isValue_56 (by decide) ?_
  refine lv_iconst (v := iv 0) hx hb dX12_isValue_57 (by decide) ?_
  refine lv_aload_n hx hb dX12_isValue_58 rfl (lv_at hl 1 rfl) ?_
  refine g_X12_172 Cx hW (k := 231) (by decide) rfl (v := .ref (G.2.2.1 + 284)) (rd_94 iu_11) dX12_isValue_59 ?_
  refine lv_iconst (v := iv 0) hx hb dX12_isValue_62 (by decide) ?_
  refine sBv (sSt (As := [.ref (G.2.2.1 + 284), .int (iv 0), .ref (G.2.2.1 + 237), .int (iv 0), .int (iv 0), .ref (G.2.2.1 + 284), .int (iv 0)]) (rest := []) Cx (s_X12_add l G u_11 (ka := 284) (po := 0) (kb := 237) (qo := 0) (lz := 0) (kc := 284) (ro := 0) (Nka := 520) (Nkb := 68) (Nkc := 520) (La := 23) (Lb := 10) (Lc := 24) iu_11 ⟨rfl, by decide, by decide, by decide, rfl⟩ ⟨rfl, by decide, by decide, by decide, rfl⟩ ⟨rfl, by decide, by decide, by decide, rfl⟩ (show (284 : Nat) ≠ 237 by decide) (fun _ => rfl) (by omega) (by omega) (by rw [show u_11.2.1 284 = u_2.2.1 284 from (funext fun j => ((fu_11 284 rfl).2.1 j).trans ((fu_7 284 rfl).2.1 j))]; exact xu_2) xu_11.1) (c_X12_249 Cx rfl rfl (rmk_ok (by omega) (by decide))) hW rfl hl.1 rfl (Nat.le_of_ble_eq_true rfl) dX12_isValue_63 ⟨Nat.le_of_ble_eq_true rfl, Nat.le_of_ble_eq_true rfl⟩) hL (fun u_15 H locs k_16 hW hL => ?_)
  obtain ⟨iu_15, fu_15, xu_15⟩ := k_16
  have F_17 := F_13.trans (fu_15.to (p1_sub rfl))
  have g_18 : FF S u_15 (fl []) := FF.fr g_14 fu_15 rfl
  refine lv_aload_n hx hb dX12_isValue_66 rfl (lv_at hl 1 rfl) ?_
  refine g_X12_172 Cx hW (k := 231) (by decide) rfl (v := .ref (G.2.2.1 + 284)) (rd_94 iu_15) dX12_isValue_67 ?_
  refine lv_iconst (v := iv 0) hx hb dX12_isValue_70 (by decide) ?_
  refine lv_aload_n hx hb dX12_isValue_71 rfl (lv_at hl 1 rfl) ?_
  refine g_X12_181 Cx hW (k := 231) (by decide) rfl (v := .ref (G.2.2.1 + 287)) (rd_97 iu_15) dX12_isValue_72 ?_
  refine lv_iconst (v := iv 0) hx hb dX12_isValue_75 (by decide) ?_
  refine lv_aload_n hx hb dX12_isValue_76 rfl (lv_at hl 1 rfl) ?_
  refine g_X12_26 Cx hW (k := 231) (by decide) rfl (v := .ref (G.2.2.1 + 237)) (rd_7 iu_15) dX12_isValue_77 ?_
  refine lv_iconst (v := iv 0) hx hb dX12_isValue_80 (by decide) ?_
  refine sBv (sSt (As := [.ref (G.2.2.1 + 284), .int (iv 0), .ref (G.2.2.1 + 287), .int (iv 0), .ref (G.2.2.1 + 237), .int (iv 0)]) (rest := []) Cx (s_X12_multiply l G u_15 (ka := 284) (po := 0) (kb := 287) (qo := 0) (kc := 237) (ro := 0) (Nka := 520) (Nkb := 10) (Nkc := 68) (La := 24) (Lb := 7) iu_15 ⟨rfl, by decide, by decide, by decide, rfl⟩ ⟨rfl, by decide, by decide, by decide, rfl⟩ ⟨rfl, by decide, by decide, by decide, rfl⟩ (show (237 : Nat) ≠ 287 by decide) (show (237 : Nat) ≠ 284 by decide) (by omega) xu_15.1 (by rw [show u_15.2.1 287 = S.2.1 287 from (funext fun j => ((fu_15 287 rfl).2.1 j).trans (((fu_11 287 rfl).2.1 j).trans (((fu_7 287 rfl).2.1 j).trans ((fu_2 287 rfl).2.1 j))))]; exact hUP.2)) (c_X12_548 Cx rfl rfl (rmk_ok (by omega) (by decide))) hW rfl hl.1 rfl (Nat.le_of_ble_eq_true rfl) dX12_isValue_81 ⟨Nat.le_of_ble_eq_true rfl, Nat.le_of_ble_eq_true rfl⟩) hL (fun u_19 H locs k_20 hW hL => ?_)
  obtain ⟨iu_19, fu_19, xu_19⟩ := k_20
  have F_21 := F_17.trans (fu_19.to (p1_sub rfl))
  have g_22 : FF S u_19 (fl []) := FF.fr g_18 fu_19 rfl
  refine lv_aload_n hx hb dX12_isValue_84 rfl (lv_at hl 1 rfl) ?_
  refine g_X12_178 Cx hW (k := 231) (by decide) rfl (v := .ref (G.2.2.1 + 286)) (rd_96 iu_19) dX12_isValue_85 ?_
  refine lv_iconst (v := iv 0) hx hb dX12_isValue_88 (by decide) ?_
  refine lv_aload_n hx hb dX12_isValue_89 rfl (lv_at hl 1 rfl) ?_
  refine g_X12_175 Cx hW (k := 231) (by decide) rfl (v := .ref (G.2.2.1 + 285)) (rd_95 iu_19) dX12_isValue_90 ?_
  refine lv_iload_n hx hb dX12_isValue_93 rfl (lv_at hl 0 rfl) ?_
  refine lv_aload_n hx hb dX12_isValue_94 rfl (lv_at hl 1 rfl) ?_
  refine g_X12_29 Cx hW (k := 231) (by decide) rfl (v := .ref (G.2.2.1 + 238)) (rd_8 iu_19) dX12_isValue_95 ?_
  refine lv_iconst (v := iv 0) hx hb dX12_isValue_98 (by decide) ?_
  refine sBv (sSt (As := [.ref (G.2.2.1 + 286), .int (iv 0), .ref (G.2.2.1 + 285), .int (iv (10 * ((S.1 231 46) + 1))), .ref (G.2.2.1 + 238), .int (iv 0)]) (rest := []) Cx (s_X12_multiply l G u_19 (ka := 286) (po := 0) (kb := 285) (qo := 10 * ((S.1 231 46) + 1)) (kc := 238) (ro := 0) (Nka := 10) (Nkb := 140) (Nkc := 68) (La := 7) (Lb := 7) iu_19 ⟨rfl, by decide, by decide, by decide, rfl⟩ ⟨rfl, by decide, by decide, by decide, rfl⟩ ⟨rfl, by decide, by decide, by decide, rfl⟩ (show (238 : Nat) ≠ 285 by decide) (show (238 : Nat) ≠ 286 by decide) (by omega) (by rw [show u_19.2.1 286 = S.2.1 286 from (funext fun j => ((fu_19 286 rfl).2.1 j).trans (((fu_15 286 rfl).2.1 j).trans (((fu_11 286 rfl).2.1 j).trans (((fu_7 286 rfl).2.1 j).trans ((fu_2 286 rfl).2.1 j)))))]; exact hUP.1) (by rw [show u_19.2.1 285 = S.2.1 285 from (funext fun j => ((fu_19 285 rfl).2.1 j).trans (((fu_15 285 rfl).2.1 j).trans (((fu_11 285 rfl).2.1 j).trans (((fu_7 285 rfl).2.1 j).trans ((fu_2 285 rfl).2.1 j)))))]; exact hPT.1 (S.1 231 46 + 1) (by omega) (by omega))) (c_X12_548 Cx rfl rfl (rmk_ok (by omega) (by decide))) hW rfl hl.1 rfl (Nat.le_of_ble_eq_true rfl) dX12_isValue_99 ⟨Nat.le_of_ble_eq_true rfl, Nat.le_of_ble_eq_true rfl⟩) hL (fun u_23 H locs k_24 hW hL => ?_)
  obtain ⟨iu_23, fu_23, xu_23⟩ := k_24
  have F_25 := F_21.trans (fu_23.to (p1_sub rfl))
  have g_26 : FF S u_23 (fl []) := FF.fr g_22 fu_23 rfl
  refine lv_aload_n hx hb dX12_isValue_102 rfl (lv_at hl 1 rfl) ?_
  refine g_X12_26 Cx hW (k := 231) (by decide) rfl (v := .ref (G.2.2.1 + 237)) (rd_7 iu_23) dX12_isValue_103 ?_
  refine lv_iconst (v := iv 0) hx hb dX12_isValue_106 (by decide) ?_
  refine lv_aload_n hx hb dX12_isValue_107 rfl (lv_at hl 1 rfl) ?_
  refine g_X12_29 Cx hW (k := 231) (by decide) rfl (v := .ref (G.2.2.1 + 238)) (rd_8 iu_23) dX12_isValue_108 ?_
  refine lv_iconst (v := iv 0) hx hb dX12_isValue_111 (by decide) ?_
  refine sBi (sSt (As := [.ref (G.2.2.1 + 237), .int (iv 0), .ref (G.2.2.1 + 238), .int (iv 0)]) (rest := []) Cx (s_X12_compare l G u_23 (ka := 237) (po := 0) (kb := 238) (qo := 0) (Nka := 68) (Nkb := 68) (La := 31) (Lb := 14) iu_23 ⟨rfl, by decide, by decide, by decide, rfl⟩ ⟨rfl, by decide, by decide, by decide, rfl⟩ (by omega) (by rw [show u_23.2.1 237 = u_19.2.1 237 from (funext fun j => (fu_23 237 rfl).2.1 j)]; exact xu_19.1) xu_23.1) (c_X12_552 Cx rfl rfl (rmk_ok (by omega) (by decide))) hW rfl hl.1 rfl (Nat.le_of_ble_eq_true rfl) dX12_isValue_112 ⟨Nat.le_of_ble_eq_true rfl, Nat.le_of_ble_eq_true rfl⟩) hL (fun r_29 u_27 H locs k_28 hW hL => ?_)
  obtain ⟨eu_27, xu_27⟩ := k_28
  rw [eu_27] at hW
  have yu_27 := xu_27.2
  unfold Hd at yu_27
  refine r_if_ne (tgt := 122) hx hb ⟨(by omega), (by omega)⟩ dX12_isValue_115 (by decide) (fun c_30 => ?_) (fun c_30 => ?_)
  · refine lv_iconst (v := iv 0) hx hb dX12_isValue_122 (by decide) ?_
    exact sZret Cx hr hlk hW hL (by omega) ⟨iu_23, F_25, g_26, (by omega)⟩ dX12_isValue_123
  · refine lv_iconst (v := iv 1) hx hb dX12_isValue_118 (by decide) ?_
    refine lv_goto (tgt := 123) hx hb dX12_isValue_119 (by decide) ?_
    exact sZret Cx hr hlk hW hL (by omega) ⟨iu_23, F_25, g_26, (by omega)⟩ dX12_isValue_123

set_option maxRecDepth 100000 in
set_option maxHeartbeats 4000000 in
theorem s_X12_isAlong (l : Launch) (G : sG) (S : sS)  (hI : dX G S) (hm : 0 ≤ S.1 231 46 ∧ S.1 231 46 ≤ 12) (hm2 : 0 ≤ S.1 231 47 ∧ S.1 231 47 ≤ 16) (hPT : dPT S) (hGM : GM S) : Met l yX12_isAlong (.code yX12_isAlong cX12_isAlong 2 (some .boolean) :: tb) (rmk 6 0 0) (sPc G 294 S [.ref (G.2.2.1 + 231)]) (sQi G 294 (fun r u => dX G u ∧ Fr S u (pl [237, 277, 284]) ∧ FF S u (fl []) ∧ (0 ≤ r ∧ r ≤ 1))) 0 0 (sF G) := by
  refine sEnter (by decide) (Nat.le_of_ble_eq_true rfl) ?_
  intro p e s m args below meth c Cx hr hlk hnm hW ls hl
  have Cx : sC G p m c cX12_isAlong 2 s args RX12 := Cx
  obtain ⟨hx, hb, hml, hown, hts⟩ := id Cx.1
  have hL : sL G [] := sL_nil
  have hl : lv_has ls 2 [(0, .ref (G.2.2.1 + 231))] := hl
  have hW0 := hW
  refine lv_iconst (v := iv 1) hx hb dX12_isAlong_0 (by decide) ?_
  refine lv_istore_n (lv' := [(1, .int (iv 1)), (0, .ref (G.2.2.1 + 231))]) hx hb dX12_isAlong_1 rfl hl (by decide) rfl (fun ls hl => ?_)
  have loop_2 : ∀ (fuel : Nat) (j : Int) (H : Heap) (locs : List Loc) (ls : Array Slot), (S.1 231 46 + 1 - j).toNat < fuel → (1 ≤ j ∧ j ≤ S.1 231 46 + 1) → sW G 294 S H → sL G locs → lv_has ls 2 [(1, .int (iv j)), (0, .ref (G.2.2.1 + 231))] → W p l e (rmk 6 0 0) s m args below meth c H locs 0 0 (MQ below (sQi G 294 (fun r u => dX G u ∧ Fr S u (pl [237, 277, 284]) ∧ FF S u (fl []) ∧ (0 ≤ r ∧ r ≤ 1))) args s 0 0 (sF G)) (F0 m 2 ls []) := by
    intro fuel
    induction fuel with
    | zero => intro j H locs ls hmeas hj hW hL hl; exact absurd hmeas (Nat.not_lt_zero _)
    | succ fuel ih_2 =>
      intro j H locs ls hmeas hj hW hL hl
      refine lv_iload_n hx hb dX12_isAlong_2 rfl (lv_at hl 0 rfl) ?_
      refine lv_aload_n hx hb dX12_isAlong_3 rfl (lv_at hl 1 rfl) ?_
      have q_1 : (-2147483648) ≤ S.1 231 46 ∧ S.1 231 46 ≤ 2147483647 := hI.fi 46
      refine g_X12_465 Cx hW (k := 231) (by decide) rfl (v := S.1 231 46) rfl dX12_isAlong_4 ?_
      refine r_icmp_gt (tgt := 30) hx hb ⟨(by omega), (by omega)⟩ ⟨(by omega), (by omega)⟩ dX12_isAlong_7 (by decide) (fun c_2 => ?_) (fun c_2 => ?_)
      · refine lv_iconst (v := iv 1) hx hb dX12_isAlong_30 (by decide) ?_
        refine lv_istore_n (lv' := [(1, .int (iv 1)), (0, .ref (G.2.2.1 + 231))]) hx hb dX12_isAlong_31 rfl hl (by decide) rfl (fun ls hl => ?_)
        have loop_32 : ∀ (fuel : Nat) (S32 : sS) (i : Int) (H : Heap) (locs : List Loc) (ls : Array Slot), (S.1 231 47 + 1 - i).toNat < fuel → (dX G S32) → (Fr S S32 (pl [237, 277, 284])) → (Fr S S32 (pl [237, 277, 284])) → (FF S S32 (fl [])) → (FF S S32 (fl [])) → (1 ≤ i ∧ i ≤ S.1 231 47 + 1) → sW G 294 S32 H → sL G locs → lv_has ls 2 [(1, .int (iv i)), (0, .ref (G.2.2.1 + 231))] → W p l e (rmk 6 0 0) s m args below meth c H locs 0 0 (MQ below (sQi G 294 (fun r u => dX G u ∧ Fr S u (pl [237, 277, 284]) ∧ FF S u (fl []) ∧ (0 ≤ r ∧ r ≤ 1))) args s 0 0 (sF G)) (F0 m 32 ls []) := by
          intro fuel
          induction fuel with
          | zero => intro S32 i H locs ls hmeas hI32 hFm32 hL32_ hGm32 gL32_ hi hW hL hl; exact absurd hmeas (Nat.not_lt_zero _)
          | succ fuel ih_32 =>
            intro S32 i H locs ls hmeas hI32 hFm32 hL32_ hGm32 gL32_ hi hW hL hl
            refine lv_iload_n hx hb dX12_isAlong_32 rfl (lv_at hl 0 rfl) ?_
            refine lv_aload_n hx hb dX12_isAlong_33 rfl (lv_at hl 1 rfl) ?_
            have q_3 : (-2147483648) ≤ S.1 231 47 ∧ S.1 231 47 ≤ 2147483647 := hI.fi 47
            refine g_X12_468 Cx hW (k := 231) (by decide) rfl (v := S.1 231 47) (gL32_ 47 rfl) dX12_isAlong_34 ?_
            refine r_icmp_gt (tgt := 62) hx hb ⟨(by omega), (by omega)⟩ ⟨(by omega), (by omega)⟩ dX12_isAlong_37 (by decide) (fun c_4 => ?_) (fun c_4 => ?_)
            · refine lv_aload_n hx hb dX12_isAlong_62 rfl (lv_at hl 1 rfl) ?_
              refine lv_iconst (v := iv 0) hx hb dX12_isAlong_63 (by decide) ?_
              have lk_5 : S32.1 231 46 = S.1 231 46 := gL32_ 46 rfl
              refine sBv (sV (As := [.int (iv 0)]) (rest := []) (k := 231) Cx (s_X12_along l G S32 (k := 0) hI32 (by omega) (by omega) (dPT.sm (S := S) (u := S32) hPT (gL32_ 46 rfl) (funext fun j => (hL32_ 285 rfl).2.1 j)) (GM.sm (S := S) (u := S32) hGM (funext fun j => (hL32_ 260 rfl).2.2.1 j) (funext fun j => (hL32_ 290 rfl).2.2.1 j))) (c_X12_707 Cx rfl rfl (rmk_ok (by omega) (by decide))) hW (by decide) rfl rfl rfl hl.1 rfl (Nat.le_of_ble_eq_true rfl) dX12_isAlong_64 ⟨Nat.le_of_ble_eq_true rfl, Nat.le_of_ble_eq_true rfl⟩) hL (fun u_6 H locs k_7 hW hL => ?_)
              obtain ⟨iu_6, fu_6, gu_6, xu_6⟩ := k_7
              have F_8 := hFm32.trans fu_6
              have F_9 := hL32_.trans fu_6
              have g_10 : FF S u_6 (fl []) := FF.trans hGm32 (FF.to gu_6 (fl_sub (by decide)))
              have g_11 : FF S u_6 (fl []) := FF.trans gL32_ (FF.to gu_6 (fl_sub (by decide)))
              refine lv_aload_n hx hb dX12_isAlong_67 rfl (lv_at hl 1 rfl) ?_
              refine g_X12_172 Cx hW (k := 231) (by decide) rfl (v := .ref (G.2.2.1 + 284)) (rd_94 iu_6) dX12_isAlong_68 ?_
              refine lv_iconst (v := iv 0) hx hb dX12_isAlong_71 (by decide) ?_
              refine rIald Cx hW (k := 284) (by decide) rfl (by decide) (by omega) (by omega) dX12_isAlong_72 ?_
              have q_12 : (-2147483648) ≤ u_6.2.1 284 0 ∧ u_6.2.1 284 0 ≤ 2147483647 := iu_6.ai 284 0
              refine r_i (b := u_6.2.1 284 0) rfl ?_
              refine r_if_le (tgt := 80) hx hb ⟨(by omega), (by omega)⟩ dX12_isAlong_73 (by decide) (fun c_13 => ?_) (fun c_13 => ?_)
              · refine lv_iconst (v := iv 0) hx hb dX12_isAlong_80 (by decide) ?_
                exact sZret Cx hr hlk hW hL (by omega) ⟨iu_6, F_8, g_10, (by omega)⟩ dX12_isAlong_81
              · refine lv_iconst (v := iv 1) hx hb dX12_isAlong_76 (by decide) ?_
                refine lv_goto (tgt := 81) hx hb dX12_isAlong_77 (by decide) ?_
                exact sZret Cx hr hlk hW hL (by omega) ⟨iu_6, F_8, g_10, (by omega)⟩ dX12_isAlong_81
            · refine lv_aload_n hx hb dX12_isAlong_40 rfl (lv_at hl 1 rfl) ?_
              refine lv_iload_n hx hb dX12_isAlong_41 rfl (lv_at hl 0 rfl) ?_
              have lk_14 : S32.1 231 46 = S.1 231 46 := gL32_ 46 rfl
              refine sBv (sV (As := [.int (iv i)]) (rest := []) (k := 231) Cx (s_X12_along l G S32 (k := i) hI32 (by omega) (by omega) (dPT.sm (S := S) (u := S32) hPT (gL32_ 46 rfl) (funext fun j => (hL32_ 285 rfl).2.1 j)) (GM.sm (S := S) (u := S32) hGM (funext fun j => (hL32_ 260 rfl).2.2.1 j) (funext fun j => (hL32_ 290 rfl).2.2.1 j))) (c_X12_707 Cx rfl rfl (rmk_ok (by omega) (by decide))) hW (by decide) rfl rfl rfl hl.1 rfl (Nat.le_of_ble_eq_true rfl) dX12_isAlong_42 ⟨Nat.le_of_ble_eq_true rfl, Nat.le_of_ble_eq_true rfl⟩) hL (fun u_15 H locs k_16 hW hL => ?_)
              obtain ⟨iu_15, fu_15, gu_15, xu_15⟩ := k_16
              have F_17 := hFm32.trans fu_15
              have F_18 := hL32_.trans fu_15
              have g_19 : FF S u_15 (fl []) := FF.trans hGm32 (FF.to gu_15 (fl_sub (by decide)))
              have g_20 : FF S u_15 (fl []) := FF.trans gL32_ (FF.to gu_15 (fl_sub (by decide)))
              refine lv_aload_n hx hb dX12_isAlong_45 rfl (lv_at hl 1 rfl) ?_
              refine g_X12_172 Cx hW (k := 231) (by decide) rfl (v := .ref (G.2.2.1 + 284)) (rd_94 iu_15) dX12_isAlong_46 ?_
              refine lv_iconst (v := iv 0) hx hb dX12_isAlong_49 (by decide) ?_
              refine rIald Cx hW (k := 284) (by decide) rfl (by decide) (by omega) (by omega) dX12_isAlong_50 ?_
              have q_21 : (-2147483648) ≤ u_15.2.1 284 0 ∧ u_15.2.1 284 0 ≤ 2147483647 := iu_15.ai 284 0
              refine r_i (b := u_15.2.1 284 0) rfl ?_
              refine r_if_le (tgt := 56) hx hb ⟨(by omega), (by omega)⟩ dX12_isAlong_51 (by decide) (fun c_22 => ?_) (fun c_22 => ?_)
              · refine lv_iinc (v := iv (i + 1)) (lv' := [(1, .int (iv (i + 1))), (0, .ref (G.2.2.1 + 231))]) hx hb dX12_isAlong_56 hl (k := 0) rfl ((Int32.ofInt_add _ _).symm) (by decide) rfl (fun ls hl => ?_)
                refine lv_goto (tgt := 32) hx hb dX12_isAlong_59 (by decide) ?_
                exact ih_32 u_15 (i + 1) _ _ _ (by omega) iu_15 F_17 F_18 g_19 g_20 (by omega) hW hL (lv_sub hl [0, 1] rfl)
              · refine lv_iconst (v := iv 0) hx hb dX12_isAlong_54 (by decide) ?_
                exact sZret Cx hr hlk hW hL (by omega) ⟨iu_15, F_17, g_19, (by omega)⟩ dX12_isAlong_55
        exact loop_32 (_ + 1) S 1 _ _ _ (Nat.lt_succ_self _) hI (Fr.rf : Fr S S (pl [237, 277, 284])) Fr.rf FF.rf FF.rf (by omega) hW hL (lv_sub hl [0, 1] rfl)
      · refine lv_aload_n hx hb dX12_isAlong_10 rfl (lv_at hl 1 rfl) ?_
        refine g_X12_175 Cx hW (k := 231) (by decide) rfl (v := .ref (G.2.2.1 + 285)) (rd_95 hI) dX12_isAlong_11 ?_
        refine lv_bipush (v := iv 10) hx hb dX12_isAlong_14 (by decide) ?_
        refine lv_iload_n hx hb dX12_isAlong_16 rfl (lv_at hl 0 rfl) ?_
        refine r_imul hx hb dX12_isAlong_17 ?_
        refine rIald Cx hW (k := 285) (by decide) rfl (by decide) (by omega) (by omega) dX12_isAlong_18 ?_
        have q_23 : (-2147483648) ≤ S.2.1 285 (10 * j) ∧ S.2.1 285 (10 * j) ≤ 2147483647 := hI.ai 285 (10 * j)
        refine r_i (b := S.2.1 285 (10 * j)) rfl ?_
        refine r_if_ge (tgt := 24) hx hb ⟨(by omega), (by omega)⟩ dX12_isAlong_19 (by decide) (fun c_24 => ?_) (fun c_24 => ?_)
        · refine lv_iinc (v := iv (j + 1)) (lv' := [(1, .int (iv (j + 1))), (0, .ref (G.2.2.1 + 231))]) hx hb dX12_isAlong_24 hl (k := 0) rfl ((Int32.ofInt_add _ _).symm) (by decide) rfl (fun ls hl => ?_)
          refine lv_goto (tgt := 2) hx hb dX12_isAlong_27 (by decide) ?_
          exact ih_2 (j + 1) _ _ _ (by omega) (by omega) hW hL (lv_sub hl [0, 1] rfl)
        · refine lv_iconst (v := iv 0) hx hb dX12_isAlong_22 (by decide) ?_
          exact sZret Cx hr hlk hW hL (by omega) ⟨hI, (Fr.rf : Fr S S (pl [237, 277, 284])), FF.rf, (by omega)⟩ dX12_isAlong_23
  exact loop_2 (_ + 1) 1 _ _ _ (Nat.lt_succ_self _) (by omega) hW hL (lv_sub hl [0, 1] rfl)
