/-! The reference's checker by its values: points -/
theorem dv_eq {a b c d : Int} (h : a = b * c + d ∧ 0 ≤ d ∧ d < b) : c = a / b ∧ d = a % b := by
  obtain ⟨h1, h2, h3⟩ := h
  have e1 : a % b = d := by rw [h1, Int.add_comm, Int.add_mul_emod_self_left]; exact Int.emod_eq_of_lt h2 h3
  have e2 := Int.mul_ediv_add_emod a b
  rw [e1] at e2
  have e3 : b * (a / b) = b * c := by omega
  exact ⟨(Int.eq_of_mul_eq_mul_left (by omega) e3).symm, e1.symm⟩
/-- the reference's model by its numbers -/
def MDr (S : sS) (n mm mx : Int) (A : Int → Int → Int) (wh : Int → Int) : Prop := S.1 231 46 = n ∧ S.1 231 47 = mm ∧ S.1 231 49 = mx ∧ S.1 231 48 = wct wh n.toNat ∧ (∀ j, 0 ≤ j → j ≤ n → S.2.2.1 260 j = A 0 j) ∧ (∀ k j, 1 ≤ k → k ≤ mm → 0 ≤ j → j ≤ n → S.2.2.1 290 (13 * k + j) = A k j) ∧ ∀ j, 1 ≤ j → j ≤ n → S.2.1 259 j = wh j ∧ 0 ≤ wh j ∧ wh j ≤ 1
theorem MDr.sm {S u : sS} {n mm mx : Int} {A : Int → Int → Int} {wh : Int → Int} (h : MDr S n mm mx A wh) (e46 : u.1 231 46 = S.1 231 46) (e47 : u.1 231 47 = S.1 231 47) (e48 : u.1 231 48 = S.1 231 48) (e49 : u.1 231 49 = S.1 231 49) (a259 : u.2.1 259 = S.2.1 259) (l260 : u.2.2.1 260 = S.2.2.1 260) (l290 : u.2.2.1 290 = S.2.2.1 290) : MDr u n mm mx A wh := by
  unfold MDr; rw [e46, e47, e48, e49, a259, l260, l290]; exact h
def PTr (S : sS) (pp : Int → Int) (n : Int) : Prop := (∀ j, 1 ≤ j → j ≤ n → nv (S.2.1 285) (10 * j) = pp j) ∧ nv (S.2.1 285) (10 * (n + 1)) = pp 0
theorem PTr.sm {S u : sS} {pp : Int → Int} {n : Int} (h : PTr S pp n) (a285 : u.2.1 285 = S.2.1 285) : PTr u pp n := by unfold PTr; rw [a285]; exact h
def UVr (S : sS) (vt vb : Int) : Prop := nv (S.2.1 286) 0 = vt ∧ nv (S.2.1 287) 0 = vb
theorem UVr.sm {S u : sS} {vt vb : Int} (h : UVr S vt vb) (a286 : u.2.1 286 = S.2.1 286) (a287 : u.2.1 287 = S.2.1 287) : UVr u vt vb := by unfold UVr; rw [a286, a287]; exact h
theorem MDr.z {S : sS} {n mm mx : Int} {A : Int → Int → Int} {wh : Int → Int} {k : Int} (h : MDr S n mm mx A wh) (hk : 1 ≤ k ∧ k ≤ mm) (hn : 0 ≤ n) : S.2.2.1 290 (13 * k) = A k 0 := by
  have e := h.2.2.2.2.2.1 k 0 hk.1 hk.2 (by omega) hn
  rw [show 13 * k + 0 = 13 * k by omega] at e; exact e
set_option maxRecDepth 100000 in
set_option maxHeartbeats 4000000 in
theorem q_X12_pointHere (l : Launch) (G : sG) (S : sS) {Xt Fm Wd Vt : Int → Int} {pz n : Int} {T : Int} {kp vp : Int → Int} (hI : dX G S) (hX : S.2.1 243 = Xt) (hFm : S.2.1 245 = Fm) (hWd : S.2.1 246 = Wd) (hVt : S.2.1 247 = Vt) (hm : 0 ≤ S.1 231 46 ∧ S.1 231 46 ≤ 12) (hn : S.1 231 46 = n) (hc : S.1 231 24 = pz) (hg : Hd (gPn kp vp n pz)) (hQ : Hd (∀ t, 0 ≤ t → t < T → kp t = 2 → nTk Xt Fm Wd Vt t ∧ NVr Xt Fm Wd Vt t (vp t))) (hKS : Hd (KS T kp) ∧ T ≤ 30001) (hp0 : 0 ≤ pz) : Met l yX12_pointHere (.code yX12_pointHere cX12_pointHere 2 none :: tb) (rmk 3 0 0) (sPc G 294 S [.ref (G.2.2.1 + 231)]) (sQv G 294 (fun u => dX G u ∧ Fr S u (pl [231, 285]) ∧ FF S u (fl [24]) ∧ (u.1 231 24 = pz + n + 2 ∧ dPT u ∧ Hd (PTr u (ptf vp n (pz - 1)) n)))) 0 0 (sF G) := by
  refine sEnter (by decide) (Nat.le_of_ble_eq_true rfl) ?_
  intro p e s m args below meth c Cx hr hlk hnm hW ls hl
  have Cx : sC G p m c cX12_pointHere 2 s args RX12 := Cx
  obtain ⟨hx, hb, hml, hown, hts⟩ := id Cx.1
  have hL : sL G [] := sL_nil
  have hl : lv_has ls 2 [(0, .ref (G.2.2.1 + 231))] := hl
  have hW0 := hW
  have hT3 := hKS.2
  refine lv_iconst (v := iv 1) hx hb dX12_pointHere_0 (by decide) ?_
  refine lv_istore_n (lv' := [(1, .int (iv 1)), (0, .ref (G.2.2.1 + 231))]) hx hb dX12_pointHere_1 rfl hl (by decide) rfl (fun ls hl => ?_)
  have loop_2 : ∀ (fuel : Nat) (S2 : sS) (j : Int) (H : Heap) (locs : List Loc) (ls : Array Slot), (S.1 231 46 + 1 - j).toNat < fuel → (dX G S2) → (Fr S S2 (pl [231, 285])) → (Fr S S2 (pl [231, 285])) → (FF S S2 (fl [24])) → (FF S S2 (fl [24])) → (1 ≤ j ∧ j ≤ S.1 231 46 + 1 ∧ S2.1 231 24 = pz + j - 1) → (Hd (∀ t, 1 ≤ t → t < j → NO (S2.2.1 285) (10 * t) 7)) → (Hd (∀ t, 1 ≤ t → t < j → nv (S2.2.1 285) (10 * t) = vp (pz - 1 + t))) → sW G 294 S2 H → sL G locs → lv_has ls 2 [(1, .int (iv j)), (0, .ref (G.2.2.1 + 231))] → W p l e (rmk 3 0 0) s m args below meth c H locs 0 0 (MQ below (sQv G 294 (fun u => dX G u ∧ Fr S u (pl [231, 285]) ∧ FF S u (fl [24]) ∧ (u.1 231 24 = pz + n + 2 ∧ dPT u ∧ Hd (PTr u (ptf vp n (pz - 1)) n)))) args s 0 0 (sF G)) (F0 m 2 ls []) := by
    intro fuel
    induction fuel with
    | zero => intro S2 j H locs ls hmeas hI2 hFm2 hL2_ hGm2 gL2_ hj hz2 hv2 hW hL hl; exact absurd hmeas (Nat.not_lt_zero _)
    | succ fuel ih_2 =>
      intro S2 j H locs ls hmeas hI2 hFm2 hL2_ hGm2 gL2_ hj hz2 hv2 hW hL hl
      refine lv_iload_n hx hb dX12_pointHere_2 rfl (lv_at hl 0 rfl) ?_
      refine lv_aload_n hx hb dX12_pointHere_3 rfl (lv_at hl 1 rfl) ?_
      have q_1 : (-2147483648) ≤ S.1 231 46 ∧ S.1 231 46 ≤ 2147483647 := hI.fi 46
      refine g_X12_465 Cx hW (k := 231) (by decide) rfl (v := S.1 231 46) (gL2_ 46 rfl) dX12_pointHere_4 ?_
      refine r_icmp_gt (tgt := 42) hx hb ⟨(by omega), (by omega)⟩ ⟨(by omega), (by omega)⟩ dX12_pointHere_7 (by decide) (fun c_2 => ?_) (fun c_2 => ?_)
      · have hb42 := hKS.1 (pz + n) (by rw [hg.2.1]; decide) (by rw [hg.2.1]; decide)
        refine lv_aload_n hx hb dX12_pointHere_42 rfl (lv_at hl 1 rfl) ?_
        refine lv_dup hx hb dX12_pointHere_43 rfl ?_
        have q_3 : (-2147483648) ≤ S2.1 231 24 ∧ S2.1 231 24 ≤ 2147483647 := hI2.fi 24
        refine g_X12_315 Cx hW (k := 231) (by decide) rfl (v := S2.1 231 24) rfl dX12_pointHere_44 ?_
        refine lv_iconst (v := iv 1) hx hb dX12_pointHere_47 (by decide) ?_
        refine r_iadd hx hb dX12_pointHere_48 ?_
        refine p_X12_315 Cx hW hL (k := 231) (by decide) rfl dX12_pointHere_49 (fun H locs hW hL => ?_)
        have F_4 : Fr S (uF S2 231 24 ((S2.1 231 24) + 1)) (pl [231, 285]) := hFm2.F rfl
        have F_5 : Fr S (uF S2 231 24 ((S2.1 231 24) + 1)) (pl [231, 285]) := hL2_.F rfl
        have g_6 : FF S (uF S2 231 24 ((S2.1 231 24) + 1)) (fl [24]) := FF.F hGm2 rfl
        have g_7 : FF S (uF S2 231 24 ((S2.1 231 24) + 1)) (fl [24]) := FF.F gL2_ rfl
        have i_8 : dX G (uF S2 231 24 ((S2.1 231 24) + 1)) := hI2.F (i := 24) (show (-2147483648) ≤ (S2.1 231 24) + 1 ∧ (S2.1 231 24) + 1 ≤ 2147483647 from ⟨by omega, by omega⟩)
        refine lv_aload_n hx hb dX12_pointHere_52 rfl (lv_at hl 1 rfl) ?_
        refine lv_aload_n hx hb dX12_pointHere_53 rfl (lv_at hl 1 rfl) ?_
        refine g_X12_315 Cx hW (k := 231) (by decide) rfl (v := (S2.1 231 24) + 1) uF_on dX12_pointHere_54 ?_
        refine lv_aload_n hx hb dX12_pointHere_57 rfl (lv_at hl 1 rfl) ?_
        have hk2 : gAb kp vp (S2.1 231 24 + 1) := by rw [show S2.1 231 24 + 1 = pz + n + 1 by omega]; exact hg.2.2
        have hk3 := hk2.1; have hv0 := hk2.2
        have hq_9b := hKS.1 (S2.1 231 24 + 1) (by rw [hk3]; decide) (by rw [hk3]; decide)
        have hq_9 : Hd _ := hQ (S2.1 231 24 + 1) hq_9b.1 (by omega) hk3
        refine g_X12_175 Cx hW (k := 231) (by decide) rfl (v := .ref (G.2.2.1 + 285)) (rd_95 i_8) dX12_pointHere_58 ?_
        refine lv_bipush (v := iv 10) hx hb dX12_pointHere_61 (by decide) ?_
        refine lv_aload_n hx hb dX12_pointHere_63 rfl (lv_at hl 1 rfl) ?_
        refine g_X12_465 Cx hW (k := 231) (by decide) rfl (v := S.1 231 46) ((uF_ne (fun h => absurd h.2 (by decide))).trans (gL2_ 46 rfl)) dX12_pointHere_64 ?_
        refine lv_iconst (v := iv 1) hx hb dX12_pointHere_67 (by decide) ?_
        refine r_iadd hx hb dX12_pointHere_68 ?_
        refine r_imul hx hb dX12_pointHere_69 ?_
        refine sBv (sV (As := [.int (iv ((S2.1 231 24) + 1)), .ref (G.2.2.1 + 285), .int (iv (10 * ((S.1 231 46) + 1)))]) (rest := []) (k := 231) Cx (q_X12_numberAt l G (uF S2 231 24 ((S2.1 231 24) + 1)) (tk := (S2.1 231 24) + 1) (ka := 285) (po := 10 * ((S.1 231 46) + 1)) (Nka := 140) (Xt := Xt) (Fm := Fm) (Wd := Wd) (Vt := Vt) (xx := vp (S2.1 231 24 + 1)) i_8 ⟨rfl, by decide, by decide, by decide, rfl⟩ (show (285 : Nat) ≠ 243 by decide) (show (285 : Nat) ≠ 245 by decide) (show (285 : Nat) ≠ 246 by decide) (show (285 : Nat) ≠ 247 by decide) ((funext fun j => (uF_a).trans ((hL2_ 243 rfl).2.1 j) : (uF S2 231 24 ((S2.1 231 24) + 1)).2.1 243 = S.2.1 243).trans hX) ((funext fun j => (uF_a).trans ((hL2_ 245 rfl).2.1 j) : (uF S2 231 24 ((S2.1 231 24) + 1)).2.1 245 = S.2.1 245).trans hFm) ((funext fun j => (uF_a).trans ((hL2_ 246 rfl).2.1 j) : (uF S2 231 24 ((S2.1 231 24) + 1)).2.1 246 = S.2.1 246).trans hWd) ((funext fun j => (uF_a).trans ((hL2_ 247 rfl).2.1 j) : (uF S2 231 24 ((S2.1 231 24) + 1)).2.1 247 = S.2.1 247).trans hVt) hq_9.1 hq_9.2 (by omega) (by omega)) (c_X12_703 Cx rfl rfl (rmk_ok (by omega) (by decide))) hW (by decide) rfl rfl rfl hl.1 rfl (Nat.le_of_ble_eq_true rfl) dX12_pointHere_70 ⟨Nat.le_of_ble_eq_true rfl, Nat.le_of_ble_eq_true rfl⟩) hL (fun u_10 H locs k_11 hW hL => ?_)
        obtain ⟨iu_10, fu_10, gu_10, xu_10⟩ := k_11
        have F_12 := F_4.trans (fu_10.to (pl_sub (by decide)))
        have F_13 := F_5.trans (fu_10.to (pl_sub (by decide)))
        have g_14 : FF S u_10 (fl [24]) := FF.trans g_6 (FF.to gu_10 (fl_sub (by decide)))
        have g_15 : FF S u_10 (fl [24]) := FF.trans g_7 (FF.to gu_10 (fl_sub (by decide)))
        have nv_16 : nv (u_10.2.1 285) (10 * ((S.1 231 46) + 1)) = vp (S2.1 231 24 + 1) := xu_10.2.1
        refine lv_aload_n hx hb dX12_pointHere_73 rfl (lv_at hl 1 rfl) ?_
        refine lv_dup hx hb dX12_pointHere_74 rfl ?_
        refine g_X12_315 Cx hW (k := 231) (by decide) rfl (v := (S2.1 231 24) + 1) ((gu_10 24 rfl).trans (uF_on)) dX12_pointHere_75 ?_
        refine lv_iconst (v := iv 1) hx hb dX12_pointHere_78 (by decide) ?_
        refine r_iadd hx hb dX12_pointHere_79 ?_
        refine p_X12_315 Cx hW hL (k := 231) (by decide) rfl dX12_pointHere_80 (fun H locs hW hL => ?_)
        have F_17 : Fr S (uF u_10 231 24 (((S2.1 231 24) + 1) + 1)) (pl [231, 285]) := F_12.F rfl
        have F_18 : Fr S (uF u_10 231 24 (((S2.1 231 24) + 1) + 1)) (pl [231, 285]) := F_13.F rfl
        have g_19 : FF S (uF u_10 231 24 (((S2.1 231 24) + 1) + 1)) (fl [24]) := FF.F g_14 rfl
        have g_20 : FF S (uF u_10 231 24 (((S2.1 231 24) + 1) + 1)) (fl [24]) := FF.F g_15 rfl
        have i_21 : dX G (uF u_10 231 24 (((S2.1 231 24) + 1) + 1)) := iu_10.F (i := 24) (show (-2147483648) ≤ ((S2.1 231 24) + 1) + 1 ∧ ((S2.1 231 24) + 1) + 1 ≤ 2147483647 from ⟨by omega, by omega⟩)
        have lk_22 : (uF u_10 231 24 (((S2.1 231 24) + 1) + 1)).1 231 24 = ((S2.1 231 24) + 1) + 1 := uF_on
        exact sVret Cx hr hlk hW hL ⟨i_21, F_17, g_19, ⟨(by have y := (show (uF u_10 231 24 (((S2.1 231 24) + 1) + 1)).1 231 24 = ((S2.1 231 24) + 1) + 1 from uF_on); omega), ⟨(fun t t0 t1 => by rw [show (uF u_10 231 24 (((S2.1 231 24) + 1) + 1)).1 231 46 = S.1 231 46 from (uF_ne (fun h => absurd h.2 (by decide))).trans ((gu_10 46 rfl).trans ((uF_ne (fun h => absurd h.2 (by decide))).trans (gL2_ 46 rfl)))] at t1; rw [show (uF u_10 231 24 (((S2.1 231 24) + 1) + 1)).2.1 285 = u_10.2.1 285 from funext fun j => uF_a]; by_cases z : t = S.1 231 46 + 1; (rw [z]; exact xu_10.1); exact ((hz2 t t0 (by omega)).same (g := u_10.2.1 285) (fun x x0 x1 => xu_10.2.2 x (by omega))).1), (by rw [show (uF u_10 231 24 (((S2.1 231 24) + 1) + 1)).1 231 46 = S.1 231 46 from (uF_ne (fun h => absurd h.2 (by decide))).trans ((gu_10 46 rfl).trans ((uF_ne (fun h => absurd h.2 (by decide))).trans (gL2_ 46 rfl))), show (uF u_10 231 24 (((S2.1 231 24) + 1) + 1)).2.1 285 = u_10.2.1 285 from funext fun j => uF_a, xu_10.2.1]; exact hv0)⟩, ⟨(fun t t0 t1 => by rw [show (uF u_10 231 24 (((S2.1 231 24) + 1) + 1)).2.1 285 = u_10.2.1 285 from funext fun j => uF_a]; refine ((hz2 t t0 (by omega)).same (g := u_10.2.1 285) (fun x x0 x1 => xu_10.2.2 x (by omega))).2.trans ((hv2 t t0 (by omega)).trans ?_); unfold ptf; rw [if_neg (by omega)]), (by rw [show (uF u_10 231 24 (((S2.1 231 24) + 1) + 1)).2.1 285 = u_10.2.1 285 from funext fun j => uF_a, ← hn, xu_10.2.1, ptf_0]; congr 1; omega)⟩⟩⟩ dX12_pointHere_83
      · refine lv_aload_n hx hb dX12_pointHere_10 rfl (lv_at hl 1 rfl) ?_
        refine lv_aload_n hx hb dX12_pointHere_11 rfl (lv_at hl 1 rfl) ?_
        have q_23 : (-2147483648) ≤ S2.1 231 24 ∧ S2.1 231 24 ≤ 2147483647 := hI2.fi 24
        refine g_X12_315 Cx hW (k := 231) (by decide) rfl (v := S2.1 231 24) rfl dX12_pointHere_12 ?_
        refine lv_aload_n hx hb dX12_pointHere_15 rfl (lv_at hl 1 rfl) ?_
        have hk1 : kp (S2.1 231 24) = 2 := by rw [show S2.1 231 24 = pz + (j - 1) by omega]; exact hg.1 _ (by omega) (by omega)
        have hq_24b := hKS.1 (S2.1 231 24) (by rw [hk1]; decide) (by rw [hk1]; decide)
        have hq_24 : Hd _ := hQ (S2.1 231 24) hq_24b.1 (by omega) hk1
        refine g_X12_175 Cx hW (k := 231) (by decide) rfl (v := .ref (G.2.2.1 + 285)) (rd_95 hI2) dX12_pointHere_16 ?_
        refine lv_bipush (v := iv 10) hx hb dX12_pointHere_19 (by decide) ?_
        refine lv_iload_n hx hb dX12_pointHere_21 rfl (lv_at hl 0 rfl) ?_
        refine r_imul hx hb dX12_pointHere_22 ?_
        refine sBv (sV (As := [.int (iv (S2.1 231 24)), .ref (G.2.2.1 + 285), .int (iv (10 * j))]) (rest := []) (k := 231) Cx (q_X12_numberAt l G S2 (tk := S2.1 231 24) (ka := 285) (po := 10 * j) (Nka := 140) (Xt := Xt) (Fm := Fm) (Wd := Wd) (Vt := Vt) (xx := vp (S2.1 231 24)) hI2 ⟨rfl, by decide, by decide, by decide, rfl⟩ (show (285 : Nat) ≠ 243 by decide) (show (285 : Nat) ≠ 245 by decide) (show (285 : Nat) ≠ 246 by decide) (show (285 : Nat) ≠ 247 by decide) ((funext fun j => (hL2_ 243 rfl).2.1 j : S2.2.1 243 = S.2.1 243).trans hX) ((funext fun j => (hL2_ 245 rfl).2.1 j : S2.2.1 245 = S.2.1 245).trans hFm) ((funext fun j => (hL2_ 246 rfl).2.1 j : S2.2.1 246 = S.2.1 246).trans hWd) ((funext fun j => (hL2_ 247 rfl).2.1 j : S2.2.1 247 = S.2.1 247).trans hVt) hq_24.1 hq_24.2 (by omega) (by omega)) (c_X12_703 Cx rfl rfl (rmk_ok (by omega) (by decide))) hW (by decide) rfl rfl rfl hl.1 rfl (Nat.le_of_ble_eq_true rfl) dX12_pointHere_23 ⟨Nat.le_of_ble_eq_true rfl, Nat.le_of_ble_eq_true rfl⟩) hL (fun u_25 H locs k_26 hW hL => ?_)
        obtain ⟨iu_25, fu_25, gu_25, xu_25⟩ := k_26
        have F_27 := hFm2.trans (fu_25.to (pl_sub (by decide)))
        have F_28 := hL2_.trans (fu_25.to (pl_sub (by decide)))
        have g_29 : FF S u_25 (fl [24]) := FF.trans hGm2 (FF.to gu_25 (fl_sub (by decide)))
        have g_30 : FF S u_25 (fl [24]) := FF.trans gL2_ (FF.to gu_25 (fl_sub (by decide)))
        have nv_31 : nv (u_25.2.1 285) (10 * j) = vp (S2.1 231 24) := xu_25.2.1
        refine lv_aload_n hx hb dX12_pointHere_26 rfl (lv_at hl 1 rfl) ?_
        refine lv_dup hx hb dX12_pointHere_27 rfl ?_
        refine g_X12_315 Cx hW (k := 231) (by decide) rfl (v := S2.1 231 24) (gu_25 24 rfl) dX12_pointHere_28 ?_
        refine lv_iconst (v := iv 1) hx hb dX12_pointHere_31 (by decide) ?_
        refine r_iadd hx hb dX12_pointHere_32 ?_
        refine p_X12_315 Cx hW hL (k := 231) (by decide) rfl dX12_pointHere_33 (fun H locs hW hL => ?_)
        have F_32 : Fr S (uF u_25 231 24 ((S2.1 231 24) + 1)) (pl [231, 285]) := F_27.F rfl
        have F_33 : Fr S (uF u_25 231 24 ((S2.1 231 24) + 1)) (pl [231, 285]) := F_28.F rfl
        have g_34 : FF S (uF u_25 231 24 ((S2.1 231 24) + 1)) (fl [24]) := FF.F g_29 rfl
        have g_35 : FF S (uF u_25 231 24 ((S2.1 231 24) + 1)) (fl [24]) := FF.F g_30 rfl
        have i_36 : dX G (uF u_25 231 24 ((S2.1 231 24) + 1)) := iu_25.F (i := 24) (show (-2147483648) ≤ (S2.1 231 24) + 1 ∧ (S2.1 231 24) + 1 ≤ 2147483647 from ⟨by omega, by omega⟩)
        refine lv_iinc (v := iv (j + 1)) (lv' := [(1, .int (iv (j + 1))), (0, .ref (G.2.2.1 + 231))]) hx hb dX12_pointHere_36 hl (k := 0) rfl ((Int32.ofInt_add _ _).symm) (by decide) rfl (fun ls hl => ?_)
        refine lv_goto (tgt := 2) hx hb dX12_pointHere_39 (by decide) ?_
        have lk_37 : (uF u_25 231 24 ((S2.1 231 24) + 1)).1 231 24 = (S2.1 231 24) + 1 := uF_on
        exact ih_2 (uF u_25 231 24 ((S2.1 231 24) + 1)) (j + 1) _ _ _ (by omega) i_36 F_32 F_33 g_34 g_35 (by omega) (fun t t0 t1 => by rw [show (uF u_25 231 24 ((S2.1 231 24) + 1)).2.1 285 = u_25.2.1 285 from funext fun j => uF_a]; by_cases z : t = j; (rw [z]; exact xu_25.1); exact ((hz2 t t0 (by omega)).same (g := u_25.2.1 285) (fun x x0 x1 => xu_25.2.2 x (by omega))).1) (fun t t0 t1 => by rw [show (uF u_25 231 24 ((S2.1 231 24) + 1)).2.1 285 = u_25.2.1 285 from funext fun j => uF_a]; by_cases z : t = j; (rw [z, xu_25.2.1, show pz - 1 + j = S2.1 231 24 by omega]); exact ((hz2 t t0 (by omega)).same (g := u_25.2.1 285) (fun x x0 x1 => xu_25.2.2 x (by omega))).2.trans (hv2 t t0 (by omega))) hW hL (lv_sub hl [0, 1] rfl)
  have q_38 : (-2147483648) ≤ S.1 231 24 ∧ S.1 231 24 ≤ 2147483647 := hI.fi 24
  exact loop_2 (_ + 1) S 1 _ _ _ (Nat.lt_succ_self _) hI (Fr.rf : Fr S S (pl [231, 285])) Fr.rf FF.rf FF.rf (by omega) (fun t a b => absurd b (by omega)) (fun t a b => absurd b (by omega)) hW hL (lv_sub hl [0, 1] rfl)

set_option maxRecDepth 100000 in
set_option maxHeartbeats 4000000 in
theorem q_X12_along (l : Launch) (G : sG) (S : sS) {k : Int} {n mm mx : Int} {A : Int → Int → Int} {wh : Int → Int} {pp : Int → Int} (hI : dX G S) (hm : 0 ≤ S.1 231 46 ∧ S.1 231 46 ≤ 12) (hk : 0 ≤ k ∧ k ≤ 16) (hkm : k ≤ mm) (hPT : dPT S) (hGM : GM S) (hMR : Hd (MDr S n mm mx A wh)) (hPP : Hd (PTr S pp n)) : Met l yX12_along (.code yX12_along cX12_along 3 none :: tb) (rmk 5 0 0) (sPc G 294 S [.ref (G.2.2.1 + 231), .int (iv k)]) (sQv G 294 (fun u => dX G u ∧ Fr S u (pl [237, 277, 284]) ∧ FF S u (fl []) ∧ (NO (u.2.1 284) 0 23 ∧ Hd (nv (u.2.1 284) 0 = spt pp (A k) n.toNat)))) 0 0 (sF G) := by
  refine sEnter (by decide) (Nat.le_of_ble_eq_true rfl) ?_
  intro p e s m args below meth c Cx hr hlk hnm hW ls hl
  have Cx : sC G p m c cX12_along 3 s args RX12 := Cx
  obtain ⟨hx, hb, hml, hown, hts⟩ := id Cx.1
  have hL : sL G [] := sL_nil
  have hl : lv_has ls 3 [(0, .ref (G.2.2.1 + 231)), (1, .int (iv k))] := hl
  have hW0 := hW
  have hMn := hMR.1; have hMm := hMR.2.1; have hMx := hMR.2.2.1; have hMw := hMR.2.2.2.1
  refine lv_aload_n hx hb dX12_along_0 rfl (lv_at hl 0 rfl) ?_
  refine g_X12_172 Cx hW (k := 231) (by decide) rfl (v := .ref (G.2.2.1 + 284)) (rd_94 hI) dX12_along_1 ?_
  refine lv_iconst (v := iv 0) hx hb dX12_along_4 (by decide) ?_
  refine lv_iconst (v := iv 0) hx hb dX12_along_5 (by decide) ?_
  refine rIast Cx hW hL (k := 284) (by decide) rfl (by decide) (by omega) (by omega) dX12_along_6 (fun H locs hW hL => ?_)
  have F_1 : Fr S (uA S 284 0 0) (pl [237, 277, 284]) := (Fr.rf : Fr S S (pl [237, 277, 284])).A rfl
  have i_2 : dX G (uA S 284 0 0) := hI.A (k := 284) (show (-2147483648) ≤ 0 ∧ 0 ≤ 2147483647 from ⟨by omega, by omega⟩)
  refine lv_iconst (v := iv 1) hx hb dX12_along_7 (by decide) ?_
  refine lv_istore_n (lv' := [(2, .int (iv 1)), (0, .ref (G.2.2.1 + 231)), (1, .int (iv k))]) hx hb dX12_along_8 rfl hl (by decide) rfl (fun ls hl => ?_)
  have loop_9 : ∀ (fuel : Nat) (S9 : sS) (j : Int) (H : Heap) (locs : List Loc) (ls : Array Slot), (S.1 231 46 + 1 - j).toNat < fuel → (dX G S9) → (Fr S S9 (pl [237, 277, 284])) → (Fr ((uA S 284 0 0)) S9 (pl [237, 277, 284])) → (FF S S9 (fl [])) → (FF ((uA S 284 0 0)) S9 (fl [])) → (1 ≤ j ∧ j ≤ S.1 231 46 + 1) → (NO (S9.2.1 284) 0 (9 + j)) → (Hd (nv (S9.2.1 284) 0 = spt pp (A k) (j - 1).toNat)) → sW G 294 S9 H → sL G locs → lv_has ls 3 [(2, .int (iv j)), (0, .ref (G.2.2.1 + 231)), (1, .int (iv k))] → W p l e (rmk 5 0 0) s m args below meth c H locs 0 0 (MQ below (sQv G 294 (fun u => dX G u ∧ Fr S u (pl [237, 277, 284]) ∧ FF S u (fl []) ∧ (NO (u.2.1 284) 0 23 ∧ Hd (nv (u.2.1 284) 0 = spt pp (A k) n.toNat)))) args s 0 0 (sF G)) (F0 m 9 ls []) := by
    intro fuel
    induction fuel with
    | zero => intro S9 j H locs ls hmeas hI9 hFm9 hL9_ hGm9 gL9_ hj hs9 hv9 hW hL hl; exact absurd hmeas (Nat.not_lt_zero _)
    | succ fuel ih_9 =>
      intro S9 j H locs ls hmeas hI9 hFm9 hL9_ hGm9 gL9_ hj hs9 hv9 hW hL hl
      refine lv_iload_n hx hb dX12_along_9 rfl (lv_at hl 0 rfl) ?_
      refine lv_aload_n hx hb dX12_along_10 rfl (lv_at hl 1 rfl) ?_
      have q_3 : (-2147483648) ≤ S.1 231 46 ∧ S.1 231 46 ≤ 2147483647 := hI.fi 46
      refine g_X12_465 Cx hW (k := 231) (by decide) rfl (v := S.1 231 46) ((gL9_ 46 rfl).trans (uA_f)) dX12_along_11 ?_
      refine r_icmp_gt (tgt := 95) hx hb ⟨(by omega), (by omega)⟩ ⟨(by omega), (by omega)⟩ dX12_along_14 (by decide) (fun c_4 => ?_) (fun c_4 => ?_)
      · exact sVret Cx hr hlk hW hL ⟨hI9, hFm9, hGm9, ⟨hs9.mono (by omega), (show _ = _ by rw [show n = j - 1 by omega]; exact hv9)⟩⟩ dX12_along_95
      · refine lv_aload_n hx hb dX12_along_17 rfl (lv_at hl 1 rfl) ?_
        refine g_X12_151 Cx hW (k := 231) (by decide) rfl (v := .ref (G.2.2.1 + 277)) (rd_87 hI9) dX12_along_18 ?_
        refine lv_iconst (v := iv 0) hx hb dX12_along_21 (by decide) ?_
        refine lv_iload_n hx hb dX12_along_22 rfl (lv_at hl 2 rfl) ?_
        refine r_if_ne (tgt := 35) hx hb ⟨(by omega), (by omega)⟩ dX12_along_23 (by decide) (fun c_5 => ?_) (fun c_5 => ?_)
        · have hgv := hGM.2 (13 * k + j)
          refine lv_aload_n hx hb dX12_along_35 rfl (lv_at hl 1 rfl) ?_
          refine g_X12_190 Cx hW (k := 231) (by decide) rfl (v := .ref (G.2.2.1 + 290)) (rd_101 hI9) dX12_along_36 ?_
          refine lv_bipush (v := iv 13) hx hb dX12_along_39 (by decide) ?_
          refine lv_iload_n hx hb dX12_along_41 rfl (lv_at hl 2 rfl) ?_
          refine r_imul hx hb dX12_along_42 ?_
          refine lv_iload_n hx hb dX12_along_43 rfl (lv_at hl 0 rfl) ?_
          refine r_iadd hx hb dX12_along_44 ?_
          refine rLald Cx hW (k := 290) (by decide) rfl (by decide) (by omega) (by omega) dX12_along_45 ?_
          have q_6 : -9223372036854775808 ≤ S.2.2.1 290 ((13 * k) + j) ∧ S.2.2.1 290 ((13 * k) + j) ≤ 9223372036854775807 := hI.li 290 ((13 * k) + j)
          refine r_j (b := S.2.2.1 290 ((13 * k) + j)) (((hL9_ 290 rfl).2.2.1 ((13 * k) + j)).trans (uA_l)) ?_
          refine sBv (sSt (As := [.ref (G.2.2.1 + 277), .int (iv 0), .long (jv (S.2.2.1 290 ((13 * k) + j)))]) (rest := []) Cx (s_X12_put l G S9 (ka := 277) (po := 0) (v := S.2.2.1 290 ((13 * k) + j)) (Nka := 4) hI9 ⟨rfl, by decide, by decide, by decide, rfl⟩ (by omega) (by omega)) (c_X12_241 Cx rfl rfl (rmk_ok (by omega) (by decide))) hW rfl hl.1 rfl (Nat.le_of_ble_eq_true rfl) dX12_along_46 ⟨Nat.le_of_ble_eq_true rfl, Nat.le_of_ble_eq_true rfl⟩) hL (fun u_7 H locs k_8 hW hL => ?_)
          obtain ⟨iu_7, fu_7, xu_7⟩ := k_8
          have F_9 := hFm9.trans (fu_7.to (p1_sub rfl))
          have F_10 := hL9_.trans (fu_7.to (p1_sub rfl))
          have g_11 : FF S u_7 (fl []) := FF.fr hGm9 fu_7 rfl
          have g_12 : FF ((uA S 284 0 0)) u_7 (fl []) := FF.fr gL9_ fu_7 rfl
          have nv_13 : nv (u_7.2.1 277) 0 = S.2.2.1 290 ((13 * k) + j) := xu_7.2.1
          have nv_14 : nv (u_7.2.1 277) 0 = A k j := (by rw [xu_7.2.1]; first | exact hMR.2.2.2.2.2.1 k j (by omega) (by omega) (by omega) (by omega) | (rw [show k = 0 by omega]; exact hMR.2.2.2.2.1 j (by omega) (by omega)))
          refine lv_aload_n hx hb dX12_along_49 rfl (lv_at hl 1 rfl) ?_
          refine g_X12_175 Cx hW (k := 231) (by decide) rfl (v := .ref (G.2.2.1 + 285)) (rd_95 iu_7) dX12_along_50 ?_
          refine lv_bipush (v := iv 10) hx hb dX12_along_53 (by decide) ?_
          refine lv_iload_n hx hb dX12_along_55 rfl (lv_at hl 0 rfl) ?_
          refine r_imul hx hb dX12_along_56 ?_
          refine lv_aload_n hx hb dX12_along_57 rfl (lv_at hl 1 rfl) ?_
          refine g_X12_151 Cx hW (k := 231) (by decide) rfl (v := .ref (G.2.2.1 + 277)) (rd_87 iu_7) dX12_along_58 ?_
          refine lv_iconst (v := iv 0) hx hb dX12_along_61 (by decide) ?_
          refine lv_aload_n hx hb dX12_along_62 rfl (lv_at hl 1 rfl) ?_
          refine g_X12_26 Cx hW (k := 231) (by decide) rfl (v := .ref (G.2.2.1 + 237)) (rd_7 iu_7) dX12_along_63 ?_
          refine lv_iconst (v := iv 0) hx hb dX12_along_66 (by decide) ?_
          refine sBv (sSt (As := [.ref (G.2.2.1 + 285), .int (iv (10 * j)), .ref (G.2.2.1 + 277), .int (iv 0), .ref (G.2.2.1 + 237), .int (iv 0)]) (rest := []) Cx (s_X12_multiply l G u_7 (ka := 285) (po := 10 * j) (kb := 277) (qo := 0) (kc := 237) (ro := 0) (Nka := 140) (Nkb := 4) (Nkc := 68) (La := 7) (Lb := 3) iu_7 ⟨rfl, by decide, by decide, by decide, rfl⟩ ⟨rfl, by decide, by decide, by decide, rfl⟩ ⟨rfl, by decide, by decide, by decide, rfl⟩ (show (237 : Nat) ≠ 277 by decide) (show (237 : Nat) ≠ 285 by decide) (by omega) (by rw [show u_7.2.1 285 = S.2.1 285 from (funext fun j => ((fu_7 285 rfl).2.1 j).trans (((hL9_ 285 rfl).2.1 j).trans (uA_ne (fun h => absurd h.1 (by decide)))))]; exact hPT.1 j (by omega) (by omega)) xu_7.1) (c_X12_548 Cx rfl rfl (rmk_ok (by omega) (by decide))) hW rfl hl.1 rfl (Nat.le_of_ble_eq_true rfl) dX12_along_67 ⟨Nat.le_of_ble_eq_true rfl, Nat.le_of_ble_eq_true rfl⟩) hL (fun u_15 H locs k_16 hW hL => ?_)
          obtain ⟨iu_15, fu_15, xu_15⟩ := k_16
          have F_17 := F_9.trans (fu_15.to (p1_sub rfl))
          have F_18 := F_10.trans (fu_15.to (p1_sub rfl))
          have g_19 : FF S u_15 (fl []) := FF.fr g_11 fu_15 rfl
          have g_20 : FF ((uA S 284 0 0)) u_15 (fl []) := FF.fr g_12 fu_15 rfl
          have nv_21 : nv (u_15.2.1 237) 0 = (pp j) * (A k j) := (by rw [xu_15.2.1, (show nv (u_7.2.1 285) (10 * j) = pp j by rw [show u_7.2.1 285 = S.2.1 285 from (funext fun j => ((fu_7 285 rfl).2.1 j).trans (((hL9_ 285 rfl).2.1 j).trans (uA_ne (fun h => absurd h.1 (by decide)))))]; exact (hPP.1 j (by omega) (by omega))), (show nv (u_7.2.1 277) 0 = A k j from nv_14)])
          refine lv_aload_n hx hb dX12_along_70 rfl (lv_at hl 1 rfl) ?_
          refine g_X12_172 Cx hW (k := 231) (by decide) rfl (v := .ref (G.2.2.1 + 284)) (rd_94 iu_15) dX12_along_71 ?_
          refine lv_iconst (v := iv 0) hx hb dX12_along_74 (by decide) ?_
          refine lv_aload_n hx hb dX12_along_75 rfl (lv_at hl 1 rfl) ?_
          refine g_X12_26 Cx hW (k := 231) (by decide) rfl (v := .ref (G.2.2.1 + 237)) (rd_7 iu_15) dX12_along_76 ?_
          refine lv_iconst (v := iv 0) hx hb dX12_along_79 (by decide) ?_
          refine lv_iconst (v := iv 0) hx hb dX12_along_80 (by decide) ?_
          refine lv_aload_n hx hb dX12_along_81 rfl (lv_at hl 1 rfl) ?_
          refine g_X12_172 Cx hW (k := 231) (by decide) rfl (v := .ref (G.2.2.1 + 284)) (rd_94 iu_15) dX12_along_82 ?_
          refine lv_iconst (v := iv 0) hx hb dX12_along_85 (by decide) ?_
          refine sBv (sSt (As := [.ref (G.2.2.1 + 284), .int (iv 0), .ref (G.2.2.1 + 237), .int (iv 0), .int (iv 0), .ref (G.2.2.1 + 284), .int (iv 0)]) (rest := []) Cx (s_X12_add l G u_15 (ka := 284) (po := 0) (kb := 237) (qo := 0) (lz := 0) (kc := 284) (ro := 0) (Nka := 520) (Nkb := 68) (Nkc := 520) (La := 9 + j) (Lb := 10) (Lc := 10 + j) iu_15 ⟨rfl, by decide, by decide, by decide, rfl⟩ ⟨rfl, by decide, by decide, by decide, rfl⟩ ⟨rfl, by decide, by decide, by decide, rfl⟩ (show (284 : Nat) ≠ 237 by decide) (fun _ => rfl) (by omega) (by omega) (by rw [show u_15.2.1 284 = S9.2.1 284 from (funext fun j => ((fu_15 284 rfl).2.1 j).trans ((fu_7 284 rfl).2.1 j))]; exact hs9) xu_15.1) (c_X12_249 Cx rfl rfl (rmk_ok (by omega) (by decide))) hW rfl hl.1 rfl (Nat.le_of_ble_eq_true rfl) dX12_along_86 ⟨Nat.le_of_ble_eq_true rfl, Nat.le_of_ble_eq_true rfl⟩) hL (fun u_22 H locs k_23 hW hL => ?_)
          obtain ⟨iu_22, fu_22, xu_22⟩ := k_23
          have F_24 := F_17.trans (fu_22.to (p1_sub rfl))
          have F_25 := F_18.trans (fu_22.to (p1_sub rfl))
          have g_26 : FF S u_22 (fl []) := FF.fr g_19 fu_22 rfl
          have g_27 : FF ((uA S 284 0 0)) u_22 (fl []) := FF.fr g_20 fu_22 rfl
          have nv_28 : nv (u_22.2.1 284) 0 = spt pp (A k) (j - 1).toNat + ((pp j) * (A k j)) := (by rw [xu_22.2.1, asn_0, (show nv (u_15.2.1 284) 0 = spt pp (A k) (j - 1).toNat by rw [show u_15.2.1 284 = S9.2.1 284 from (funext fun j => ((fu_15 284 rfl).2.1 j).trans ((fu_7 284 rfl).2.1 j))]; exact hv9), (show nv (u_15.2.1 237) 0 = (pp j) * (A k j) from nv_21)])
          refine lv_iinc (v := iv (j + 1)) (lv' := [(2, .int (iv (j + 1))), (0, .ref (G.2.2.1 + 231)), (1, .int (iv k))]) hx hb dX12_along_89 hl (k := 0) rfl ((Int32.ofInt_add _ _).symm) (by decide) rfl (fun ls hl => ?_)
          refine lv_goto (tgt := 9) hx hb dX12_along_92 (by decide) ?_
          exact ih_9 u_22 (j + 1) _ _ _ (by omega) iu_22 F_24 F_25 g_26 g_27 (by omega) (by rw [show 9 + (j + 1) = 10 + j by omega]; exact xu_22.1) (show _ = _ by rw [(show nv (u_22.2.1 284) 0 = spt pp (A k) (j - 1).toNat + ((pp j) * (A k j)) from nv_28), spt_st (by omega)]) hW hL (lv_sub hl [0, 1, 2] rfl)
        · have hgv := hGM.1 j
          refine lv_aload_n hx hb dX12_along_26 rfl (lv_at hl 1 rfl) ?_
          refine g_X12_97 Cx hW (k := 231) (by decide) rfl (v := .ref (G.2.2.1 + 260)) (rd_51 hI9) dX12_along_27 ?_
          refine lv_iload_n hx hb dX12_along_30 rfl (lv_at hl 0 rfl) ?_
          refine rLald Cx hW (k := 260) (by decide) rfl (by decide) (by omega) (by omega) dX12_along_31 ?_
          have q_29 : -9223372036854775808 ≤ S.2.2.1 260 j ∧ S.2.2.1 260 j ≤ 9223372036854775807 := hI.li 260 j
          refine r_j (b := S.2.2.1 260 j) (((hL9_ 260 rfl).2.2.1 j).trans (uA_l)) ?_
          refine lv_goto (tgt := 46) hx hb dX12_along_32 (by decide) ?_
          refine sBv (sSt (As := [.ref (G.2.2.1 + 277), .int (iv 0), .long (jv (S.2.2.1 260 j))]) (rest := []) Cx (s_X12_put l G S9 (ka := 277) (po := 0) (v := S.2.2.1 260 j) (Nka := 4) hI9 ⟨rfl, by decide, by decide, by decide, rfl⟩ (by omega) (by omega)) (c_X12_241 Cx rfl rfl (rmk_ok (by omega) (by decide))) hW rfl hl.1 rfl (Nat.le_of_ble_eq_true rfl) dX12_along_46 ⟨Nat.le_of_ble_eq_true rfl, Nat.le_of_ble_eq_true rfl⟩) hL (fun u_30 H locs k_31 hW hL => ?_)
          obtain ⟨iu_30, fu_30, xu_30⟩ := k_31
          have F_32 := hFm9.trans (fu_30.to (p1_sub rfl))
          have F_33 := hL9_.trans (fu_30.to (p1_sub rfl))
          have g_34 : FF S u_30 (fl []) := FF.fr hGm9 fu_30 rfl
          have g_35 : FF ((uA S 284 0 0)) u_30 (fl []) := FF.fr gL9_ fu_30 rfl
          have nv_36 : nv (u_30.2.1 277) 0 = S.2.2.1 260 j := xu_30.2.1
          have nv_37 : nv (u_30.2.1 277) 0 = A k j := (by rw [xu_30.2.1]; first | exact hMR.2.2.2.2.2.1 k j (by omega) (by omega) (by omega) (by omega) | (rw [show k = 0 by omega]; exact hMR.2.2.2.2.1 j (by omega) (by omega)))
          refine lv_aload_n hx hb dX12_along_49 rfl (lv_at hl 1 rfl) ?_
          refine g_X12_175 Cx hW (k := 231) (by decide) rfl (v := .ref (G.2.2.1 + 285)) (rd_95 iu_30) dX12_along_50 ?_
          refine lv_bipush (v := iv 10) hx hb dX12_along_53 (by decide) ?_
          refine lv_iload_n hx hb dX12_along_55 rfl (lv_at hl 0 rfl) ?_
          refine r_imul hx hb dX12_along_56 ?_
          refine lv_aload_n hx hb dX12_along_57 rfl (lv_at hl 1 rfl) ?_
          refine g_X12_151 Cx hW (k := 231) (by decide) rfl (v := .ref (G.2.2.1 + 277)) (rd_87 iu_30) dX12_along_58 ?_
          refine lv_iconst (v := iv 0) hx hb dX12_along_61 (by decide) ?_
          refine lv_aload_n hx hb dX12_along_62 rfl (lv_at hl 1 rfl) ?_
          refine g_X12_26 Cx hW (k := 231) (by decide) rfl (v := .ref (G.2.2.1 + 237)) (rd_7 iu_30) dX12_along_63 ?_
          refine lv_iconst (v := iv 0) hx hb dX12_along_66 (by decide) ?_
          refine sBv (sSt (As := [.ref (G.2.2.1 + 285), .int (iv (10 * j)), .ref (G.2.2.1 + 277), .int (iv 0), .ref (G.2.2.1 + 237), .int (iv 0)]) (rest := []) Cx (s_X12_multiply l G u_30 (ka := 285) (po := 10 * j) (kb := 277) (qo := 0) (kc := 237) (ro := 0) (Nka := 140) (Nkb := 4) (Nkc := 68) (La := 7) (Lb := 3) iu_30 ⟨rfl, by decide, by decide, by decide, rfl⟩ ⟨rfl, by decide, by decide, by decide, rfl⟩ ⟨rfl, by decide, by decide, by decide, rfl⟩ (show (237 : Nat) ≠ 277 by decide) (show (237 : Nat) ≠ 285 by decide) (by omega) (by rw [show u_30.2.1 285 = S.2.1 285 from (funext fun j => ((fu_30 285 rfl).2.1 j).trans (((hL9_ 285 rfl).2.1 j).trans (uA_ne (fun h => absurd h.1 (by decide)))))]; exact hPT.1 j (by omega) (by omega)) xu_30.1) (c_X12_548 Cx rfl rfl (rmk_ok (by omega) (by decide))) hW rfl hl.1 rfl (Nat.le_of_ble_eq_true rfl) dX12_along_67 ⟨Nat.le_of_ble_eq_true rfl, Nat.le_of_ble_eq_true rfl⟩) hL (fun u_38 H locs k_39 hW hL => ?_)
          obtain ⟨iu_38, fu_38, xu_38⟩ := k_39
          have F_40 := F_32.trans (fu_38.to (p1_sub rfl))
          have F_41 := F_33.trans (fu_38.to (p1_sub rfl))
          have g_42 : FF S u_38 (fl []) := FF.fr g_34 fu_38 rfl
          have g_43 : FF ((uA S 284 0 0)) u_38 (fl []) := FF.fr g_35 fu_38 rfl
          have nv_44 : nv (u_38.2.1 237) 0 = (pp j) * (A k j) := (by rw [xu_38.2.1, (show nv (u_30.2.1 285) (10 * j) = pp j by rw [show u_30.2.1 285 = S.2.1 285 from (funext fun j => ((fu_30 285 rfl).2.1 j).trans (((hL9_ 285 rfl).2.1 j).trans (uA_ne (fun h => absurd h.1 (by decide)))))]; exact (hPP.1 j (by omega) (by omega))), (show nv (u_30.2.1 277) 0 = A k j from nv_37)])
          refine lv_aload_n hx hb dX12_along_70 rfl (lv_at hl 1 rfl) ?_
          refine g_X12_172 Cx hW (k := 231) (by decide) rfl (v := .ref (G.2.2.1 + 284)) (rd_94 iu_38) dX12_along_71 ?_
          refine lv_iconst (v := iv 0) hx hb dX12_along_74 (by decide) ?_
          refine lv_aload_n hx hb dX12_along_75 rfl (lv_at hl 1 rfl) ?_
          refine g_X12_26 Cx hW (k := 231) (by decide) rfl (v := .ref (G.2.2.1 + 237)) (rd_7 iu_38) dX12_along_76 ?_
          refine lv_iconst (v := iv 0) hx hb dX12_along_79 (by decide) ?_
          refine lv_iconst (v := iv 0) hx hb dX12_along_80 (by decide) ?_
          refine lv_aload_n hx hb dX12_along_81 rfl (lv_at hl 1 rfl) ?_
          refine g_X12_172 Cx hW (k := 231) (by decide) rfl (v := .ref (G.2.2.1 + 284)) (rd_94 iu_38) dX12_along_82 ?_
          refine lv_iconst (v := iv 0) hx hb dX12_along_85 (by decide) ?_
          refine sBv (sSt (As := [.ref (G.2.2.1 + 284), .int (iv 0), .ref (G.2.2.1 + 237), .int (iv 0), .int (iv 0), .ref (G.2.2.1 + 284), .int (iv 0)]) (rest := []) Cx (s_X12_add l G u_38 (ka := 284) (po := 0) (kb := 237) (qo := 0) (lz := 0) (kc := 284) (ro := 0) (Nka := 520) (Nkb := 68) (Nkc := 520) (La := 9 + j) (Lb := 10) (Lc := 10 + j) iu_38 ⟨rfl, by decide, by decide, by decide, rfl⟩ ⟨rfl, by decide, by decide, by decide, rfl⟩ ⟨rfl, by decide, by decide, by decide, rfl⟩ (show (284 : Nat) ≠ 237 by decide) (fun _ => rfl) (by omega) (by omega) (by rw [show u_38.2.1 284 = S9.2.1 284 from (funext fun j => ((fu_38 284 rfl).2.1 j).trans ((fu_30 284 rfl).2.1 j))]; exact hs9) xu_38.1) (c_X12_249 Cx rfl rfl (rmk_ok (by omega) (by decide))) hW rfl hl.1 rfl (Nat.le_of_ble_eq_true rfl) dX12_along_86 ⟨Nat.le_of_ble_eq_true rfl, Nat.le_of_ble_eq_true rfl⟩) hL (fun u_45 H locs k_46 hW hL => ?_)
          obtain ⟨iu_45, fu_45, xu_45⟩ := k_46
          have F_47 := F_40.trans (fu_45.to (p1_sub rfl))
          have F_48 := F_41.trans (fu_45.to (p1_sub rfl))
          have g_49 : FF S u_45 (fl []) := FF.fr g_42 fu_45 rfl
          have g_50 : FF ((uA S 284 0 0)) u_45 (fl []) := FF.fr g_43 fu_45 rfl
          have nv_51 : nv (u_45.2.1 284) 0 = spt pp (A k) (j - 1).toNat + ((pp j) * (A k j)) := (by rw [xu_45.2.1, asn_0, (show nv (u_38.2.1 284) 0 = spt pp (A k) (j - 1).toNat by rw [show u_38.2.1 284 = S9.2.1 284 from (funext fun j => ((fu_38 284 rfl).2.1 j).trans ((fu_30 284 rfl).2.1 j))]; exact hv9), (show nv (u_38.2.1 237) 0 = (pp j) * (A k j) from nv_44)])
          refine lv_iinc (v := iv (j + 1)) (lv' := [(2, .int (iv (j + 1))), (0, .ref (G.2.2.1 + 231)), (1, .int (iv k))]) hx hb dX12_along_89 hl (k := 0) rfl ((Int32.ofInt_add _ _).symm) (by decide) rfl (fun ls hl => ?_)
          refine lv_goto (tgt := 9) hx hb dX12_along_92 (by decide) ?_
          exact ih_9 u_45 (j + 1) _ _ _ (by omega) iu_45 F_47 F_48 g_49 g_50 (by omega) (by rw [show 9 + (j + 1) = 10 + j by omega]; exact xu_45.1) (show _ = _ by rw [(show nv (u_45.2.1 284) 0 = spt pp (A k) (j - 1).toNat + ((pp j) * (A k j)) from nv_51), spt_st (by omega)]) hW hL (lv_sub hl [0, 1, 2] rfl)
  exact loop_9 (_ + 1) (uA S 284 0 0) 1 _ _ _ (Nat.lt_succ_self _) i_2 F_1 Fr.rf FF.rf FF.rf (by omega) (NO_z uA_on (by omega)) (show _ = _ from (nvz0 uA_on).trans rfl) hW hL (lv_sub hl [0, 1, 2] rfl)

set_option maxRecDepth 100000 in
set_option maxHeartbeats 4000000 in
theorem q_X12_isPoint (l : Launch) (G : sG) (S : sS) {bb : Int} {n mm mx : Int} {A : Int → Int → Int} {wh : Int → Int} {pp : Int → Int} (hI : dX G S) (hbb : 0 ≤ bb ∧ bb ≤ 1) (hm : 0 ≤ S.1 231 46 ∧ S.1 231 46 ≤ 12) (hm2 : 0 ≤ S.1 231 47 ∧ S.1 231 47 ≤ 16) (hPT : dPT S) (hGM : GM S) (hMR : Hd (MDr S n mm mx A wh)) (hPP : Hd (PTr S pp n)) : Met l yX12_isPoint (.code yX12_isPoint cX12_isPoint 4 (some .boolean) :: tb) (rmk 6 0 0) (sPc G 294 S [.ref (G.2.2.1 + 231), .int (iv bb)]) (sQi G 294 (fun r u => dX G u ∧ Fr S u (pl [233, 234, 235, 237, 240, 277, 284]) ∧ FF S u (fl []) ∧ ((0 ≤ r ∧ r ≤ 1) ∧ Hd (r = 1 ↔ okP n mm A wh pp bb)))) 0 0 (sF G) := by
  refine sEnter (by decide) (Nat.le_of_ble_eq_true rfl) ?_
  intro p e s m args below meth c Cx hr hlk hnm hW ls hl
  have Cx : sC G p m c cX12_isPoint 4 s args RX12 := Cx
  obtain ⟨hx, hb, hml, hown, hts⟩ := id Cx.1
  have hL : sL G [] := sL_nil
  have hl : lv_has ls 4 [(0, .ref (G.2.2.1 + 231)), (1, .int (iv bb))] := hl
  have hW0 := hW
  have hMn := hMR.1; have hMm := hMR.2.1; have hMx := hMR.2.2.1; have hMw := hMR.2.2.2.1
  refine lv_bipush (v := iv 10) hx hb dX12_isPoint_0 (by decide) ?_
  refine lv_aload_n hx hb dX12_isPoint_2 rfl (lv_at hl 0 rfl) ?_
  have q_1 : (-2147483648) ≤ S.1 231 46 ∧ S.1 231 46 ≤ 2147483647 := hI.fi 46
  refine g_X12_465 Cx hW (k := 231) (by decide) rfl (v := S.1 231 46) rfl dX12_isPoint_3 ?_
  refine lv_iconst (v := iv 1) hx hb dX12_isPoint_6 (by decide) ?_
  refine r_iadd hx hb dX12_isPoint_7 ?_
  refine r_imul hx hb dX12_isPoint_8 ?_
  refine lv_istore_n (lv' := [(2, .int (iv (10 * ((S.1 231 46) + 1)))), (0, .ref (G.2.2.1 + 231)), (1, .int (iv bb))]) hx hb dX12_isPoint_9 rfl hl (by decide) rfl (fun ls hl => ?_)
  refine lv_iconst (v := iv 1) hx hb dX12_isPoint_10 (by decide) ?_
  refine lv_istore_n (lv' := [(3, .int (iv 1)), (2, .int (iv (10 * ((S.1 231 46) + 1)))), (0, .ref (G.2.2.1 + 231)), (1, .int (iv bb))]) hx hb dX12_isPoint_11 rfl hl (by decide) rfl (fun ls hl => ?_)
  have loop_12 : ∀ (fuel : Nat) (S12 : sS) (j : Int) (H : Heap) (locs : List Loc) (ls : Array Slot), (S.1 231 46 + 1 - j).toNat < fuel → (dX G S12) → (Fr S S12 (pl [233, 234, 235, 237, 240, 277, 284])) → (Fr S S12 (pl [233, 234, 235, 237, 240])) → (FF S S12 (fl [])) → (FF S S12 (fl [])) → (1 ≤ j ∧ j ≤ S.1 231 46 + 1) → (Hd (∀ i, 1 ≤ i → i < j → 0 ≤ pp i ∧ (bb = 1 → wh i = 1 → pp i % pp 0 = 0))) → sW G 294 S12 H → sL G locs → lv_has ls 4 [(3, .int (iv j)), (2, .int (iv (10 * ((S.1 231 46) + 1)))), (0, .ref (G.2.2.1 + 231)), (1, .int (iv bb))] → W p l e (rmk 6 0 0) s m args below meth c H locs 0 0 (MQ below (sQi G 294 (fun r u => dX G u ∧ Fr S u (pl [233, 234, 235, 237, 240, 277, 284]) ∧ FF S u (fl []) ∧ ((0 ≤ r ∧ r ≤ 1) ∧ Hd (r = 1 ↔ okP n mm A wh pp bb)))) args s 0 0 (sF G)) (F0 m 12 ls []) := by
    intro fuel
    induction fuel with
    | zero => intro S12 j H locs ls hmeas hI12 hFm12 hL12_ hGm12 gL12_ hj hok12 hW hL hl; exact absurd hmeas (Nat.not_lt_zero _)
    | succ fuel ih_12 =>
      intro S12 j H locs ls hmeas hI12 hFm12 hL12_ hGm12 gL12_ hj hok12 hW hL hl
      refine lv_iload_n hx hb dX12_isPoint_12 rfl (lv_at hl 0 rfl) ?_
      refine lv_aload_n hx hb dX12_isPoint_13 rfl (lv_at hl 2 rfl) ?_
      refine g_X12_465 Cx hW (k := 231) (by decide) rfl (v := S.1 231 46) (gL12_ 46 rfl) dX12_isPoint_14 ?_
      refine r_icmp_gt (tgt := 94) hx hb ⟨(by omega), (by omega)⟩ ⟨(by omega), (by omega)⟩ dX12_isPoint_17 (by decide) (fun c_2 => ?_) (fun c_2 => ?_)
      · refine lv_iconst (v := iv 1) hx hb dX12_isPoint_94 (by decide) ?_
        refine lv_istore_n (lv' := [(3, .int (iv 1)), (2, .int (iv (10 * ((S.1 231 46) + 1)))), (0, .ref (G.2.2.1 + 231)), (1, .int (iv bb))]) hx hb dX12_isPoint_95 rfl hl (by decide) rfl (fun ls hl => ?_)
        have loop_96 : ∀ (fuel : Nat) (S96 : sS) (i : Int) (H : Heap) (locs : List Loc) (ls : Array Slot), (S.1 231 47 + 1 - i).toNat < fuel → (dX G S96) → (Fr S S96 (pl [233, 234, 235, 237, 240, 277, 284])) → (Fr S12 S96 (pl [233, 234, 235, 237, 240, 277, 284])) → (FF S S96 (fl [])) → (FF S12 S96 (fl [])) → (1 ≤ i ∧ i ≤ S.1 231 47 + 1) → (Hd (∀ k, 1 ≤ k → k < i → spt pp (A k) n.toNat ≤ pp 0 * A k 0)) → sW G 294 S96 H → sL G locs → lv_has ls 4 [(3, .int (iv i)), (2, .int (iv (10 * ((S.1 231 46) + 1)))), (0, .ref (G.2.2.1 + 231)), (1, .int (iv bb))] → W p l e (rmk 6 0 0) s m args below meth c H locs 0 0 (MQ below (sQi G 294 (fun r u => dX G u ∧ Fr S u (pl [233, 234, 235, 237, 240, 277, 284]) ∧ FF S u (fl []) ∧ ((0 ≤ r ∧ r ≤ 1) ∧ Hd (r = 1 ↔ okP n mm A wh pp bb)))) args s 0 0 (sF G)) (F0 m 96 ls []) := by
          intro fuel
          induction fuel with
          | zero => intro S96 i H locs ls hmeas hI96 hFm96 hL96_ hGm96 gL96_ hi hok96 hW hL hl; exact absurd hmeas (Nat.not_lt_zero _)
          | succ fuel ih_96 =>
            intro S96 i H locs ls hmeas hI96 hFm96 hL96_ hGm96 gL96_ hi hok96 hW hL hl
            refine lv_iload_n hx hb dX12_isPoint_96 rfl (lv_at hl 0 rfl) ?_
            refine lv_aload_n hx hb dX12_isPoint_97 rfl (lv_at hl 2 rfl) ?_
            have q_3 : (-2147483648) ≤ S.1 231 47 ∧ S.1 231 47 ≤ 2147483647 := hI.fi 47
            refine g_X12_468 Cx hW (k := 231) (by decide) rfl (v := S.1 231 47) ((gL96_ 47 rfl).trans (gL12_ 47 rfl)) dX12_isPoint_98 ?_
            refine r_icmp_gt (tgt := 168) hx hb ⟨(by omega), (by omega)⟩ ⟨(by omega), (by omega)⟩ dX12_isPoint_101 (by decide) (fun c_4 => ?_) (fun c_4 => ?_)
            · refine lv_iconst (v := iv 1) hx hb dX12_isPoint_168 (by decide) ?_
              exact sZret Cx hr hlk hW hL (by omega) ⟨hI96, hFm96, hGm96, ⟨(by omega), (show _ ↔ _ from ⟨fun _ => ⟨fun i a b => hok12 i a (by omega), fun i a b => hok96 i a (by omega)⟩, fun _ => rfl⟩)⟩⟩ dX12_isPoint_169
            · refine lv_aload_n hx hb dX12_isPoint_104 rfl (lv_at hl 2 rfl) ?_
              refine lv_iload_n hx hb dX12_isPoint_105 rfl (lv_at hl 0 rfl) ?_
              have lk_5 : S96.1 231 46 = S.1 231 46 := (gL96_ 46 rfl).trans (gL12_ 46 rfl)
              refine sBv (sV (As := [.int (iv i)]) (rest := []) (k := 231) Cx (q_X12_along l G S96 (k := i) (n := n) (mm := mm) (mx := mx) (A := A) (wh := wh) (pp := pp) hI96 (by omega) (by omega) (by omega) (dPT.sm (S := S) (u := S96) hPT ((gL96_ 46 rfl).trans (gL12_ 46 rfl)) (funext fun j => ((hL96_ 285 rfl).2.1 j).trans ((hL12_ 285 rfl).2.1 j))) (GM.sm (S := S) (u := S96) hGM (funext fun j => ((hL96_ 260 rfl).2.2.1 j).trans ((hL12_ 260 rfl).2.2.1 j)) (funext fun j => ((hL96_ 290 rfl).2.2.1 j).trans ((hL12_ 290 rfl).2.2.1 j))) (MDr.sm (S := S) (u := S96) hMR ((gL96_ 46 rfl).trans (gL12_ 46 rfl)) ((gL96_ 47 rfl).trans (gL12_ 47 rfl)) ((gL96_ 48 rfl).trans (gL12_ 48 rfl)) ((gL96_ 49 rfl).trans (gL12_ 49 rfl)) (funext fun j => ((hL96_ 259 rfl).2.1 j).trans ((hL12_ 259 rfl).2.1 j)) (funext fun j => ((hL96_ 260 rfl).2.2.1 j).trans ((hL12_ 260 rfl).2.2.1 j)) (funext fun j => ((hL96_ 290 rfl).2.2.1 j).trans ((hL12_ 290 rfl).2.2.1 j))) (PTr.sm (S := S) (u := S96) hPP (funext fun j => ((hL96_ 285 rfl).2.1 j).trans ((hL12_ 285 rfl).2.1 j)))) (c_X12_707 Cx rfl rfl (rmk_ok (by omega) (by decide))) hW (by decide) rfl rfl rfl hl.1 rfl (Nat.le_of_ble_eq_true rfl) dX12_isPoint_106 ⟨Nat.le_of_ble_eq_true rfl, Nat.le_of_ble_eq_true rfl⟩) hL (fun u_6 H locs k_7 hW hL => ?_)
              obtain ⟨iu_6, fu_6, gu_6, xu_6⟩ := k_7
              have F_8 := hFm96.trans (fu_6.to (pl_sub (by decide)))
              have F_9 := hL96_.trans (fu_6.to (pl_sub (by decide)))
              have g_10 : FF S u_6 (fl []) := FF.trans hGm96 (FF.to gu_6 (fl_sub (by decide)))
              have g_11 : FF S12 u_6 (fl []) := FF.trans gL96_ (FF.to gu_6 (fl_sub (by decide)))
              have nv_12 : nv (u_6.2.1 284) 0 = spt pp (A i) n.toNat := xu_6.2
              refine lv_aload_n hx hb dX12_isPoint_109 rfl (lv_at hl 2 rfl) ?_
              refine g_X12_151 Cx hW (k := 231) (by decide) rfl (v := .ref (G.2.2.1 + 277)) (rd_87 iu_6) dX12_isPoint_110 ?_
              refine lv_iconst (v := iv 0) hx hb dX12_isPoint_113 (by decide) ?_
              have hgv := hGM.2 (13 * i)
              refine lv_aload_n hx hb dX12_isPoint_114 rfl (lv_at hl 2 rfl) ?_
              refine g_X12_190 Cx hW (k := 231) (by decide) rfl (v := .ref (G.2.2.1 + 290)) (rd_101 iu_6) dX12_isPoint_115 ?_
              refine lv_bipush (v := iv 13) hx hb dX12_isPoint_118 (by decide) ?_
              refine lv_iload_n hx hb dX12_isPoint_120 rfl (lv_at hl 0 rfl) ?_
              refine r_imul hx hb dX12_isPoint_121 ?_
              refine rLald Cx hW (k := 290) (by decide) rfl (by decide) (by omega) (by omega) dX12_isPoint_122 ?_
              have q_13 : -9223372036854775808 ≤ S.2.2.1 290 (13 * i) ∧ S.2.2.1 290 (13 * i) ≤ 9223372036854775807 := hI.li 290 (13 * i)
              refine r_j (b := S.2.2.1 290 (13 * i)) (((fu_6 290 rfl).2.2.1 (13 * i)).trans (((hL96_ 290 rfl).2.2.1 (13 * i)).trans ((hL12_ 290 rfl).2.2.1 (13 * i)))) ?_
              refine sBv (sSt (As := [.ref (G.2.2.1 + 277), .int (iv 0), .long (jv (S.2.2.1 290 (13 * i)))]) (rest := []) Cx (s_X12_put l G u_6 (ka := 277) (po := 0) (v := S.2.2.1 290 (13 * i)) (Nka := 4) iu_6 ⟨rfl, by decide, by decide, by decide, rfl⟩ (by omega) (by omega)) (c_X12_241 Cx rfl rfl (rmk_ok (by omega) (by decide))) hW rfl hl.1 rfl (Nat.le_of_ble_eq_true rfl) dX12_isPoint_123 ⟨Nat.le_of_ble_eq_true rfl, Nat.le_of_ble_eq_true rfl⟩) hL (fun u_14 H locs k_15 hW hL => ?_)
              obtain ⟨iu_14, fu_14, xu_14⟩ := k_15
              have F_16 := F_8.trans (fu_14.to (p1_sub rfl))
              have F_17 := F_9.trans (fu_14.to (p1_sub rfl))
              have g_18 : FF S u_14 (fl []) := FF.fr g_10 fu_14 rfl
              have g_19 : FF S12 u_14 (fl []) := FF.fr g_11 fu_14 rfl
              have nv_20 : nv (u_14.2.1 277) 0 = S.2.2.1 290 (13 * i) := xu_14.2.1
              have nv_21 : nv (u_14.2.1 277) 0 = A i 0 := (by rw [xu_14.2.1]; exact hMR.z (by omega) (by omega))
              refine lv_aload_n hx hb dX12_isPoint_126 rfl (lv_at hl 2 rfl) ?_
              refine g_X12_175 Cx hW (k := 231) (by decide) rfl (v := .ref (G.2.2.1 + 285)) (rd_95 iu_14) dX12_isPoint_127 ?_
              refine lv_iload_n hx hb dX12_isPoint_130 rfl (lv_at hl 1 rfl) ?_
              refine lv_aload_n hx hb dX12_isPoint_131 rfl (lv_at hl 2 rfl) ?_
              refine g_X12_151 Cx hW (k := 231) (by decide) rfl (v := .ref (G.2.2.1 + 277)) (rd_87 iu_14) dX12_isPoint_132 ?_
              refine lv_iconst (v := iv 0) hx hb dX12_isPoint_135 (by decide) ?_
              refine lv_aload_n hx hb dX12_isPoint_136 rfl (lv_at hl 2 rfl) ?_
              refine g_X12_26 Cx hW (k := 231) (by decide) rfl (v := .ref (G.2.2.1 + 237)) (rd_7 iu_14) dX12_isPoint_137 ?_
              refine lv_iconst (v := iv 0) hx hb dX12_isPoint_140 (by decide) ?_
              refine sBv (sSt (As := [.ref (G.2.2.1 + 285), .int (iv (10 * ((S.1 231 46) + 1))), .ref (G.2.2.1 + 277), .int (iv 0), .ref (G.2.2.1 + 237), .int (iv 0)]) (rest := []) Cx (s_X12_multiply l G u_14 (ka := 285) (po := 10 * ((S.1 231 46) + 1)) (kb := 277) (qo := 0) (kc := 237) (ro := 0) (Nka := 140) (Nkb := 4) (Nkc := 68) (La := 7) (Lb := 3) iu_14 ⟨rfl, by decide, by decide, by decide, rfl⟩ ⟨rfl, by decide, by decide, by decide, rfl⟩ ⟨rfl, by decide, by decide, by decide, rfl⟩ (show (237 : Nat) ≠ 277 by decide) (show (237 : Nat) ≠ 285 by decide) (by omega) (by rw [show u_14.2.1 285 = S.2.1 285 from (funext fun j => ((fu_14 285 rfl).2.1 j).trans (((fu_6 285 rfl).2.1 j).trans (((hL96_ 285 rfl).2.1 j).trans ((hL12_ 285 rfl).2.1 j))))]; exact hPT.1 (S.1 231 46 + 1) (by omega) (by omega)) xu_14.1) (c_X12_548 Cx rfl rfl (rmk_ok (by omega) (by decide))) hW rfl hl.1 rfl (Nat.le_of_ble_eq_true rfl) dX12_isPoint_141 ⟨Nat.le_of_ble_eq_true rfl, Nat.le_of_ble_eq_true rfl⟩) hL (fun u_22 H locs k_23 hW hL => ?_)
              obtain ⟨iu_22, fu_22, xu_22⟩ := k_23
              have F_24 := F_16.trans (fu_22.to (p1_sub rfl))
              have F_25 := F_17.trans (fu_22.to (p1_sub rfl))
              have g_26 : FF S u_22 (fl []) := FF.fr g_18 fu_22 rfl
              have g_27 : FF S12 u_22 (fl []) := FF.fr g_19 fu_22 rfl
              have nv_28 : nv (u_22.2.1 237) 0 = (pp 0) * (A i 0) := (by rw [xu_22.2.1, (show nv (u_14.2.1 285) (10 * ((S.1 231 46) + 1)) = pp 0 by rw [show u_14.2.1 285 = S.2.1 285 from (funext fun j => ((fu_14 285 rfl).2.1 j).trans (((fu_6 285 rfl).2.1 j).trans (((hL96_ 285 rfl).2.1 j).trans ((hL12_ 285 rfl).2.1 j))))]; exact (by have h := hPP.2; rw [← hMn] at h; exact h)), (show nv (u_14.2.1 277) 0 = A i 0 from nv_21)])
              refine lv_aload_n hx hb dX12_isPoint_144 rfl (lv_at hl 2 rfl) ?_
              refine g_X12_172 Cx hW (k := 231) (by decide) rfl (v := .ref (G.2.2.1 + 284)) (rd_94 iu_22) dX12_isPoint_145 ?_
              refine lv_iconst (v := iv 0) hx hb dX12_isPoint_148 (by decide) ?_
              refine lv_aload_n hx hb dX12_isPoint_149 rfl (lv_at hl 2 rfl) ?_
              refine g_X12_26 Cx hW (k := 231) (by decide) rfl (v := .ref (G.2.2.1 + 237)) (rd_7 iu_22) dX12_isPoint_150 ?_
              refine lv_iconst (v := iv 0) hx hb dX12_isPoint_153 (by decide) ?_
              refine sBi (sSt (As := [.ref (G.2.2.1 + 284), .int (iv 0), .ref (G.2.2.1 + 237), .int (iv 0)]) (rest := []) Cx (s_X12_compare l G u_22 (ka := 284) (po := 0) (kb := 237) (qo := 0) (Nka := 520) (Nkb := 68) (La := 23) (Lb := 10) iu_22 ⟨rfl, by decide, by decide, by decide, rfl⟩ ⟨rfl, by decide, by decide, by decide, rfl⟩ (by omega) (by rw [show u_22.2.1 284 = u_6.2.1 284 from (funext fun j => ((fu_22 284 rfl).2.1 j).trans ((fu_14 284 rfl).2.1 j))]; exact xu_6.1) xu_22.1) (c_X12_552 Cx rfl rfl (rmk_ok (by omega) (by decide))) hW rfl hl.1 rfl (Nat.le_of_ble_eq_true rfl) dX12_isPoint_154 ⟨Nat.le_of_ble_eq_true rfl, Nat.le_of_ble_eq_true rfl⟩) hL (fun r_31 u_29 H locs k_30 hW hL => ?_)
              obtain ⟨eu_29, xu_29⟩ := k_30
              rw [eu_29] at hW
              have cf_32 := (show _ ∧ _ ∧ _ from xu_29.2)
              rw [(show nv (u_22.2.1 284) 0 = spt pp (A i) n.toNat by rw [show u_22.2.1 284 = u_6.2.1 284 from (funext fun j => ((fu_22 284 rfl).2.1 j).trans ((fu_14 284 rfl).2.1 j))]; exact nv_12), (show nv (u_22.2.1 237) 0 = (pp 0) * (A i 0) from nv_28)] at cf_32
              refine r_if_le (tgt := 162) hx hb ⟨(by omega), (by omega)⟩ dX12_isPoint_157 (by decide) (fun c_33 => ?_) (fun c_33 => ?_)
              · refine lv_iinc (v := iv (i + 1)) (lv' := [(3, .int (iv (i + 1))), (2, .int (iv (10 * ((S.1 231 46) + 1)))), (0, .ref (G.2.2.1 + 231)), (1, .int (iv bb))]) hx hb dX12_isPoint_162 hl (k := 0) rfl ((Int32.ofInt_add _ _).symm) (by decide) rfl (fun ls hl => ?_)
                refine lv_goto (tgt := 96) hx hb dX12_isPoint_165 (by decide) ?_
                exact ih_96 u_22 (i + 1) _ _ _ (by omega) iu_22 F_24 F_25 g_26 g_27 (by omega) (fun k a b => by by_cases z : k = i; (rw [z]; omega); exact hok96 k a (by omega)) hW hL (lv_sub hl [0, 1, 2, 3] rfl)
              · refine lv_iconst (v := iv 0) hx hb dX12_isPoint_160 (by decide) ?_
                exact sZret Cx hr hlk hW hL (by omega) ⟨iu_22, F_24, g_26, ⟨(by omega), (show _ ↔ _ from ⟨fun z => absurd z (by omega), fun z => by have y := z.2 i (by omega) (by omega); exfalso; omega⟩)⟩⟩ dX12_isPoint_161
        exact loop_96 (_ + 1) S12 1 _ _ _ (Nat.lt_succ_self _) hI12 hFm12 Fr.rf hGm12 FF.rf (by omega) (fun i a b => absurd b (by omega)) hW hL (lv_sub hl [0, 1, 2, 3] rfl)
      · have hsj := (hPT.1 j (by omega) (by omega)).sgn
        rw [hPP.1 j (by omega) (by omega)] at hsj
        have hsj1 := hsj.1.mp; have hsj2 := hsj.1.mpr; clear hsj
        refine lv_aload_n hx hb dX12_isPoint_20 rfl (lv_at hl 2 rfl) ?_
        refine g_X12_175 Cx hW (k := 231) (by decide) rfl (v := .ref (G.2.2.1 + 285)) (rd_95 hI12) dX12_isPoint_21 ?_
        refine lv_bipush (v := iv 10) hx hb dX12_isPoint_24 (by decide) ?_
        refine lv_iload_n hx hb dX12_isPoint_26 rfl (lv_at hl 0 rfl) ?_
        refine r_imul hx hb dX12_isPoint_27 ?_
        refine rIald Cx hW (k := 285) (by decide) rfl (by decide) (by omega) (by omega) dX12_isPoint_28 ?_
        have q_34 : (-2147483648) ≤ S.2.1 285 (10 * j) ∧ S.2.1 285 (10 * j) ≤ 2147483647 := hI.ai 285 (10 * j)
        refine r_i (b := S.2.1 285 (10 * j)) ((hL12_ 285 rfl).2.1 (10 * j)) ?_
        refine r_if_ge (tgt := 34) hx hb ⟨(by omega), (by omega)⟩ dX12_isPoint_29 (by decide) (fun c_35 => ?_) (fun c_35 => ?_)
        · have hge : 0 ≤ pp j := by omega
          have join_88 : ∀ (S88 : sS)  (H : Heap) (locs : List Loc) (ls : Array Slot), (dX G S88) → (Fr S S88 (pl [233, 234, 235, 237, 240, 277, 284])) → (Fr S S88 (pl [233, 234, 235, 237, 240])) → (Fr S12 S88 (pl [233, 234, 235, 237, 240])) → (FF S S88 (fl [])) → (FF S S88 (fl [])) → (FF S12 S88 (fl [])) → (Hd (bb = 1 → wh j = 1 → pp j % pp 0 = 0)) → sW G 294 S88 H → sL G locs → lv_has ls 4 [(3, .int (iv j)), (2, .int (iv (10 * ((S.1 231 46) + 1)))), (0, .ref (G.2.2.1 + 231)), (1, .int (iv bb))] → W p l e (rmk 6 0 0) s m args below meth c H locs 0 0 (MQ below (sQi G 294 (fun r u => dX G u ∧ Fr S u (pl [233, 234, 235, 237, 240, 277, 284]) ∧ FF S u (fl []) ∧ ((0 ≤ r ∧ r ≤ 1) ∧ Hd (r = 1 ↔ okP n mm A wh pp bb)))) args s 0 0 (sF G)) (F0 m 88 ls []) := by
            intro S88  H locs ls hI88 hFm88 hFL1288 hL88_ hGm88 hGL1288 gL88_ hj88 hW hL hl
            refine lv_iinc (v := iv (j + 1)) (lv' := [(3, .int (iv (j + 1))), (2, .int (iv (10 * ((S.1 231 46) + 1)))), (0, .ref (G.2.2.1 + 231)), (1, .int (iv bb))]) hx hb dX12_isPoint_88 hl (k := 0) rfl ((Int32.ofInt_add _ _).symm) (by decide) rfl (fun ls hl => ?_)
            refine lv_goto (tgt := 12) hx hb dX12_isPoint_91 (by decide) ?_
            exact ih_12 S88 (j + 1) _ _ _ (by omega) hI88 hFm88 hFL1288 hGm88 hGL1288 (by omega) (fun i a b => by by_cases z : i = j; (rw [z]; exact ⟨hge, hj88⟩); exact hok12 i a (by omega)) hW hL (lv_sub hl [0, 1, 2, 3] rfl)
          refine lv_iload_n hx hb dX12_isPoint_34 rfl (lv_at hl 3 rfl) ?_
          refine r_if_eq (tgt := 88) hx hb ⟨(by omega), (by omega)⟩ dX12_isPoint_35 (by decide) (fun c_36 => ?_) (fun c_36 => ?_)
          · exact join_88 S12  _ _ _ hI12 hFm12 hL12_ (Fr.rf : Fr S12 S12 (pl [233, 234, 235, 237, 240])) hGm12 gL12_ (FF.rf : FF S12 S12 (fl [])) (fun z1 z2 => by first | (exfalso; omega) | omega) hW hL (lv_sub hl [0, 1, 2, 3] rfl)
          · have hwj := hMR.2.2.2.2.2.2 j (by omega) (by omega)
            refine lv_aload_n hx hb dX12_isPoint_38 rfl (lv_at hl 2 rfl) ?_
            refine g_X12_94 Cx hW (k := 231) (by decide) rfl (v := .ref (G.2.2.1 + 259)) (rd_50 hI12) dX12_isPoint_39 ?_
            refine lv_iload_n hx hb dX12_isPoint_42 rfl (lv_at hl 0 rfl) ?_
            refine rZald Cx hW (k := 259) (by decide) rfl (by decide) (by omega) (by omega) dX12_isPoint_43 ?_
            have q_37 : 0 ≤ S.2.1 259 j ∧ S.2.1 259 j ≤ 1 := hI.ai 259 j
            refine r_i (b := S.2.1 259 j) ((hL12_ 259 rfl).2.1 j) ?_
            refine r_if_ne (tgt := 50) hx hb ⟨(by omega), (by omega)⟩ dX12_isPoint_44 (by decide) (fun c_38 => ?_) (fun c_38 => ?_)
            · have hbp50 : 0 < S12.2.1 285 (10 * (S.1 231 46 + 1)) := by rw [show S12.2.1 285 = S.2.1 285 from (funext fun j => (hL12_ 285 rfl).2.1 j)]; exact (hPT.1 (S.1 231 46 + 1) (by omega) (by omega)).sgn.2.1.mp hPT.2
              refine lv_aload_n hx hb dX12_isPoint_50 rfl (lv_at hl 2 rfl) ?_
              refine lv_aload_n hx hb dX12_isPoint_51 rfl (lv_at hl 2 rfl) ?_
              refine g_X12_175 Cx hW (k := 231) (by decide) rfl (v := .ref (G.2.2.1 + 285)) (rd_95 hI12) dX12_isPoint_52 ?_
              refine lv_bipush (v := iv 10) hx hb dX12_isPoint_55 (by decide) ?_
              refine lv_iload_n hx hb dX12_isPoint_57 rfl (lv_at hl 0 rfl) ?_
              refine r_imul hx hb dX12_isPoint_58 ?_
              refine lv_aload_n hx hb dX12_isPoint_59 rfl (lv_at hl 2 rfl) ?_
              refine g_X12_175 Cx hW (k := 231) (by decide) rfl (v := .ref (G.2.2.1 + 285)) (rd_95 hI12) dX12_isPoint_60 ?_
              refine lv_iload_n hx hb dX12_isPoint_63 rfl (lv_at hl 1 rfl) ?_
              refine lv_aload_n hx hb dX12_isPoint_64 rfl (lv_at hl 2 rfl) ?_
              refine g_X12_26 Cx hW (k := 231) (by decide) rfl (v := .ref (G.2.2.1 + 237)) (rd_7 hI12) dX12_isPoint_65 ?_
              refine lv_iconst (v := iv 0) hx hb dX12_isPoint_68 (by decide) ?_
              refine lv_aload_n hx hb dX12_isPoint_69 rfl (lv_at hl 2 rfl) ?_
              refine g_X12_35 Cx hW (k := 231) (by decide) rfl (v := .ref (G.2.2.1 + 240)) (rd_10 hI12) dX12_isPoint_70 ?_
              refine lv_iconst (v := iv 0) hx hb dX12_isPoint_73 (by decide) ?_
              refine sBv (sV (As := [.ref (G.2.2.1 + 285), .int (iv (10 * j)), .ref (G.2.2.1 + 285), .int (iv (10 * ((S.1 231 46) + 1))), .ref (G.2.2.1 + 237), .int (iv 0), .ref (G.2.2.1 + 240), .int (iv 0)]) (rest := []) (k := 231) Cx (s_X12_divide l G S12 (ka := 285) (po := 10 * j) (kb := 285) (qo := 10 * ((S.1 231 46) + 1)) (kc := 237) (ro := 0) (kd := 240) (eo := 0) (Nka := 140) (Nkb := 140) (Nkc := 68) (Nkd := 68) (La := 7) (Lb := 7) (Ld := 8) hI12 ⟨rfl, by decide, by decide, by decide, rfl⟩ ⟨rfl, by decide, by decide, by decide, rfl⟩ ⟨rfl, by decide, by decide, by decide, rfl⟩ ⟨rfl, by decide, by decide, by decide, rfl⟩ (show (237 : Nat) ≠ 285 by decide) (show (240 : Nat) ≠ 285 by decide) (show (237 : Nat) ≠ 285 by decide) (show (240 : Nat) ≠ 285 by decide) (show (237 : Nat) ≠ 240 by decide) (show (285 : Nat) ≠ 233 by decide) (show (285 : Nat) ≠ 233 by decide) (show (285 : Nat) ≠ 234 by decide) (show (285 : Nat) ≠ 235 by decide) (show (237 : Nat) ≠ 233 by decide) (show (237 : Nat) ≠ 234 by decide) (show (237 : Nat) ≠ 235 by decide) (show (240 : Nat) ≠ 233 by decide) (show (240 : Nat) ≠ 234 by decide) (show (240 : Nat) ≠ 235 by decide) (by omega) (by omega) (by rw [show S12.2.1 285 = S.2.1 285 from (funext fun j => (hL12_ 285 rfl).2.1 j)]; exact hPT.1 j (by omega) (by omega)) (by rw [show S12.2.1 285 = S.2.1 285 from (funext fun j => (hL12_ 285 rfl).2.1 j)]; exact hPT.1 (S.1 231 46 + 1) (by omega) (by omega))) (c_X12_266 Cx rfl rfl (rmk_ok (by omega) (by decide))) hW (by decide) rfl rfl rfl hl.1 rfl (Nat.le_of_ble_eq_true rfl) dX12_isPoint_74 ⟨Nat.le_of_ble_eq_true rfl, Nat.le_of_ble_eq_true rfl⟩) hL (fun u_39 H locs k_40 hW hL => ?_)
              obtain ⟨iu_39, fu_39, xu_39⟩ := k_40
              have F_41 := hFm12.trans (fu_39.to (pl_sub (by decide)))
              have F_42 := hL12_.trans fu_39
              have F_43 := (Fr.rf : Fr S12 S12 (pl [233, 234, 235, 237, 240])).trans fu_39
              have g_44 : FF S u_39 (fl []) := FF.fr hGm12 fu_39 rfl
              have g_45 : FF S u_39 (fl []) := FF.fr gL12_ fu_39 rfl
              have g_46 : FF S12 u_39 (fl []) := FF.fr (FF.rf : FF S12 S12 (fl [])) fu_39 rfl
              have dq_47 : Hd (nv (u_39.2.1 237) 0 = (pp j) / (pp 0) ∧ nv (u_39.2.1 240) 0 = (pp j) % (pp 0)) := dv_eq (by have h := xu_39.2.2.1; rw [(show nv (S12.2.1 285) (10 * j) = pp j by rw [show S12.2.1 285 = S.2.1 285 from (funext fun j => (hL12_ 285 rfl).2.1 j)]; exact (hPP.1 j (by omega) (by omega))), (show nv (S12.2.1 285) (10 * ((S.1 231 46) + 1)) = pp 0 by rw [show S12.2.1 285 = S.2.1 285 from (funext fun j => (hL12_ 285 rfl).2.1 j)]; exact (by have h := hPP.2; rw [← hMn] at h; exact h))] at h; exact h)
              have nv_48 : nv (u_39.2.1 237) 0 = (pp j) / (pp 0) := dq_47.1
              have nv_49 : nv (u_39.2.1 240) 0 = (pp j) % (pp 0) := dq_47.2
              have hsd := xu_39.2.1.sgn.2.2
              rw [(show nv (u_39.2.1 240) 0 = (pp j) % (pp 0) from nv_49)] at hsd
              have hsd1 := hsd.mp; have hsd2 := hsd.mpr; clear hsd
              refine lv_aload_n hx hb dX12_isPoint_77 rfl (lv_at hl 2 rfl) ?_
              refine g_X12_35 Cx hW (k := 231) (by decide) rfl (v := .ref (G.2.2.1 + 240)) (rd_10 iu_39) dX12_isPoint_78 ?_
              refine lv_iconst (v := iv 0) hx hb dX12_isPoint_81 (by decide) ?_
              refine rIald Cx hW (k := 240) (by decide) rfl (by decide) (by omega) (by omega) dX12_isPoint_82 ?_
              have q_50 : (-2147483648) ≤ u_39.2.1 240 0 ∧ u_39.2.1 240 0 ≤ 2147483647 := iu_39.ai 240 0
              refine r_i (b := u_39.2.1 240 0) rfl ?_
              refine r_if_eq (tgt := 88) hx hb ⟨(by omega), (by omega)⟩ dX12_isPoint_83 (by decide) (fun c_51 => ?_) (fun c_51 => ?_)
              · exact join_88 u_39  _ _ _ iu_39 F_41 F_42 F_43 g_44 g_45 g_46 (fun z1 z2 => by first | (exfalso; omega) | omega) hW hL (lv_sub hl [0, 1, 2, 3] rfl)
              · refine lv_iconst (v := iv 0) hx hb dX12_isPoint_86 (by decide) ?_
                exact sZret Cx hr hlk hW hL (by omega) ⟨iu_39, F_41, g_44, ⟨(by omega), (show _ ↔ _ from ⟨fun z => absurd z (by omega), fun z => by have y := (z.1 j (by omega) (by omega)).2 (by omega) (by omega); exfalso; omega⟩)⟩⟩ dX12_isPoint_87
            · refine lv_goto (tgt := 88) hx hb dX12_isPoint_47 (by decide) ?_
              exact join_88 S12  _ _ _ hI12 hFm12 hL12_ (Fr.rf : Fr S12 S12 (pl [233, 234, 235, 237, 240])) hGm12 gL12_ (FF.rf : FF S12 S12 (fl [])) (fun z1 z2 => by first | (exfalso; omega) | omega) hW hL (lv_sub hl [0, 1, 2, 3] rfl)
        · refine lv_iconst (v := iv 0) hx hb dX12_isPoint_32 (by decide) ?_
          exact sZret Cx hr hlk hW hL (by omega) ⟨hI12, hFm12, hGm12, ⟨(by omega), (show _ ↔ _ from ⟨fun z => absurd z (by omega), fun z => by have y := (z.1 j (by omega) (by omega)).1; exfalso; omega⟩)⟩⟩ dX12_isPoint_33
  exact loop_12 (_ + 1) S 1 _ _ _ (Nat.lt_succ_self _) hI (Fr.rf : Fr S S (pl [233, 234, 235, 237, 240, 277, 284])) Fr.rf FF.rf FF.rf (by omega) (fun i a b => absurd b (by omega)) hW hL (lv_sub hl [0, 1, 2, 3] rfl)

set_option maxRecDepth 100000 in
set_option maxHeartbeats 4000000 in
theorem q_X12_isValue (l : Launch) (G : sG) (S : sS)  {n mm mx : Int} {A : Int → Int → Int} {wh : Int → Int} {pp : Int → Int} {vt vb : Int} (hI : dX G S) (hm : 0 ≤ S.1 231 46 ∧ S.1 231 46 ≤ 12) (hm2 : 0 ≤ S.1 231 47 ∧ S.1 231 47 ≤ 16) (hPT : dPT S) (hUP : dUP S) (hGM : GM S) (hMR : Hd (MDr S n mm mx A wh)) (hPP : Hd (PTr S pp n)) (hUV : Hd (UVr S vt vb)) : Met l yX12_isValue (.code yX12_isValue cX12_isValue 2 (some .boolean) :: tb) (rmk 6 0 0) (sPc G 294 S [.ref (G.2.2.1 + 231)]) (sQi G 294 (fun r u => dX G u ∧ Fr S u (pl [237, 238, 277, 284]) ∧ FF S u (fl []) ∧ ((0 ≤ r ∧ r ≤ 1) ∧ Hd (r = 1 ↔ okV n A pp vt vb)))) 0 0 (sF G) := by
  refine sEnter (by decide) (Nat.le_of_ble_eq_true rfl) ?_
  intro p e s m args below meth c Cx hr hlk hnm hW ls hl
  have Cx : sC G p m c cX12_isValue 2 s args RX12 := Cx
  obtain ⟨hx, hb, hml, hown, hts⟩ := id Cx.1
  have hL : sL G [] := sL_nil
  have hl : lv_has ls 2 [(0, .ref (G.2.2.1 + 231))] := hl
  have hW0 := hW
  have hMn := hMR.1; have hMm := hMR.2.1; have hMx := hMR.2.2.1; have hMw := hMR.2.2.2.1
  refine lv_bipush (v := iv 10) hx hb dX12_isValue_0 (by decide) ?_
  refine lv_aload_n hx hb dX12_isValue_2 rfl (lv_at hl 0 rfl) ?_
  have q_1 : (-2147483648) ≤ S.1 231 46 ∧ S.1 231 46 ≤ 2147483647 := hI.fi 46
  refine g_X12_465 Cx hW (k := 231) (by decide) rfl (v := S.1 231 46) rfl dX12_isValue_3 ?_
  refine lv_iconst (v := iv 1) hx hb dX12_isValue_6 (by decide) ?_
  refine r_iadd hx hb dX12_isValue_7 ?_
  refine r_imul hx hb dX12_isValue_8 ?_
  refine lv_istore_n (lv' := [(1, .int (iv (10 * ((S.1 231 46) + 1)))), (0, .ref (G.2.2.1 + 231))]) hx hb dX12_isValue_9 rfl hl (by decide) rfl (fun ls hl => ?_)
  refine lv_aload_n hx hb dX12_isValue_10 rfl (lv_at hl 1 rfl) ?_
  refine lv_iconst (v := iv 0) hx hb dX12_isValue_11 (by decide) ?_
  refine sBv (sV (As := [.int (iv 0)]) (rest := []) (k := 231) Cx (q_X12_along l G S (k := 0) (n := n) (mm := mm) (mx := mx) (A := A) (wh := wh) (pp := pp) hI (by omega) (by omega) (by omega) hPT hGM hMR hPP) (c_X12_707 Cx rfl rfl (rmk_ok (by omega) (by decide))) hW (by decide) rfl rfl rfl hl.1 rfl (Nat.le_of_ble_eq_true rfl) dX12_isValue_12 ⟨Nat.le_of_ble_eq_true rfl, Nat.le_of_ble_eq_true rfl⟩) hL (fun u_2 H locs k_3 hW hL => ?_)
  obtain ⟨iu_2, fu_2, gu_2, xu_2⟩ := k_3
  have F_4 := (Fr.rf : Fr S S (pl [237, 238, 277, 284])).trans (fu_2.to (pl_sub (by decide)))
  have g_5 : FF S u_2 (fl []) := FF.trans FF.rf (FF.to gu_2 (fl_sub (by decide)))
  have nv_6 : nv (u_2.2.1 284) 0 = spt pp (A 0) n.toNat := xu_2.2
  have hgv := hGM.1 0
  refine lv_aload_n hx hb dX12_isValue_15 rfl (lv_at hl 1 rfl) ?_
  refine g_X12_151 Cx hW (k := 231) (by decide) rfl (v := .ref (G.2.2.1 + 277)) (rd_87 iu_2) dX12_isValue_16 ?_
  refine lv_iconst (v := iv 0) hx hb dX12_isValue_19 (by decide) ?_
  refine lv_aload_n hx hb dX12_isValue_20 rfl (lv_at hl 1 rfl) ?_
  refine g_X12_97 Cx hW (k := 231) (by decide) rfl (v := .ref (G.2.2.1 + 260)) (rd_51 iu_2) dX12_isValue_21 ?_
  refine lv_iconst (v := iv 0) hx hb dX12_isValue_24 (by decide) ?_
  refine rLald Cx hW (k := 260) (by decide) rfl (by decide) (by omega) (by omega) dX12_isValue_25 ?_
  have q_7 : -9223372036854775808 ≤ S.2.2.1 260 0 ∧ S.2.2.1 260 0 ≤ 9223372036854775807 := hI.li 260 0
  refine r_j (b := S.2.2.1 260 0) ((fu_2 260 rfl).2.2.1 0) ?_
  refine sBv (sSt (As := [.ref (G.2.2.1 + 277), .int (iv 0), .long (jv (S.2.2.1 260 0))]) (rest := []) Cx (s_X12_put l G u_2 (ka := 277) (po := 0) (v := S.2.2.1 260 0) (Nka := 4) iu_2 ⟨rfl, by decide, by decide, by decide, rfl⟩ (by omega) (by omega)) (c_X12_241 Cx rfl rfl (rmk_ok (by omega) (by decide))) hW rfl hl.1 rfl (Nat.le_of_ble_eq_true rfl) dX12_isValue_26 ⟨Nat.le_of_ble_eq_true rfl, Nat.le_of_ble_eq_true rfl⟩) hL (fun u_8 H locs k_9 hW hL => ?_)
  obtain ⟨iu_8, fu_8, xu_8⟩ := k_9
  have F_10 := F_4.trans (fu_8.to (p1_sub rfl))
  have g_11 : FF S u_8 (fl []) := FF.fr g_5 fu_8 rfl
  have nv_12 : nv (u_8.2.1 277) 0 = S.2.2.1 260 0 := xu_8.2.1
  have nv_13 : nv (u_8.2.1 277) 0 = A 0 0 := (by rw [xu_8.2.1]; exact hMR.2.2.2.2.1 0 (by omega) (by omega))
  refine lv_aload_n hx hb dX12_isValue_29 rfl (lv_at hl 1 rfl) ?_
  refine g_X12_175 Cx hW (k := 231) (by decide) rfl (v := .ref (G.2.2.1 + 285)) (rd_95 iu_8) dX12_isValue_30 ?_
  refine lv_iload_n hx hb dX12_isValue_33 rfl (lv_at hl 0 rfl) ?_
  refine lv_aload_n hx hb dX12_isValue_34 rfl (lv_at hl 1 rfl) ?_
  refine g_X12_151 Cx hW (k := 231) (by decide) rfl (v := .ref (G.2.2.1 + 277)) (rd_87 iu_8) dX12_isValue_35 ?_
  refine lv_iconst (v := iv 0) hx hb dX12_isValue_38 (by decide) ?_
  refine lv_aload_n hx hb dX12_isValue_39 rfl (lv_at hl 1 rfl) ?_
  refine g_X12_26 Cx hW (k := 231) (by decide) rfl (v := .ref (G.2.2.1 + 237)) (rd_7 iu_8) dX12_isValue_40 ?_
  refine lv_iconst (v := iv 0) hx hb dX12_isValue_43 (by decide) ?_
  refine sBv (sSt (As := [.ref (G.2.2.1 + 285), .int (iv (10 * ((S.1 231 46) + 1))), .ref (G.2.2.1 + 277), .int (iv 0), .ref (G.2.2.1 + 237), .int (iv 0)]) (rest := []) Cx (s_X12_multiply l G u_8 (ka := 285) (po := 10 * ((S.1 231 46) + 1)) (kb := 277) (qo := 0) (kc := 237) (ro := 0) (Nka := 140) (Nkb := 4) (Nkc := 68) (La := 7) (Lb := 3) iu_8 ⟨rfl, by decide, by decide, by decide, rfl⟩ ⟨rfl, by decide, by decide, by decide, rfl⟩ ⟨rfl, by decide, by decide, by decide, rfl⟩ (show (237 : Nat) ≠ 277 by decide) (show (237 : Nat) ≠ 285 by decide) (by omega) (by rw [show u_8.2.1 285 = S.2.1 285 from (funext fun j => ((fu_8 285 rfl).2.1 j).trans ((fu_2 285 rfl).2.1 j))]; exact hPT.1 (S.1 231 46 + 1) (by omega) (by omega)) xu_8.1) (c_X12_548 Cx rfl rfl (rmk_ok (by omega) (by decide))) hW rfl hl.1 rfl (Nat.le_of_ble_eq_true rfl) dX12_isValue_44 ⟨Nat.le_of_ble_eq_true rfl, Nat.le_of_ble_eq_true rfl⟩) hL (fun u_14 H locs k_15 hW hL => ?_)
  obtain ⟨iu_14, fu_14, xu_14⟩ := k_15
  have F_16 := F_10.trans (fu_14.to (p1_sub rfl))
  have g_17 : FF S u_14 (fl []) := FF.fr g_11 fu_14 rfl
  have nv_18 : nv (u_14.2.1 237) 0 = (pp 0) * (A 0 0) := (by rw [xu_14.2.1, (show nv (u_8.2.1 285) (10 * ((S.1 231 46) + 1)) = pp 0 by rw [show u_8.2.1 285 = S.2.1 285 from (funext fun j => ((fu_8 285 rfl).2.1 j).trans ((fu_2 285 rfl).2.1 j))]; exact (by have h := hPP.2; rw [← hMn] at h; exact h)), (show nv (u_8.2.1 277) 0 = A 0 0 from nv_13)])
  refine lv_aload_n hx hb dX12_isValue_47 rfl (lv_at hl 1 rfl) ?_
  refine g_X12_172 Cx hW (k := 231) (by decide) rfl (v := .ref (G.2.2.1 + 284)) (rd_94 iu_14) dX12_isValue_48 ?_
  refine lv_iconst (v := iv 0) hx hb dX12_isValue_51 (by decide) ?_
  refine lv_aload_n hx hb dX12_isValue_52 rfl (lv_at hl 1 rfl) ?_
  refine g_X12_26 Cx hW (k := 231) (by decide) rfl (v := .ref (G.2.2.1 + 237)) (rd_7 iu_14) dX12_isValue_53 ?_
  refine lv_iconst (v := iv 0) hx hb dX12_isValue_56 (by decide) ?_
  refine lv_iconst (v := iv 0) hx hb dX12_isValue_57 (by decide) ?_
  refine lv_aload_n hx hb dX12_isValue_58 rfl (lv_at hl 1 rfl) ?_
  refine g_X12_172 Cx hW (k := 231) (by decide) rfl (v := .ref (G.2.2.1 + 284)) (rd_94 iu_14) dX12_isValue_59 ?_
  refine lv_iconst (v := iv 0) hx hb dX12_isValue_62 (by decide) ?_
  refine sBv (sSt (As := [.ref (G.2.2.1 + 284), .int (iv 0), .ref (G.2.2.1 + 237), .int (iv 0), .int (iv 0), .ref (G.2.2.1 + 284), .int (iv 0)]) (rest := []) Cx (s_X12_add l G u_14 (ka := 284) (po := 0) (kb := 237) (qo := 0) (lz := 0) (kc := 284) (ro := 0) (Nka := 520) (Nkb := 68) (Nkc := 520) (La := 23) (Lb := 10) (Lc := 24) iu_14 ⟨rfl, by decide, by decide, by decide, rfl⟩ ⟨rfl, by decide, by decide, by decide, rfl⟩ ⟨rfl, by decide, by decide, by decide, rfl⟩ (show (284 : Nat) ≠ 237 by decide) (fun _ => rfl) (by omega) (by omega) (by rw [show u_14.2.1 284 = u_2.2.1 284 from (funext fun j => ((fu_14 284 rfl).2.1 j).trans ((fu_8 284 rfl).2.1 j))]; exact xu_2.1) xu_14.1) (c_X12_249 Cx rfl rfl (rmk_ok (by omega) (by decide))) hW rfl hl.1 rfl (Nat.le_of_ble_eq_true rfl) dX12_isValue_63 ⟨Nat.le_of_ble_eq_true rfl, Nat.le_of_ble_eq_true rfl⟩) hL (fun u_19 H locs k_20 hW hL => ?_)
  obtain ⟨iu_19, fu_19, xu_19⟩ := k_20
  have F_21 := F_16.trans (fu_19.to (p1_sub rfl))
  have g_22 : FF S u_19 (fl []) := FF.fr g_17 fu_19 rfl
  have nv_23 : nv (u_19.2.1 284) 0 = spt pp (A 0) n.toNat + ((pp 0) * (A 0 0)) := (by rw [xu_19.2.1, asn_0, (show nv (u_14.2.1 284) 0 = spt pp (A 0) n.toNat by rw [show u_14.2.1 284 = u_2.2.1 284 from (funext fun j => ((fu_14 284 rfl).2.1 j).trans ((fu_8 284 rfl).2.1 j))]; exact nv_6), (show nv (u_14.2.1 237) 0 = (pp 0) * (A 0 0) from nv_18)])
  refine lv_aload_n hx hb dX12_isValue_66 rfl (lv_at hl 1 rfl) ?_
  refine g_X12_172 Cx hW (k := 231) (by decide) rfl (v := .ref (G.2.2.1 + 284)) (rd_94 iu_19) dX12_isValue_67 ?_
  refine lv_iconst (v := iv 0) hx hb dX12_isValue_70 (by decide) ?_
  refine lv_aload_n hx hb dX12_isValue_71 rfl (lv_at hl 1 rfl) ?_
  refine g_X12_181 Cx hW (k := 231) (by decide) rfl (v := .ref (G.2.2.1 + 287)) (rd_97 iu_19) dX12_isValue_72 ?_
  refine lv_iconst (v := iv 0) hx hb dX12_isValue_75 (by decide) ?_
  refine lv_aload_n hx hb dX12_isValue_76 rfl (lv_at hl 1 rfl) ?_
  refine g_X12_26 Cx hW (k := 231) (by decide) rfl (v := .ref (G.2.2.1 + 237)) (rd_7 iu_19) dX12_isValue_77 ?_
  refine lv_iconst (v := iv 0) hx hb dX12_isValue_80 (by decide) ?_
  refine sBv (sSt (As := [.ref (G.2.2.1 + 284), .int (iv 0), .ref (G.2.2.1 + 287), .int (iv 0), .ref (G.2.2.1 + 237), .int (iv 0)]) (rest := []) Cx (s_X12_multiply l G u_19 (ka := 284) (po := 0) (kb := 287) (qo := 0) (kc := 237) (ro := 0) (Nka := 520) (Nkb := 10) (Nkc := 68) (La := 24) (Lb := 7) iu_19 ⟨rfl, by decide, by decide, by decide, rfl⟩ ⟨rfl, by decide, by decide, by decide, rfl⟩ ⟨rfl, by decide, by decide, by decide, rfl⟩ (show (237 : Nat) ≠ 287 by decide) (show (237 : Nat) ≠ 284 by decide) (by omega) xu_19.1 (by rw [show u_19.2.1 287 = S.2.1 287 from (funext fun j => ((fu_19 287 rfl).2.1 j).trans (((fu_14 287 rfl).2.1 j).trans (((fu_8 287 rfl).2.1 j).trans ((fu_2 287 rfl).2.1 j))))]; exact hUP.2)) (c_X12_548 Cx rfl rfl (rmk_ok (by omega) (by decide))) hW rfl hl.1 rfl (Nat.le_of_ble_eq_true rfl) dX12_isValue_81 ⟨Nat.le_of_ble_eq_true rfl, Nat.le_of_ble_eq_true rfl⟩) hL (fun u_24 H locs k_25 hW hL => ?_)
  obtain ⟨iu_24, fu_24, xu_24⟩ := k_25
  have F_26 := F_21.trans (fu_24.to (p1_sub rfl))
  have g_27 : FF S u_24 (fl []) := FF.fr g_22 fu_24 rfl
  have nv_28 : nv (u_24.2.1 237) 0 = (spt pp (A 0) n.toNat + ((pp 0) * (A 0 0))) * vb := (by rw [xu_24.2.1, (show nv (u_19.2.1 284) 0 = spt pp (A 0) n.toNat + ((pp 0) * (A 0 0)) from nv_23), (show nv (u_19.2.1 287) 0 = vb by rw [show u_19.2.1 287 = S.2.1 287 from (funext fun j => ((fu_19 287 rfl).2.1 j).trans (((fu_14 287 rfl).2.1 j).trans (((fu_8 287 rfl).2.1 j).trans ((fu_2 287 rfl).2.1 j))))]; exact hUV.2)])
  refine lv_aload_n hx hb dX12_isValue_84 rfl (lv_at hl 1 rfl) ?_
  refine g_X12_178 Cx hW (k := 231) (by decide) rfl (v := .ref (G.2.2.1 + 286)) (rd_96 iu_24) dX12_isValue_85 ?_
  refine lv_iconst (v := iv 0) hx hb dX12_isValue_88 (by decide) ?_
  refine lv_aload_n hx hb dX12_isValue_89 rfl (lv_at hl 1 rfl) ?_
  refine g_X12_175 Cx hW (k := 231) (by decide) rfl (v := .ref (G.2.2.1 + 285)) (rd_95 iu_24) dX12_isValue_90 ?_
  refine lv_iload_n hx hb dX12_isValue_93 rfl (lv_at hl 0 rfl) ?_
  refine lv_aload_n hx hb dX12_isValue_94 rfl (lv_at hl 1 rfl) ?_
  refine g_X12_29 Cx hW (k := 231) (by decide) rfl (v := .ref (G.2.2.1 + 238)) (rd_8 iu_24) dX12_isValue_95 ?_
  refine lv_iconst (v := iv 0) hx hb dX12_isValue_98 (by decide) ?_
  refine sBv (sSt (As := [.ref (G.2.2.1 + 286), .int (iv 0), .ref (G.2.2.1 + 285), .int (iv (10 * ((S.1 231 46) + 1))), .ref (G.2.2.1 + 238), .int (iv 0)]) (rest := []) Cx (s_X12_multiply l G u_24 (ka := 286) (po := 0) (kb := 285) (qo := 10 * ((S.1 231 46) + 1)) (kc := 238) (ro := 0) (Nka := 10) (Nkb := 140) (Nkc := 68) (La := 7) (Lb := 7) iu_24 ⟨rfl, by decide, by decide, by decide, rfl⟩ ⟨rfl, by decide, by decide, by decide, rfl⟩ ⟨rfl, by decide, by decide, by decide, rfl⟩ (show (238 : Nat) ≠ 285 by decide) (show (238 : Nat) ≠ 286 by decide) (by omega) (by rw [show u_24.2.1 286 = S.2.1 286 from (funext fun j => ((fu_24 286 rfl).2.1 j).trans (((fu_19 286 rfl).2.1 j).trans (((fu_14 286 rfl).2.1 j).trans (((fu_8 286 rfl).2.1 j).trans ((fu_2 286 rfl).2.1 j)))))]; exact hUP.1) (by rw [show u_24.2.1 285 = S.2.1 285 from (funext fun j => ((fu_24 285 rfl).2.1 j).trans (((fu_19 285 rfl).2.1 j).trans (((fu_14 285 rfl).2.1 j).trans (((fu_8 285 rfl).2.1 j).trans ((fu_2 285 rfl).2.1 j)))))]; exact hPT.1 (S.1 231 46 + 1) (by omega) (by omega))) (c_X12_548 Cx rfl rfl (rmk_ok (by omega) (by decide))) hW rfl hl.1 rfl (Nat.le_of_ble_eq_true rfl) dX12_isValue_99 ⟨Nat.le_of_ble_eq_true rfl, Nat.le_of_ble_eq_true rfl⟩) hL (fun u_29 H locs k_30 hW hL => ?_)
  obtain ⟨iu_29, fu_29, xu_29⟩ := k_30
  have F_31 := F_26.trans (fu_29.to (p1_sub rfl))
  have g_32 : FF S u_29 (fl []) := FF.fr g_27 fu_29 rfl
  have nv_33 : nv (u_29.2.1 238) 0 = vt * (pp 0) := (by rw [xu_29.2.1, (show nv (u_24.2.1 286) 0 = vt by rw [show u_24.2.1 286 = S.2.1 286 from (funext fun j => ((fu_24 286 rfl).2.1 j).trans (((fu_19 286 rfl).2.1 j).trans (((fu_14 286 rfl).2.1 j).trans (((fu_8 286 rfl).2.1 j).trans ((fu_2 286 rfl).2.1 j)))))]; exact hUV.1), (show nv (u_24.2.1 285) (10 * ((S.1 231 46) + 1)) = pp 0 by rw [show u_24.2.1 285 = S.2.1 285 from (funext fun j => ((fu_24 285 rfl).2.1 j).trans (((fu_19 285 rfl).2.1 j).trans (((fu_14 285 rfl).2.1 j).trans (((fu_8 285 rfl).2.1 j).trans ((fu_2 285 rfl).2.1 j)))))]; exact (by have h := hPP.2; rw [← hMn] at h; exact h))])
  refine lv_aload_n hx hb dX12_isValue_102 rfl (lv_at hl 1 rfl) ?_
  refine g_X12_26 Cx hW (k := 231) (by decide) rfl (v := .ref (G.2.2.1 + 237)) (rd_7 iu_29) dX12_isValue_103 ?_
  refine lv_iconst (v := iv 0) hx hb dX12_isValue_106 (by decide) ?_
  refine lv_aload_n hx hb dX12_isValue_107 rfl (lv_at hl 1 rfl) ?_
  refine g_X12_29 Cx hW (k := 231) (by decide) rfl (v := .ref (G.2.2.1 + 238)) (rd_8 iu_29) dX12_isValue_108 ?_
  refine lv_iconst (v := iv 0) hx hb dX12_isValue_111 (by decide) ?_
  refine sBi (sSt (As := [.ref (G.2.2.1 + 237), .int (iv 0), .ref (G.2.2.1 + 238), .int (iv 0)]) (rest := []) Cx (s_X12_compare l G u_29 (ka := 237) (po := 0) (kb := 238) (qo := 0) (Nka := 68) (Nkb := 68) (La := 31) (Lb := 14) iu_29 ⟨rfl, by decide, by decide, by decide, rfl⟩ ⟨rfl, by decide, by decide, by decide, rfl⟩ (by omega) (by rw [show u_29.2.1 237 = u_24.2.1 237 from (funext fun j => (fu_29 237 rfl).2.1 j)]; exact xu_24.1) xu_29.1) (c_X12_552 Cx rfl rfl (rmk_ok (by omega) (by decide))) hW rfl hl.1 rfl (Nat.le_of_ble_eq_true rfl) dX12_isValue_112 ⟨Nat.le_of_ble_eq_true rfl, Nat.le_of_ble_eq_true rfl⟩) hL (fun r_36 u_34 H locs k_35 hW hL => ?_)
  obtain ⟨eu_34, xu_34⟩ := k_35
  rw [eu_34] at hW
  have cf_37 := (show _ ∧ _ ∧ _ from xu_34.2)
  rw [(show nv (u_29.2.1 237) 0 = (spt pp (A 0) n.toNat + ((pp 0) * (A 0 0))) * vb by rw [show u_29.2.1 237 = u_24.2.1 237 from (funext fun j => (fu_29 237 rfl).2.1 j)]; exact nv_28), (show nv (u_29.2.1 238) 0 = vt * (pp 0) from nv_33)] at cf_37
  refine r_if_ne (tgt := 122) hx hb ⟨(by omega), (by omega)⟩ dX12_isValue_115 (by decide) (fun c_38 => ?_) (fun c_38 => ?_)
  · refine lv_iconst (v := iv 0) hx hb dX12_isValue_122 (by decide) ?_
    exact sZret Cx hr hlk hW hL (by omega) ⟨iu_29, F_31, g_32, ⟨(by omega), (show _ ↔ _ by unfold okV; rw [Int.mul_comm (pp 0) vt]; omega)⟩⟩ dX12_isValue_123
  · refine lv_iconst (v := iv 1) hx hb dX12_isValue_118 (by decide) ?_
    refine lv_goto (tgt := 123) hx hb dX12_isValue_119 (by decide) ?_
    exact sZret Cx hr hlk hW hL (by omega) ⟨iu_29, F_31, g_32, ⟨(by omega), (show _ ↔ _ by unfold okV; rw [Int.mul_comm (pp 0) vt]; omega)⟩⟩ dX12_isValue_123

set_option maxRecDepth 100000 in
set_option maxHeartbeats 4000000 in
theorem q_X12_isAlong (l : Launch) (G : sG) (S : sS)  {n mm mx : Int} {A : Int → Int → Int} {wh : Int → Int} {pp : Int → Int} (hI : dX G S) (hm : 0 ≤ S.1 231 46 ∧ S.1 231 46 ≤ 12) (hm2 : 0 ≤ S.1 231 47 ∧ S.1 231 47 ≤ 16) (hPT : dPT S) (hGM : GM S) (hMR : Hd (MDr S n mm mx A wh)) (hPP : Hd (PTr S pp n)) : Met l yX12_isAlong (.code yX12_isAlong cX12_isAlong 2 (some .boolean) :: tb) (rmk 6 0 0) (sPc G 294 S [.ref (G.2.2.1 + 231)]) (sQi G 294 (fun r u => dX G u ∧ Fr S u (pl [237, 277, 284]) ∧ FF S u (fl []) ∧ ((0 ≤ r ∧ r ≤ 1) ∧ Hd (r = 1 ↔ okL n mm A pp)))) 0 0 (sF G) := by
  refine sEnter (by decide) (Nat.le_of_ble_eq_true rfl) ?_
  intro p e s m args below meth c Cx hr hlk hnm hW ls hl
  have Cx : sC G p m c cX12_isAlong 2 s args RX12 := Cx
  obtain ⟨hx, hb, hml, hown, hts⟩ := id Cx.1
  have hL : sL G [] := sL_nil
  have hl : lv_has ls 2 [(0, .ref (G.2.2.1 + 231))] := hl
  have hW0 := hW
  have hMn := hMR.1; have hMm := hMR.2.1; have hMx := hMR.2.2.1; have hMw := hMR.2.2.2.1
  refine lv_iconst (v := iv 1) hx hb dX12_isAlong_0 (by decide) ?_
  refine lv_istore_n (lv' := [(1, .int (iv 1)), (0, .ref (G.2.2.1 + 231))]) hx hb dX12_isAlong_1 rfl hl (by decide) rfl (fun ls hl => ?_)
  have loop_2 : ∀ (fuel : Nat) (j : Int) (H : Heap) (locs : List Loc) (ls : Array Slot), (S.1 231 46 + 1 - j).toNat < fuel → (1 ≤ j ∧ j ≤ S.1 231 46 + 1) → (Hd (∀ i, 1 ≤ i → i < j → 0 ≤ pp i)) → sW G 294 S H → sL G locs → lv_has ls 2 [(1, .int (iv j)), (0, .ref (G.2.2.1 + 231))] → W p l e (rmk 6 0 0) s m args below meth c H locs 0 0 (MQ below (sQi G 294 (fun r u => dX G u ∧ Fr S u (pl [237, 277, 284]) ∧ FF S u (fl []) ∧ ((0 ≤ r ∧ r ≤ 1) ∧ Hd (r = 1 ↔ okL n mm A pp)))) args s 0 0 (sF G)) (F0 m 2 ls []) := by
    intro fuel
    induction fuel with
    | zero => intro j H locs ls hmeas hj hok2 hW hL hl; exact absurd hmeas (Nat.not_lt_zero _)
    | succ fuel ih_2 =>
      intro j H locs ls hmeas hj hok2 hW hL hl
      refine lv_iload_n hx hb dX12_isAlong_2 rfl (lv_at hl 0 rfl) ?_
      refine lv_aload_n hx hb dX12_isAlong_3 rfl (lv_at hl 1 rfl) ?_
      have q_1 : (-2147483648) ≤ S.1 231 46 ∧ S.1 231 46 ≤ 2147483647 := hI.fi 46
      refine g_X12_465 Cx hW (k := 231) (by decide) rfl (v := S.1 231 46) rfl dX12_isAlong_4 ?_
      refine r_icmp_gt (tgt := 30) hx hb ⟨(by omega), (by omega)⟩ ⟨(by omega), (by omega)⟩ dX12_isAlong_7 (by decide) (fun c_2 => ?_) (fun c_2 => ?_)
      · refine lv_iconst (v := iv 1) hx hb dX12_isAlong_30 (by decide) ?_
        refine lv_istore_n (lv' := [(1, .int (iv 1)), (0, .ref (G.2.2.1 + 231))]) hx hb dX12_isAlong_31 rfl hl (by decide) rfl (fun ls hl => ?_)
        have loop_32 : ∀ (fuel : Nat) (S32 : sS) (i : Int) (H : Heap) (locs : List Loc) (ls : Array Slot), (S.1 231 47 + 1 - i).toNat < fuel → (dX G S32) → (Fr S S32 (pl [237, 277, 284])) → (Fr S S32 (pl [237, 277, 284])) → (FF S S32 (fl [])) → (FF S S32 (fl [])) → (1 ≤ i ∧ i ≤ S.1 231 47 + 1) → (Hd (∀ k, 1 ≤ k → k < i → spt pp (A k) n.toNat ≤ 0)) → sW G 294 S32 H → sL G locs → lv_has ls 2 [(1, .int (iv i)), (0, .ref (G.2.2.1 + 231))] → W p l e (rmk 6 0 0) s m args below meth c H locs 0 0 (MQ below (sQi G 294 (fun r u => dX G u ∧ Fr S u (pl [237, 277, 284]) ∧ FF S u (fl []) ∧ ((0 ≤ r ∧ r ≤ 1) ∧ Hd (r = 1 ↔ okL n mm A pp)))) args s 0 0 (sF G)) (F0 m 32 ls []) := by
          intro fuel
          induction fuel with
          | zero => intro S32 i H locs ls hmeas hI32 hFm32 hL32_ hGm32 gL32_ hi hok32 hW hL hl; exact absurd hmeas (Nat.not_lt_zero _)
          | succ fuel ih_32 =>
            intro S32 i H locs ls hmeas hI32 hFm32 hL32_ hGm32 gL32_ hi hok32 hW hL hl
            refine lv_iload_n hx hb dX12_isAlong_32 rfl (lv_at hl 0 rfl) ?_
            refine lv_aload_n hx hb dX12_isAlong_33 rfl (lv_at hl 1 rfl) ?_
            have q_3 : (-2147483648) ≤ S.1 231 47 ∧ S.1 231 47 ≤ 2147483647 := hI.fi 47
            refine g_X12_468 Cx hW (k := 231) (by decide) rfl (v := S.1 231 47) (gL32_ 47 rfl) dX12_isAlong_34 ?_
            refine r_icmp_gt (tgt := 62) hx hb ⟨(by omega), (by omega)⟩ ⟨(by omega), (by omega)⟩ dX12_isAlong_37 (by decide) (fun c_4 => ?_) (fun c_4 => ?_)
            · refine lv_aload_n hx hb dX12_isAlong_62 rfl (lv_at hl 1 rfl) ?_
              refine lv_iconst (v := iv 0) hx hb dX12_isAlong_63 (by decide) ?_
              have lk_5 : S32.1 231 46 = S.1 231 46 := gL32_ 46 rfl
              refine sBv (sV (As := [.int (iv 0)]) (rest := []) (k := 231) Cx (q_X12_along l G S32 (k := 0) (n := n) (mm := mm) (mx := mx) (A := A) (wh := wh) (pp := pp) hI32 (by omega) (by omega) (by omega) (dPT.sm (S := S) (u := S32) hPT (gL32_ 46 rfl) (funext fun j => (hL32_ 285 rfl).2.1 j)) (GM.sm (S := S) (u := S32) hGM (funext fun j => (hL32_ 260 rfl).2.2.1 j) (funext fun j => (hL32_ 290 rfl).2.2.1 j)) (MDr.sm (S := S) (u := S32) hMR (gL32_ 46 rfl) (gL32_ 47 rfl) (gL32_ 48 rfl) (gL32_ 49 rfl) (funext fun j => (hL32_ 259 rfl).2.1 j) (funext fun j => (hL32_ 260 rfl).2.2.1 j) (funext fun j => (hL32_ 290 rfl).2.2.1 j)) (PTr.sm (S := S) (u := S32) hPP (funext fun j => (hL32_ 285 rfl).2.1 j))) (c_X12_707 Cx rfl rfl (rmk_ok (by omega) (by decide))) hW (by decide) rfl rfl rfl hl.1 rfl (Nat.le_of_ble_eq_true rfl) dX12_isAlong_64 ⟨Nat.le_of_ble_eq_true rfl, Nat.le_of_ble_eq_true rfl⟩) hL (fun u_6 H locs k_7 hW hL => ?_)
              obtain ⟨iu_6, fu_6, gu_6, xu_6⟩ := k_7
              have F_8 := hFm32.trans fu_6
              have F_9 := hL32_.trans fu_6
              have g_10 : FF S u_6 (fl []) := FF.trans hGm32 (FF.to gu_6 (fl_sub (by decide)))
              have g_11 : FF S u_6 (fl []) := FF.trans gL32_ (FF.to gu_6 (fl_sub (by decide)))
              have nv_12 : nv (u_6.2.1 284) 0 = spt pp (A 0) n.toNat := xu_6.2
              have hsgu_6 := xu_6.1.sgn
              rw [xu_6.2] at hsgu_6
              have hs1u_6 := hsgu_6.2.1.mp; have hs2u_6 := hsgu_6.2.1.mpr; clear hsgu_6
              refine lv_aload_n hx hb dX12_isAlong_67 rfl (lv_at hl 1 rfl) ?_
              refine g_X12_172 Cx hW (k := 231) (by decide) rfl (v := .ref (G.2.2.1 + 284)) (rd_94 iu_6) dX12_isAlong_68 ?_
              refine lv_iconst (v := iv 0) hx hb dX12_isAlong_71 (by decide) ?_
              refine rIald Cx hW (k := 284) (by decide) rfl (by decide) (by omega) (by omega) dX12_isAlong_72 ?_
              have q_13 : (-2147483648) ≤ u_6.2.1 284 0 ∧ u_6.2.1 284 0 ≤ 2147483647 := iu_6.ai 284 0
              refine r_i (b := u_6.2.1 284 0) rfl ?_
              refine r_if_le (tgt := 80) hx hb ⟨(by omega), (by omega)⟩ dX12_isAlong_73 (by decide) (fun c_14 => ?_) (fun c_14 => ?_)
              · refine lv_iconst (v := iv 0) hx hb dX12_isAlong_80 (by decide) ?_
                exact sZret Cx hr hlk hW hL (by omega) ⟨iu_6, F_8, g_10, ⟨(by omega), (show _ ↔ _ from ⟨fun z => absurd z (by omega), fun z => by have y := z.2.2; exfalso; omega⟩)⟩⟩ dX12_isAlong_81
              · refine lv_iconst (v := iv 1) hx hb dX12_isAlong_76 (by decide) ?_
                refine lv_goto (tgt := 81) hx hb dX12_isAlong_77 (by decide) ?_
                exact sZret Cx hr hlk hW hL (by omega) ⟨iu_6, F_8, g_10, ⟨(by omega), (show _ ↔ _ from ⟨fun _ => ⟨fun i a b => hok2 i a (by omega), fun i a b => hok32 i a (by omega), by omega⟩, fun _ => rfl⟩)⟩⟩ dX12_isAlong_81
            · refine lv_aload_n hx hb dX12_isAlong_40 rfl (lv_at hl 1 rfl) ?_
              refine lv_iload_n hx hb dX12_isAlong_41 rfl (lv_at hl 0 rfl) ?_
              have lk_15 : S32.1 231 46 = S.1 231 46 := gL32_ 46 rfl
              refine sBv (sV (As := [.int (iv i)]) (rest := []) (k := 231) Cx (q_X12_along l G S32 (k := i) (n := n) (mm := mm) (mx := mx) (A := A) (wh := wh) (pp := pp) hI32 (by omega) (by omega) (by omega) (dPT.sm (S := S) (u := S32) hPT (gL32_ 46 rfl) (funext fun j => (hL32_ 285 rfl).2.1 j)) (GM.sm (S := S) (u := S32) hGM (funext fun j => (hL32_ 260 rfl).2.2.1 j) (funext fun j => (hL32_ 290 rfl).2.2.1 j)) (MDr.sm (S := S) (u := S32) hMR (gL32_ 46 rfl) (gL32_ 47 rfl) (gL32_ 48 rfl) (gL32_ 49 rfl) (funext fun j => (hL32_ 259 rfl).2.1 j) (funext fun j => (hL32_ 260 rfl).2.2.1 j) (funext fun j => (hL32_ 290 rfl).2.2.1 j)) (PTr.sm (S := S) (u := S32) hPP (funext fun j => (hL32_ 285 rfl).2.1 j))) (c_X12_707 Cx rfl rfl (rmk_ok (by omega) (by decide))) hW (by decide) rfl rfl rfl hl.1 rfl (Nat.le_of_ble_eq_true rfl) dX12_isAlong_42 ⟨Nat.le_of_ble_eq_true rfl, Nat.le_of_ble_eq_true rfl⟩) hL (fun u_16 H locs k_17 hW hL => ?_)
              obtain ⟨iu_16, fu_16, gu_16, xu_16⟩ := k_17
              have F_18 := hFm32.trans fu_16
              have F_19 := hL32_.trans fu_16
              have g_20 : FF S u_16 (fl []) := FF.trans hGm32 (FF.to gu_16 (fl_sub (by decide)))
              have g_21 : FF S u_16 (fl []) := FF.trans gL32_ (FF.to gu_16 (fl_sub (by decide)))
              have nv_22 : nv (u_16.2.1 284) 0 = spt pp (A i) n.toNat := xu_16.2
              have hsgu_16 := xu_16.1.sgn
              rw [xu_16.2] at hsgu_16
              have hs1u_16 := hsgu_16.2.1.mp; have hs2u_16 := hsgu_16.2.1.mpr; clear hsgu_16
              refine lv_aload_n hx hb dX12_isAlong_45 rfl (lv_at hl 1 rfl) ?_
              refine g_X12_172 Cx hW (k := 231) (by decide) rfl (v := .ref (G.2.2.1 + 284)) (rd_94 iu_16) dX12_isAlong_46 ?_
              refine lv_iconst (v := iv 0) hx hb dX12_isAlong_49 (by decide) ?_
              refine rIald Cx hW (k := 284) (by decide) rfl (by decide) (by omega) (by omega) dX12_isAlong_50 ?_
              have q_23 : (-2147483648) ≤ u_16.2.1 284 0 ∧ u_16.2.1 284 0 ≤ 2147483647 := iu_16.ai 284 0
              refine r_i (b := u_16.2.1 284 0) rfl ?_
              refine r_if_le (tgt := 56) hx hb ⟨(by omega), (by omega)⟩ dX12_isAlong_51 (by decide) (fun c_24 => ?_) (fun c_24 => ?_)
              · refine lv_iinc (v := iv (i + 1)) (lv' := [(1, .int (iv (i + 1))), (0, .ref (G.2.2.1 + 231))]) hx hb dX12_isAlong_56 hl (k := 0) rfl ((Int32.ofInt_add _ _).symm) (by decide) rfl (fun ls hl => ?_)
                refine lv_goto (tgt := 32) hx hb dX12_isAlong_59 (by decide) ?_
                exact ih_32 u_16 (i + 1) _ _ _ (by omega) iu_16 F_18 F_19 g_20 g_21 (by omega) (fun k a b => by by_cases z : k = i; (rw [z]; omega); exact hok32 k a (by omega)) hW hL (lv_sub hl [0, 1] rfl)
              · refine lv_iconst (v := iv 0) hx hb dX12_isAlong_54 (by decide) ?_
                exact sZret Cx hr hlk hW hL (by omega) ⟨iu_16, F_18, g_20, ⟨(by omega), (show _ ↔ _ from ⟨fun z => absurd z (by omega), fun z => by have y := z.2.1 i (by omega) (by omega); exfalso; omega⟩)⟩⟩ dX12_isAlong_55
        exact loop_32 (_ + 1) S 1 _ _ _ (Nat.lt_succ_self _) hI (Fr.rf : Fr S S (pl [237, 277, 284])) Fr.rf FF.rf FF.rf (by omega) (fun i a b => absurd b (by omega)) hW hL (lv_sub hl [0, 1] rfl)
      · have hsj := (hPT.1 j (by omega) (by omega)).sgn
        rw [hPP.1 j (by omega) (by omega)] at hsj
        have hsj1 := hsj.1.mp; have hsj2 := hsj.1.mpr; clear hsj
        refine lv_aload_n hx hb dX12_isAlong_10 rfl (lv_at hl 1 rfl) ?_
        refine g_X12_175 Cx hW (k := 231) (by decide) rfl (v := .ref (G.2.2.1 + 285)) (rd_95 hI) dX12_isAlong_11 ?_
        refine lv_bipush (v := iv 10) hx hb dX12_isAlong_14 (by decide) ?_
        refine lv_iload_n hx hb dX12_isAlong_16 rfl (lv_at hl 0 rfl) ?_
        refine r_imul hx hb dX12_isAlong_17 ?_
        refine rIald Cx hW (k := 285) (by decide) rfl (by decide) (by omega) (by omega) dX12_isAlong_18 ?_
        have q_25 : (-2147483648) ≤ S.2.1 285 (10 * j) ∧ S.2.1 285 (10 * j) ≤ 2147483647 := hI.ai 285 (10 * j)
        refine r_i (b := S.2.1 285 (10 * j)) rfl ?_
        refine r_if_ge (tgt := 24) hx hb ⟨(by omega), (by omega)⟩ dX12_isAlong_19 (by decide) (fun c_26 => ?_) (fun c_26 => ?_)
        · refine lv_iinc (v := iv (j + 1)) (lv' := [(1, .int (iv (j + 1))), (0, .ref (G.2.2.1 + 231))]) hx hb dX12_isAlong_24 hl (k := 0) rfl ((Int32.ofInt_add _ _).symm) (by decide) rfl (fun ls hl => ?_)
          refine lv_goto (tgt := 2) hx hb dX12_isAlong_27 (by decide) ?_
          exact ih_2 (j + 1) _ _ _ (by omega) (by omega) (fun i a b => by by_cases z : i = j; (rw [z]; omega); exact hok2 i a (by omega)) hW hL (lv_sub hl [0, 1] rfl)
        · refine lv_iconst (v := iv 0) hx hb dX12_isAlong_22 (by decide) ?_
          exact sZret Cx hr hlk hW hL (by omega) ⟨hI, (Fr.rf : Fr S S (pl [237, 277, 284])), FF.rf, ⟨(by omega), (show _ ↔ _ from ⟨fun z => absurd z (by omega), fun z => by have y := z.1 j (by omega) (by omega); exfalso; omega⟩)⟩⟩ dX12_isAlong_23
  exact loop_2 (_ + 1) 1 _ _ _ (Nat.lt_succ_self _) (by omega) (fun i a b => absurd b (by omega)) hW hL (lv_sub hl [0, 1] rfl)
