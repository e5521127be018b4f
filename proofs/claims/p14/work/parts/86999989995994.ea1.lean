/-! The reference's dictionary by its values -/
def rI (i : Int) : Int := if i = -1 then 1 else if i = 0 then 0 else i + 1
def DRr (S : sS) (hw : Int) (d : dT) : Prop := nv (S.2.1 264) 0 = d.1 ∧ (∀ i j, -1 ≤ i → i ≤ d.2.2.2.2.1 → (i = -1 → hw = 1) → 0 ≤ j → j ≤ d.2.2.2.2.2 → TV S (rI i) j = d.2.1 i j) ∧ (∀ i, 1 ≤ i → i ≤ d.2.2.2.2.1 → S.2.1 265 i = d.2.2.1 i) ∧ (∀ j, 1 ≤ j → j ≤ d.2.2.2.2.2 → S.2.1 266 j = d.2.2.2.1 j) ∧ S.1 231 58 = d.2.2.2.2.1 ∧ S.1 231 59 = d.2.2.2.2.2 ∧ S.1 231 60 = hw
theorem DRr.sm {S u : sS} {hw : Int} {d : dT} (h : DRr S hw d) (e58 : u.1 231 58 = S.1 231 58) (e59 : u.1 231 59 = S.1 231 59) (e60 : u.1 231 60 = S.1 231 60) (a262 : u.2.1 262 = S.2.1 262) (a264 : u.2.1 264 = S.2.1 264) (a265 : u.2.1 265 = S.2.1 265) (a266 : u.2.1 266 = S.2.1 266) : DRr u hw d := by
  unfold DRr TV at *; rw [e58, e59, e60, a262, a264, a265, a266]; exact h
theorem rI_w : rI (-1) = 1 := rfl
theorem rI_z : rI 0 = 0 := rfl
theorem rI_p {i : Int} (h : 1 ≤ i) : rI i = i + 1 := by unfold rI; rw [if_neg (by omega), if_neg (by omega)]
section EA
variable {S : sS} {hw : Int} {d : dT}
/-- a cell of row a (the reference's) at place j -/
theorem DRr.sg (h : DRr S hw d) (hD : DOK S) {i j a c : Int} (hi : -1 ≤ i ∧ i ≤ d.2.2.2.2.1) (hw1 : i = -1 → hw = 1) (hj : 0 ≤ j ∧ j ≤ d.2.2.2.2.2) (ha : a = rI i) (hc : c = 8 * (15 * a + j)) : (d.2.1 i j < 0 ↔ S.2.1 262 c < 0) ∧ (0 < d.2.1 i j ↔ 0 < S.2.1 262 c) ∧ (d.2.1 i j = 0 ↔ S.2.1 262 c = 0) := by
  have e := h.2.1 i j hi.1 hi.2 hw1 hj.1 hj.2
  have m := h.2.2.2.2.1
  have p := h.2.2.2.2.2.1
  have w := h.2.2.2.2.2.2
  have hd1 := hD.1
  have hr : (0 ≤ a ∧ a ≤ S.1 231 58 + 1) ∧ (a = 1 → S.1 231 60 = 1) := by
    rw [ha]; unfold rI
    by_cases q : i = -1
    · rw [if_pos q]; have := hw1 q; omega
    · rw [if_neg q]
      by_cases z : i = 0
      · rw [if_pos z]; omega
      · rw [if_neg z]; omega
  have k := (hD.at (i := a) (j := j) (p := c) hr.1 hr.2 (by omega) hc).sgn
  unfold TV cl at e
  rw [← ha, ← hc] at e
  rw [e] at k; exact k
theorem DRr.vv (h : DRr S hw d) {i j c : Int} (hi : -1 ≤ i ∧ i ≤ d.2.2.2.2.1) (hw1 : i = -1 → hw = 1) (hj : 0 ≤ j ∧ j ≤ d.2.2.2.2.2) (hc : c = 8 * (15 * rI i + j)) : nv (S.2.1 262) c = d.2.1 i j := by
  rw [hc]; exact h.2.1 i j hi.1 hi.2 hw1 hj.1 hj.2
end EA
set_option maxRecDepth 100000 in
set_option maxHeartbeats 4000000 in
theorem r_X12_ratio (l : Launch) (G : sG) (S : sS) {a b c1 d1 : Int} (hI : dX G S) (har : 0 ≤ a ∧ a + 6 < 5280) (hbr : 0 ≤ b ∧ b + 6 < 5280) (hc1r : 0 ≤ c1 ∧ c1 + 6 < 5280) (hd1r : 0 ≤ d1 ∧ d1 + 6 < 5280) (hNa : NO (S.2.1 262) a 6) (hNb : NO (S.2.1 262) b 6) (hNc : NO (S.2.1 262) c1 6) (hNd : NO (S.2.1 262) d1 6) : Met l yX12_ratio (.code yX12_ratio cX12_ratio 5 (some .int) :: tb) (rmk 5 0 0) (sPc G 294 S [.ref (G.2.2.1 + 231), .int (iv a), .int (iv b), .int (iv c1), .int (iv d1)]) (sQi G 294 (fun r u => dX G u ∧ Fr S u (pl [237, 238]) ∧ FF S u (fl []) ∧ ((-1 ≤ r ∧ r ≤ 1) ∧ (r < 0 ↔ nv (S.2.1 262) a * nv (S.2.1 262) d1 < nv (S.2.1 262) c1 * nv (S.2.1 262) b) ∧ (r = 0 ↔ nv (S.2.1 262) a * nv (S.2.1 262) d1 = nv (S.2.1 262) c1 * nv (S.2.1 262) b)))) 0 0 (sF G) := by
  refine sEnter (by decide) (Nat.le_of_ble_eq_true rfl) ?_
  intro p e s m args below meth c Cx hr hlk hnm hW ls hl
  have Cx : sC G p m c cX12_ratio 5 s args RX12 := Cx
  obtain ⟨hx, hb, hml, hown, hts⟩ := id Cx.1
  have hL : sL G [] := sL_nil
  have hl : lv_has ls 5 [(0, .ref (G.2.2.1 + 231)), (1, .int (iv a)), (2, .int (iv b)), (3, .int (iv c1)), (4, .int (iv d1))] := hl
  have hW0 := hW
  refine lv_aload_n hx hb dX12_ratio_0 rfl (lv_at hl 0 rfl) ?_
  refine g_X12_103 Cx hW (k := 231) (by decide) rfl (v := .ref (G.2.2.1 + 262)) (rd_53 hI) dX12_ratio_1 ?_
  refine lv_iload_n hx hb dX12_ratio_4 rfl (lv_at hl 1 rfl) ?_
  refine lv_aload_n hx hb dX12_ratio_5 rfl (lv_at hl 0 rfl) ?_
  refine g_X12_103 Cx hW (k := 231) (by decide) rfl (v := .ref (G.2.2.1 + 262)) (rd_53 hI) dX12_ratio_6 ?_
  refine lv_iload hx hb dX12_ratio_9 (lv_at hl 4 rfl) ?_
  refine lv_aload_n hx hb dX12_ratio_11 rfl (lv_at hl 0 rfl) ?_
  refine g_X12_26 Cx hW (k := 231) (by decide) rfl (v := .ref (G.2.2.1 + 237)) (rd_7 hI) dX12_ratio_12 ?_
  refine lv_iconst (v := iv 0) hx hb dX12_ratio_15 (by decide) ?_
  refine sBv (sSt (As := [.ref (G.2.2.1 + 262), .int (iv a), .ref (G.2.2.1 + 262), .int (iv d1), .ref (G.2.2.1 + 237), .int (iv 0)]) (rest := []) Cx (s_X12_multiply l G S (ka := 262) (po := a) (kb := 262) (qo := d1) (kc := 237) (ro := 0) (Nka := 5280) (Nkb := 5280) (Nkc := 68) (La := 6) (Lb := 6) hI ⟨rfl, by decide, by decide, by decide, rfl⟩ ⟨rfl, by decide, by decide, by decide, rfl⟩ ⟨rfl, by decide, by decide, by decide, rfl⟩ (show (237 : Nat) ≠ 262 by decide) (show (237 : Nat) ≠ 262 by decide) (by omega) hNa hNd) (c_X12_548 Cx rfl rfl (rmk_ok (by omega) (by decide))) hW rfl hl.1 rfl (Nat.le_of_ble_eq_true rfl) dX12_ratio_16 ⟨Nat.le_of_ble_eq_true rfl, Nat.le_of_ble_eq_true rfl⟩) hL (fun u_1 H locs k_2 hW hL => ?_)
  obtain ⟨iu_1, fu_1, xu_1⟩ := k_2
  have F_3 := (Fr.rf : Fr S S (pl [237, 238])).trans (fu_1.to (p1_sub rfl))
  have g_4 : FF S u_1 (fl []) := FF.fr FF.rf fu_1 rfl
  refine lv_aload_n hx hb dX12_ratio_19 rfl (lv_at hl 0 rfl) ?_
  refine g_X12_103 Cx hW (k := 231) (by decide) rfl (v := .ref (G.2.2.1 + 262)) (rd_53 iu_1) dX12_ratio_20 ?_
  refine lv_iload_n hx hb dX12_ratio_23 rfl (lv_at hl 3 rfl) ?_
  refine lv_aload_n hx hb dX12_ratio_24 rfl (lv_at hl 0 rfl) ?_
  refine g_X12_103 Cx hW (k := 231) (by decide) rfl (v := .ref (G.2.2.1 + 262)) (rd_53 iu_1) dX12_ratio_25 ?_
  refine lv_iload_n hx hb dX12_ratio_28 rfl (lv_at hl 2 rfl) ?_
  refine lv_aload_n hx hb dX12_ratio_29 rfl (lv_at hl 0 rfl) ?_
  refine g_X12_29 Cx hW (k := 231) (by decide) rfl (v := .ref (G.2.2.1 + 238)) (rd_8 iu_1) dX12_ratio_30 ?_
  refine lv_iconst (v := iv 0) hx hb dX12_ratio_33 (by decide) ?_
  refine sBv (sSt (As := [.ref (G.2.2.1 + 262), .int (iv c1), .ref (G.2.2.1 + 262), .int (iv b), .ref (G.2.2.1 + 238), .int (iv 0)]) (rest := []) Cx (s_X12_multiply l G u_1 (ka := 262) (po := c1) (kb := 262) (qo := b) (kc := 238) (ro := 0) (Nka := 5280) (Nkb := 5280) (Nkc := 68) (La := 6) (Lb := 6) iu_1 ⟨rfl, by decide, by decide, by decide, rfl⟩ ⟨rfl, by decide, by decide, by decide, rfl⟩ ⟨rfl, by decide, by decide, by decide, rfl⟩ (show (238 : Nat) ≠ 262 by decide) (show (238 : Nat) ≠ 262 by decide) (by omega) (by rw [show u_1.2.1 262 = S.2.1 262 from (funext fun j => (fu_1 262 rfl).2.1 j : u_1.2.1 262 = S.2.1 262)]; exact hNc) (by rw [show u_1.2.1 262 = S.2.1 262 from (funext fun j => (fu_1 262 rfl).2.1 j : u_1.2.1 262 = S.2.1 262)]; exact hNb)) (c_X12_548 Cx rfl rfl (rmk_ok (by omega) (by decide))) hW rfl hl.1 rfl (Nat.le_of_ble_eq_true rfl) dX12_ratio_34 ⟨Nat.le_of_ble_eq_true rfl, Nat.le_of_ble_eq_true rfl⟩) hL (fun u_5 H locs k_6 hW hL => ?_)
  obtain ⟨iu_5, fu_5, xu_5⟩ := k_6
  have F_7 := F_3.trans (fu_5.to (p1_sub rfl))
  have g_8 : FF S u_5 (fl []) := FF.fr g_4 fu_5 rfl
  refine lv_aload_n hx hb dX12_ratio_37 rfl (lv_at hl 0 rfl) ?_
  refine g_X12_26 Cx hW (k := 231) (by decide) rfl (v := .ref (G.2.2.1 + 237)) (rd_7 iu_5) dX12_ratio_38 ?_
  refine lv_iconst (v := iv 0) hx hb dX12_ratio_41 (by decide) ?_
  refine lv_aload_n hx hb dX12_ratio_42 rfl (lv_at hl 0 rfl) ?_
  refine g_X12_29 Cx hW (k := 231) (by decide) rfl (v := .ref (G.2.2.1 + 238)) (rd_8 iu_5) dX12_ratio_43 ?_
  refine lv_iconst (v := iv 0) hx hb dX12_ratio_46 (by decide) ?_
  refine sBi (sSt (As := [.ref (G.2.2.1 + 237), .int (iv 0), .ref (G.2.2.1 + 238), .int (iv 0)]) (rest := []) Cx (s_X12_compare l G u_5 (ka := 237) (po := 0) (kb := 238) (qo := 0) (Nka := 68) (Nkb := 68) (La := 12) (Lb := 12) iu_5 ⟨rfl, by decide, by decide, by decide, rfl⟩ ⟨rfl, by decide, by decide, by decide, rfl⟩ (by omega) (by rw [show u_5.2.1 237 = u_1.2.1 237 from (funext fun j => (fu_5 237 rfl).2.1 j : u_5.2.1 237 = u_1.2.1 237)]; exact xu_1.1) xu_5.1) (c_X12_552 Cx rfl rfl (rmk_ok (by omega) (by decide))) hW rfl hl.1 rfl (Nat.le_of_ble_eq_true rfl) dX12_ratio_47 ⟨Nat.le_of_ble_eq_true rfl, Nat.le_of_ble_eq_true rfl⟩) hL (fun r_11 u_9 H locs k_10 hW hL => ?_)
  obtain ⟨eu_9, xu_9⟩ := k_10
  rw [eu_9] at hW
  have yu_9 := xu_9.2
  unfold Hd at yu_9
  exact sIret Cx hr hlk hW hL ⟨iu_5, F_7, g_8, (by have y := xu_9.2; have e1 : nv (u_5.2.1 237) 0 = nv (S.2.1 262) a * nv (S.2.1 262) d1 := (by rw [show u_5.2.1 237 = u_1.2.1 237 from (funext fun j => (fu_5 237 rfl).2.1 j : u_5.2.1 237 = u_1.2.1 237)]; exact xu_1.2.1); have e2 : nv (u_5.2.1 238) 0 = nv (S.2.1 262) c1 * nv (S.2.1 262) b := (by rw [xu_5.2.1, show u_1.2.1 262 = S.2.1 262 from (funext fun j => (fu_1 262 rfl).2.1 j : u_1.2.1 262 = S.2.1 262)]); rw [e1, e2] at y; have y1 := y.1; have y2 := y.2.1; have y3 := y.2.2; refine ⟨by omega, ?_, ?_⟩ <;> omega)⟩ dX12_ratio_50

set_option maxRecDepth 100000 in
set_option maxHeartbeats 4000000 in
theorem r_X12_stepUp (l : Launch) (G : sG) (S : sS) {gl : Int} {hw : Int} {d : dT} (hI : dX G S) (hgl : 0 ≤ gl ∧ gl ≤ 1) (hD : DOK S) (hR : Hd (DRr S hw d)) (hgw : gl = 1 → hw = 1) : Met l yX12_stepUp (.code yX12_stepUp cX12_stepUp 6 (some .int) :: tb) (rmk 6 0 0) (sPc G 294 S [.ref (G.2.2.1 + 231), .int (iv gl)]) (sQi G 294 (fun r u => dX G u ∧ Fr S u (pl [231, 237, 238]) ∧ FF S u (fl [71, 72]) ∧ ((-1 ≤ r ∧ r ≤ 1) ∧ Hd (r = 0 → cU d (-gl) = 0) ∧ Hd (r ≠ 0 → cU d (-gl) ≠ 0 ∧ u.1 231 72 = cU d (-gl)) ∧ Hd (r = -1 → rU d (cU d (-gl)) = 0) ∧ Hd (r = 1 → rU d (cU d (-gl)) ≠ 0 ∧ u.1 231 71 = rU d (cU d (-gl)))))) 0 0 (sF G) := by
  refine sEnter (by decide) (Nat.le_of_ble_eq_true rfl) ?_
  intro p e s m args below meth c Cx hr hlk hnm hW ls hl
  have Cx : sC G p m c cX12_stepUp 6 s args RX12 := Cx
  obtain ⟨hx, hb, hml, hown, hts⟩ := id Cx.1
  have hL : sL G [] := sL_nil
  have hl : lv_has ls 6 [(0, .ref (G.2.2.1 + 231)), (1, .int (iv gl))] := hl
  have hW0 := hW
  have hd1 := hD.1
  have hr58 := hR.2.2.2.2.1; have hr59 := hR.2.2.2.2.2.1; have hr60 := hR.2.2.2.2.2.2
  refine lv_iconst (v := iv 0) hx hb dX12_stepUp_0 (by decide) ?_
  refine lv_istore_n (lv' := [(2, .int (iv 0)), (0, .ref (G.2.2.1 + 231)), (1, .int (iv gl))]) hx hb dX12_stepUp_1 rfl hl (by decide) rfl (fun ls hl => ?_)
  refine lv_iconst (v := iv 1) hx hb dX12_stepUp_2 (by decide) ?_
  refine lv_istore_n (lv' := [(3, .int (iv 1)), (2, .int (iv 0)), (0, .ref (G.2.2.1 + 231)), (1, .int (iv gl))]) hx hb dX12_stepUp_3 rfl hl (by decide) rfl (fun ls hl => ?_)
  have loop_4 : ∀ (fuel : Nat) (j : Int) (s1 : Int) (H : Heap) (locs : List Loc) (ls : Array Slot), (S.1 231 59 + 1 - j).toNat < fuel → (1 ≤ j ∧ j ≤ S.1 231 59 + 1) → (0 ≤ s1 ∧ s1 < j) → (Hd (s1 = pick (fun j => d.2.1 (-gl) j < 0) (fun j s => d.2.2.2.1 j < d.2.2.2.1 s) (j - 1).toNat)) → sW G 294 S H → sL G locs → lv_has ls 6 [(3, .int (iv j)), (2, .int (iv s1)), (0, .ref (G.2.2.1 + 231)), (1, .int (iv gl))] → W p l e (rmk 6 0 0) s m args below meth c H locs 0 0 (MQ below (sQi G 294 (fun r u => dX G u ∧ Fr S u (pl [231, 237, 238]) ∧ FF S u (fl [71, 72]) ∧ ((-1 ≤ r ∧ r ≤ 1) ∧ Hd (r = 0 → cU d (-gl) = 0) ∧ Hd (r ≠ 0 → cU d (-gl) ≠ 0 ∧ u.1 231 72 = cU d (-gl)) ∧ Hd (r = -1 → rU d (cU d (-gl)) = 0) ∧ Hd (r = 1 → rU d (cU d (-gl)) ≠ 0 ∧ u.1 231 71 = rU d (cU d (-gl)))))) args s 0 0 (sF G)) (F0 m 4 ls []) := by
    intro fuel
    induction fuel with
    | zero => intro j s1 H locs ls hmeas hj hs1 hpk hW hL hl; exact absurd hmeas (Nat.not_lt_zero _)
    | succ fuel ih_4 =>
      intro j s1 H locs ls hmeas hj hs1 hpk hW hL hl
      refine lv_iload_n hx hb dX12_stepUp_4 rfl (lv_at hl 0 rfl) ?_
      refine lv_aload_n hx hb dX12_stepUp_5 rfl (lv_at hl 2 rfl) ?_
      have q_1 : (-2147483648) ≤ S.1 231 59 ∧ S.1 231 59 ≤ 2147483647 := hI.fi 59
      refine g_X12_526 Cx hW (k := 231) (by decide) rfl (v := S.1 231 59) rfl dX12_stepUp_6 ?_
      refine r_icmp_gt (tgt := 53) hx hb ⟨(by omega), (by omega)⟩ ⟨(by omega), (by omega)⟩ dX12_stepUp_9 (by decide) (fun c_2 => ?_) (fun c_2 => ?_)
      · refine lv_iload_n hx hb dX12_stepUp_53 rfl (lv_at hl 1 rfl) ?_
        refine r_if_ne (tgt := 59) hx hb ⟨(by omega), (by omega)⟩ dX12_stepUp_54 (by decide) (fun c_3 => ?_) (fun c_3 => ?_)
        · refine lv_aload_n hx hb dX12_stepUp_59 rfl (lv_at hl 2 rfl) ?_
          refine lv_iload_n hx hb dX12_stepUp_60 rfl (lv_at hl 1 rfl) ?_
          refine p_X12_555 Cx hW hL (k := 231) (by decide) rfl dX12_stepUp_61 (fun H locs hW hL => ?_)
          have F_4 : Fr S (uF S 231 72 s1) (pl [231, 237, 238]) := (Fr.rf : Fr S S (pl [231, 237, 238])).F rfl
          have g_5 : FF S (uF S 231 72 s1) (fl [71, 72]) := FF.F FF.rf rfl
          have i_6 : dX G (uF S 231 72 s1) := hI.F (i := 72) (show (-2147483648) ≤ s1 ∧ s1 ≤ 2147483647 from ⟨by omega, by omega⟩)
          refine lv_iconst (v := iv 0) hx hb dX12_stepUp_64 (by decide) ?_
          refine lv_istore_n (lv' := [(3, .int (iv 0)), (2, .int (iv s1)), (0, .ref (G.2.2.1 + 231)), (1, .int (iv gl))]) hx hb dX12_stepUp_65 rfl hl (by decide) rfl (fun ls hl => ?_)
          refine lv_iconst (v := iv 1) hx hb dX12_stepUp_66 (by decide) ?_
          refine lv_istore (lv' := [(4, .int (iv 1)), (3, .int (iv 0)), (2, .int (iv s1)), (0, .ref (G.2.2.1 + 231)), (1, .int (iv gl))]) hx hb dX12_stepUp_67 hl (by decide) rfl (fun ls hl => ?_)
          have loop_69 : ∀ (fuel : Nat) (S69 : sS) (i : Int) (r1 : Int) (H : Heap) (locs : List Loc) (ls : Array Slot), (S.1 231 58 + 1 - i).toNat < fuel → (dX G S69) → (Fr S S69 (pl [231, 237, 238])) → (Fr ((uF S 231 72 s1)) S69 (pl [237, 238])) → (FF S S69 (fl [71, 72])) → (FF ((uF S 231 72 s1)) S69 (fl [])) → (1 ≤ i ∧ i ≤ S.1 231 58 + 1) → (0 ≤ r1 ∧ r1 < i) → (Hd (r1 = pick (fun i => 0 < d.2.1 i s1) (ltU d s1) (i - 1).toNat)) → sW G 294 S69 H → sL G locs → lv_has ls 6 [(4, .int (iv i)), (3, .int (iv r1)), (2, .int (iv s1)), (0, .ref (G.2.2.1 + 231)), (1, .int (iv gl))] → W p l e (rmk 6 0 0) s m args below meth c H locs 0 0 (MQ below (sQi G 294 (fun r u => dX G u ∧ Fr S u (pl [231, 237, 238]) ∧ FF S u (fl [71, 72]) ∧ ((-1 ≤ r ∧ r ≤ 1) ∧ Hd (r = 0 → cU d (-gl) = 0) ∧ Hd (r ≠ 0 → cU d (-gl) ≠ 0 ∧ u.1 231 72 = cU d (-gl)) ∧ Hd (r = -1 → rU d (cU d (-gl)) = 0) ∧ Hd (r = 1 → rU d (cU d (-gl)) ≠ 0 ∧ u.1 231 71 = rU d (cU d (-gl)))))) args s 0 0 (sF G)) (F0 m 69 ls []) := by
            intro fuel
            induction fuel with
            | zero => intro S69 i r1 H locs ls hmeas hI69 hFm69 hL69_ hGm69 gL69_ hi hr1 hpr hW hL hl; exact absurd hmeas (Nat.not_lt_zero _)
            | succ fuel ih_69 =>
              intro S69 i r1 H locs ls hmeas hI69 hFm69 hL69_ hGm69 gL69_ hi hr1 hpr hW hL hl
              refine lv_iload hx hb dX12_stepUp_69 (lv_at hl 0 rfl) ?_
              refine lv_aload_n hx hb dX12_stepUp_71 rfl (lv_at hl 3 rfl) ?_
              have q_7 : (-2147483648) ≤ S.1 231 58 ∧ S.1 231 58 ≤ 2147483647 := hI.fi 58
              refine g_X12_483 Cx hW (k := 231) (by decide) rfl (v := S.1 231 58) ((gL69_ 58 rfl).trans (uF_ne (fun h => absurd h.2 (by decide)))) dX12_stepUp_72 ?_
              refine r_icmp_gt (tgt := 181) hx hb ⟨(by omega), (by omega)⟩ ⟨(by omega), (by omega)⟩ dX12_stepUp_75 (by decide) (fun c_8 => ?_) (fun c_8 => ?_)
              · refine lv_aload_n hx hb dX12_stepUp_181 rfl (lv_at hl 3 rfl) ?_
                refine lv_iload_n hx hb dX12_stepUp_182 rfl (lv_at hl 1 rfl) ?_
                refine p_X12_562 Cx hW hL (k := 231) (by decide) rfl dX12_stepUp_183 (fun H locs hW hL => ?_)
                have F_9 : Fr S (uF S69 231 71 r1) (pl [231, 237, 238]) := hFm69.F rfl
                have g_10 : FF S (uF S69 231 71 r1) (fl [71, 72]) := FF.F hGm69 rfl
                have i_11 : dX G (uF S69 231 71 r1) := hI69.F (i := 71) (show (-2147483648) ≤ r1 ∧ r1 ≤ 2147483647 from ⟨by omega, by omega⟩)
                refine lv_iload_n hx hb dX12_stepUp_186 rfl (lv_at hl 1 rfl) ?_
                refine r_if_ne (tgt := 194) hx hb ⟨(by omega), (by omega)⟩ dX12_stepUp_187 (by decide) (fun c_12 => ?_) (fun c_12 => ?_)
                · refine lv_iconst (v := iv 1) hx hb dX12_stepUp_194 (by decide) ?_
                  have lk_13 : (uF S69 231 71 r1).1 231 72 = s1 := (uF_ne (fun h => absurd h.2 (by decide))).trans ((gL69_ 72 rfl).trans (uF_on))
                  have lk_14 : (uF S69 231 71 r1).1 231 71 = r1 := uF_on
                  exact sIret Cx hr hlk hW hL ⟨i_11, F_9, g_10, ⟨by omega, (fun q => absurd q (by omega)), (fun _ => ⟨by have e := (show s1 = cU d (-gl) by have e := hpk; rw [show j - 1 = d.2.2.2.2.2 by omega] at e; exact e); omega, ((uF_ne (fun h => absurd h.2 (by decide))).trans ((gL69_ 72 rfl).trans (uF_on)) : (uF S69 231 71 r1).1 231 72 = s1).trans (show s1 = cU d (-gl) by have e := hpk; rw [show j - 1 = d.2.2.2.2.2 by omega] at e; exact e)⟩), (fun q => absurd q (by omega)), (fun _ => by rw [← (show s1 = cU d (-gl) by have e := hpk; rw [show j - 1 = d.2.2.2.2.2 by omega] at e; exact e)]; have e := (show r1 = rU d s1 by have e := hpr; rw [show i - 1 = d.2.2.2.2.1 by omega] at e; exact e); exact ⟨by omega, (uF_on : (uF S69 231 71 r1).1 231 71 = r1).trans e⟩)⟩⟩ dX12_stepUp_195
                · refine lv_iconst (v := iv (-1)) hx hb dX12_stepUp_190 (by decide) ?_
                  refine lv_goto (tgt := 195) hx hb dX12_stepUp_191 (by decide) ?_
                  have lk_15 : (uF S69 231 71 r1).1 231 72 = s1 := (uF_ne (fun h => absurd h.2 (by decide))).trans ((gL69_ 72 rfl).trans (uF_on))
                  have lk_16 : (uF S69 231 71 r1).1 231 71 = r1 := uF_on
                  exact sIret Cx hr hlk hW hL ⟨i_11, F_9, g_10, ⟨by omega, (fun q => absurd q (by omega)), (fun _ => ⟨by have e := (show s1 = cU d (-gl) by have e := hpk; rw [show j - 1 = d.2.2.2.2.2 by omega] at e; exact e); omega, ((uF_ne (fun h => absurd h.2 (by decide))).trans ((gL69_ 72 rfl).trans (uF_on)) : (uF S69 231 71 r1).1 231 72 = s1).trans (show s1 = cU d (-gl) by have e := hpk; rw [show j - 1 = d.2.2.2.2.2 by omega] at e; exact e)⟩), (fun _ => by rw [← (show s1 = cU d (-gl) by have e := hpk; rw [show j - 1 = d.2.2.2.2.2 by omega] at e; exact e)]; have e := (show r1 = rU d s1 by have e := hpr; rw [show i - 1 = d.2.2.2.2.1 by omega] at e; exact e); omega), (fun q => absurd q (by omega))⟩⟩ dX12_stepUp_195
              · have join_175 : ∀ (S175 : sS) (r2 : Int) (H : Heap) (locs : List Loc) (ls : Array Slot), (dX G S175) → (Fr S S175 (pl [231, 237, 238])) → (Fr ((uF S 231 72 s1)) S175 (pl [237, 238])) → (Fr S69 S175 (pl [237, 238])) → (FF S S175 (fl [71, 72])) → (FF ((uF S 231 72 s1)) S175 (fl [])) → (FF S69 S175 (fl [])) → (0 ≤ r2 ∧ r2 ≤ i) → (Hd (r2 = pick (fun i => 0 < d.2.1 i s1) (ltU d s1) (i + 1 - 1).toNat)) → sW G 294 S175 H → sL G locs → lv_has ls 6 [(4, .int (iv i)), (3, .int (iv r2)), (2, .int (iv s1)), (0, .ref (G.2.2.1 + 231)), (1, .int (iv gl))] → W p l e (rmk 6 0 0) s m args below meth c H locs 0 0 (MQ below (sQi G 294 (fun r u => dX G u ∧ Fr S u (pl [231, 237, 238]) ∧ FF S u (fl [71, 72]) ∧ ((-1 ≤ r ∧ r ≤ 1) ∧ Hd (r = 0 → cU d (-gl) = 0) ∧ Hd (r ≠ 0 → cU d (-gl) ≠ 0 ∧ u.1 231 72 = cU d (-gl)) ∧ Hd (r = -1 → rU d (cU d (-gl)) = 0) ∧ Hd (r = 1 → rU d (cU d (-gl)) ≠ 0 ∧ u.1 231 71 = rU d (cU d (-gl)))))) args s 0 0 (sF G)) (F0 m 175 ls []) := by
                  intro S175 r2 H locs ls hI175 hFm175 hFL69175 hL175_ hGm175 hGL69175 gL175_ hr2 hpr2 hW hL hl
                  refine lv_iinc (v := iv (i + 1)) (lv' := [(4, .int (iv (i + 1))), (3, .int (iv r2)), (2, .int (iv s1)), (0, .ref (G.2.2.1 + 231)), (1, .int (iv gl))]) hx hb dX12_stepUp_175 hl (k := 0) rfl ((Int32.ofInt_add _ _).symm) (by decide) rfl (fun ls hl => ?_)
                  refine lv_goto (tgt := 69) hx hb dX12_stepUp_178 (by decide) ?_
                  exact ih_69 S175 (i + 1) r2 _ _ _ (by omega) hI175 hFm175 hFL69175 hGm175 hGL69175 (by omega) (by omega) hpr2 hW hL (lv_sub hl [0, 1, 2, 3, 4] rfl)
                refine lv_aload_n hx hb dX12_stepUp_78 rfl (lv_at hl 3 rfl) ?_
                refine g_X12_103 Cx hW (k := 231) (by decide) rfl (v := .ref (G.2.2.1 + 262)) (rd_53 hI69) dX12_stepUp_79 ?_
                refine lv_aload_n hx hb dX12_stepUp_82 rfl (lv_at hl 3 rfl) ?_
                refine lv_iload hx hb dX12_stepUp_83 (lv_at hl 0 rfl) ?_
                refine lv_iconst (v := iv 1) hx hb dX12_stepUp_85 (by decide) ?_
                refine r_iadd hx hb dX12_stepUp_86 ?_
                refine lv_iload_n hx hb dX12_stepUp_87 rfl (lv_at hl 2 rfl) ?_
                refine sBi (sV (As := [.int (iv (i + 1)), .int (iv s1)]) (rest := [.ref (G.2.2.1 + 262)]) (k := 231) Cx (s_X12_cell l G S69 (i := i + 1) (j := s1) (by omega) (by omega)) (c_X12_529 Cx rfl rfl (rmk_ok (by omega) (by decide))) hW (by decide) rfl rfl rfl hl.1 rfl (Nat.le_of_ble_eq_true rfl) dX12_stepUp_88 ⟨Nat.le_of_ble_eq_true rfl, Nat.le_of_ble_eq_true rfl⟩) hL (fun r_19 u_17 H locs k_18 hW hL => ?_)
                obtain ⟨eu_17, xu_17⟩ := k_18
                rw [eu_17] at hW
                refine rIald Cx hW (k := 262) (by decide) rfl (by decide) (by omega) (by omega) dX12_stepUp_91 ?_
                have q_20 : (-2147483648) ≤ S.2.1 262 r_19 ∧ S.2.1 262 r_19 ≤ 2147483647 := hI.ai 262 r_19
                refine r_i (b := S.2.1 262 r_19) (((hL69_ 262 rfl).2.1 r_19).trans (uF_a)) ?_
                have hrd2 : S.2.1 262 (8 * (15 * (i + 1) + s1)) = S.2.1 262 r_19 := congrArg (S.2.1 262) (by omega)
                refine r_if_gt (tgt := 98) hx hb ⟨(by omega), (by omega)⟩ dX12_stepUp_92 (by decide) (fun c_21 => ?_) (fun c_21 => ?_)
                · have join_144 : ∀ (S144 : sS) (c0 : Int) (H : Heap) (locs : List Loc) (ls : Array Slot), (dX G S144) → (Fr S S144 (pl [231, 237, 238])) → (Fr ((uF S 231 72 s1)) S144 (pl [237, 238])) → (Fr S69 S144 (pl [237, 238])) → (Fr S69 S144 (pl [237, 238])) → (FF S S144 (fl [71, 72])) → (FF ((uF S 231 72 s1)) S144 (fl [])) → (FF S69 S144 (fl [])) → (FF S69 S144 (fl [])) → (-1 ≤ c0 ∧ c0 ≤ 1) → (Hd ((r1 = 0 → c0 = -1) ∧ (r1 ≠ 0 → (c0 < 0 ↔ d.2.1 i 0 * d.2.1 r1 s1 < d.2.1 r1 0 * d.2.1 i s1) ∧ (c0 = 0 ↔ d.2.1 i 0 * d.2.1 r1 s1 = d.2.1 r1 0 * d.2.1 i s1)))) → sW G 294 S144 H → sL G locs → lv_has ls 6 [(4, .int (iv i)), (3, .int (iv r1)), (2, .int (iv s1)), (0, .ref (G.2.2.1 + 231)), (1, .int (iv gl))] → W p l e (rmk 6 0 0) s m args below meth c H locs 0 0 (MQ below (sQi G 294 (fun r u => dX G u ∧ Fr S u (pl [231, 237, 238]) ∧ FF S u (fl [71, 72]) ∧ ((-1 ≤ r ∧ r ≤ 1) ∧ Hd (r = 0 → cU d (-gl) = 0) ∧ Hd (r ≠ 0 → cU d (-gl) ≠ 0 ∧ u.1 231 72 = cU d (-gl)) ∧ Hd (r = -1 → rU d (cU d (-gl)) = 0) ∧ Hd (r = 1 → rU d (cU d (-gl)) ≠ 0 ∧ u.1 231 71 = rU d (cU d (-gl)))))) args s 0 0 (sF G)) (F0 m 144 ls [.int (iv c0)]) := by
                    intro S144 c0 H locs ls hI144 hFm144 hFL69144 hFL175144 hL144_ hGm144 hGL69144 hGL175144 gL144_ hc0 hc1 hW hL hl
                    refine lv_istore (lv' := [(5, .int (iv c0)), (4, .int (iv i)), (3, .int (iv r1)), (2, .int (iv s1)), (0, .ref (G.2.2.1 + 231)), (1, .int (iv gl))]) hx hb dX12_stepUp_144 hl (by decide) rfl (fun ls hl => ?_)
                    refine lv_iload hx hb dX12_stepUp_146 (lv_at hl 0 rfl) ?_
                    refine r_if_lt (tgt := 172) hx hb ⟨(by omega), (by omega)⟩ dX12_stepUp_148 (by decide) (fun c_22 => ?_) (fun c_22 => ?_)
                    · refine lv_iload hx hb dX12_stepUp_172 (lv_at hl 1 rfl) ?_
                      refine lv_istore_n (lv' := [(3, .int (iv i)), (5, .int (iv c0)), (4, .int (iv i)), (2, .int (iv s1)), (0, .ref (G.2.2.1 + 231)), (1, .int (iv gl))]) hx hb dX12_stepUp_174 rfl hl (by decide) rfl (fun ls hl => ?_)
                      exact join_175 S144 i _ _ _ hI144 hFm144 hFL69144 hFL175144 hGm144 hGL69144 hGL175144 (by omega) (pick_y (P := (fun i => 0 < d.2.1 i s1)) (lt := (ltU d s1)) (x := r1) (by omega) hpr (by show 0 < d.2.1 i s1; have k0 := (hR.sg hD (i := i) (j := s1) (a := i + 1) (c := 8 * (15 * (i + 1) + s1)) (by omega) (by omega) (by omega) (by first | exact (rI_p (by omega)).symm | (unfold rI; split <;> omega) | rfl) (by omega)); omega) (by by_cases q : r1 = 0; exact .inl q; exact .inr (by have h1 := (hc1.2 q).1; have h2 := (hc1.2 q).2; have e1 := hR.2.2.1 i (by omega) (by omega); have e2 := hR.2.2.1 r1 (by omega) (by omega); show ltU d s1 i r1; unfold ltU; omega))) hW hL (lv_sub hl [2, 0, 3, 4, 5] rfl)
                    · refine lv_iload hx hb dX12_stepUp_151 (lv_at hl 0 rfl) ?_
                      refine r_if_ne (tgt := 175) hx hb ⟨(by omega), (by omega)⟩ dX12_stepUp_153 (by decide) (fun c_23 => ?_) (fun c_23 => ?_)
                      · exact join_175 S144 r1 _ _ _ hI144 hFm144 hFL69144 hFL175144 hGm144 hGL69144 hGL175144 (by omega) (pick_n (P := (fun i => 0 < d.2.1 i s1)) (lt := (ltU d s1)) (x := r1) (by omega) hpr (fun z => by have z1 : 0 < d.2.1 i s1 := z.1; have k0 := (hR.sg hD (i := i) (j := s1) (a := i + 1) (c := 8 * (15 * (i + 1) + s1)) (by omega) (by omega) (by omega) (by first | exact (rI_p (by omega)).symm | (unfold rI; split <;> omega) | rfl) (by omega)); by_cases q : r1 = 0; (first | omega | (have h0 := hc1.1 q; omega)); (rcases z.2 with y | y; omega; (have y2 : ltU d s1 i r1 := y; unfold ltU at y2; first | omega | (have h1 := (hc1.2 q).1; have h2 := (hc1.2 q).2; have e1 := hR.2.2.1 i (by omega) (by omega); have e2 := hR.2.2.1 r1 (by omega) (by omega); omega))))) hW hL (lv_sub hl [1, 2, 3, 4, 5] rfl)
                      · refine lv_aload_n hx hb dX12_stepUp_156 rfl (lv_at hl 4 rfl) ?_
                        refine g_X12_112 Cx hW (k := 231) (by decide) rfl (v := .ref (G.2.2.1 + 265)) (rd_56 hI144) dX12_stepUp_157 ?_
                        refine lv_iload hx hb dX12_stepUp_160 (lv_at hl 1 rfl) ?_
                        refine rIald Cx hW (k := 265) (by decide) rfl (by decide) (by omega) (by omega) dX12_stepUp_162 ?_
                        have q_24 : (-2147483648) ≤ S.2.1 265 i ∧ S.2.1 265 i ≤ 2147483647 := hI.ai 265 i
                        refine r_i (b := S.2.1 265 i) (((hL144_ 265 rfl).2.1 i).trans (((hL69_ 265 rfl).2.1 i).trans (uF_a))) ?_
                        refine lv_aload_n hx hb dX12_stepUp_163 rfl (lv_at hl 4 rfl) ?_
                        refine g_X12_112 Cx hW (k := 231) (by decide) rfl (v := .ref (G.2.2.1 + 265)) (rd_56 hI144) dX12_stepUp_164 ?_
                        refine lv_iload_n hx hb dX12_stepUp_167 rfl (lv_at hl 2 rfl) ?_
                        refine rIald Cx hW (k := 265) (by decide) rfl (by decide) (by omega) (by omega) dX12_stepUp_168 ?_
                        have q_25 : (-2147483648) ≤ S.2.1 265 r1 ∧ S.2.1 265 r1 ≤ 2147483647 := hI.ai 265 r1
                        refine r_i (b := S.2.1 265 r1) (((hL144_ 265 rfl).2.1 r1).trans (((hL69_ 265 rfl).2.1 r1).trans (uF_a))) ?_
                        refine r_icmp_ge (tgt := 175) hx hb ⟨(by omega), (by omega)⟩ ⟨(by omega), (by omega)⟩ dX12_stepUp_169 (by decide) (fun c_26 => ?_) (fun c_26 => ?_)
                        · exact join_175 S144 r1 _ _ _ hI144 hFm144 hFL69144 hFL175144 hGm144 hGL69144 hGL175144 (by omega) (pick_n (P := (fun i => 0 < d.2.1 i s1)) (lt := (ltU d s1)) (x := r1) (by omega) hpr (fun z => by have z1 : 0 < d.2.1 i s1 := z.1; have k0 := (hR.sg hD (i := i) (j := s1) (a := i + 1) (c := 8 * (15 * (i + 1) + s1)) (by omega) (by omega) (by omega) (by first | exact (rI_p (by omega)).symm | (unfold rI; split <;> omega) | rfl) (by omega)); by_cases q : r1 = 0; (first | omega | (have h0 := hc1.1 q; omega)); (rcases z.2 with y | y; omega; (have y2 : ltU d s1 i r1 := y; unfold ltU at y2; first | omega | (have h1 := (hc1.2 q).1; have h2 := (hc1.2 q).2; have e1 := hR.2.2.1 i (by omega) (by omega); have e2 := hR.2.2.1 r1 (by omega) (by omega); omega))))) hW hL (lv_sub hl [1, 2, 3, 4, 5] rfl)
                        · refine lv_iload hx hb dX12_stepUp_172 (lv_at hl 1 rfl) ?_
                          refine lv_istore_n (lv' := [(3, .int (iv i)), (5, .int (iv c0)), (4, .int (iv i)), (2, .int (iv s1)), (0, .ref (G.2.2.1 + 231)), (1, .int (iv gl))]) hx hb dX12_stepUp_174 rfl hl (by decide) rfl (fun ls hl => ?_)
                          exact join_175 S144 i _ _ _ hI144 hFm144 hFL69144 hFL175144 hGm144 hGL69144 hGL175144 (by omega) (pick_y (P := (fun i => 0 < d.2.1 i s1)) (lt := (ltU d s1)) (x := r1) (by omega) hpr (by show 0 < d.2.1 i s1; have k0 := (hR.sg hD (i := i) (j := s1) (a := i + 1) (c := 8 * (15 * (i + 1) + s1)) (by omega) (by omega) (by omega) (by first | exact (rI_p (by omega)).symm | (unfold rI; split <;> omega) | rfl) (by omega)); omega) (by by_cases q : r1 = 0; exact .inl q; exact .inr (by have h1 := (hc1.2 q).1; have h2 := (hc1.2 q).2; have e1 := hR.2.2.1 i (by omega) (by omega); have e2 := hR.2.2.1 r1 (by omega) (by omega); show ltU d s1 i r1; unfold ltU; omega))) hW hL (lv_sub hl [2, 0, 3, 4, 5] rfl)
                  refine lv_iload_n hx hb dX12_stepUp_98 rfl (lv_at hl 1 rfl) ?_
                  refine r_if_ne (tgt := 106) hx hb ⟨(by omega), (by omega)⟩ dX12_stepUp_99 (by decide) (fun c_27 => ?_) (fun c_27 => ?_)
                  · refine lv_aload_n hx hb dX12_stepUp_106 rfl (lv_at hl 3 rfl) ?_
                    refine lv_aload_n hx hb dX12_stepUp_107 rfl (lv_at hl 3 rfl) ?_
                    refine lv_iload hx hb dX12_stepUp_108 (lv_at hl 0 rfl) ?_
                    refine lv_iconst (v := iv 1) hx hb dX12_stepUp_110 (by decide) ?_
                    refine r_iadd hx hb dX12_stepUp_111 ?_
                    refine lv_iconst (v := iv 0) hx hb dX12_stepUp_112 (by decide) ?_
                    refine sBi (sV (As := [.int (iv (i + 1)), .int (iv 0)]) (rest := [.ref (G.2.2.1 + 231)]) (k := 231) Cx (s_X12_cell l G S69 (i := i + 1) (j := 0) (by omega) (by omega)) (c_X12_529 Cx rfl rfl (rmk_ok (by omega) (by decide))) hW (by decide) rfl rfl rfl hl.1 rfl (Nat.le_of_ble_eq_true rfl) dX12_stepUp_113 ⟨Nat.le_of_ble_eq_true rfl, Nat.le_of_ble_eq_true rfl⟩) hL (fun r_30 u_28 H locs k_29 hW hL => ?_)
                    obtain ⟨eu_28, xu_28⟩ := k_29
                    rw [eu_28] at hW
                    refine lv_aload_n hx hb dX12_stepUp_116 rfl (lv_at hl 3 rfl) ?_
                    refine lv_iload hx hb dX12_stepUp_117 (lv_at hl 0 rfl) ?_
                    refine lv_iconst (v := iv 1) hx hb dX12_stepUp_119 (by decide) ?_
                    refine r_iadd hx hb dX12_stepUp_120 ?_
                    refine lv_iload_n hx hb dX12_stepUp_121 rfl (lv_at hl 2 rfl) ?_
                    refine sBi (sV (As := [.int (iv (i + 1)), .int (iv s1)]) (rest := [.int (iv r_30), .ref (G.2.2.1 + 231)]) (k := 231) Cx (s_X12_cell l G S69 (i := i + 1) (j := s1) (by omega) (by omega)) (c_X12_529 Cx rfl rfl (rmk_ok (by omega) (by decide))) hW (by decide) rfl rfl rfl hl.1 rfl (Nat.le_of_ble_eq_true rfl) dX12_stepUp_122 ⟨Nat.le_of_ble_eq_true rfl, Nat.le_of_ble_eq_true rfl⟩) hL (fun r_33 u_31 H locs k_32 hW hL => ?_)
                    obtain ⟨eu_31, xu_31⟩ := k_32
                    rw [eu_31] at hW
                    refine lv_aload_n hx hb dX12_stepUp_125 rfl (lv_at hl 3 rfl) ?_
                    refine lv_iload_n hx hb dX12_stepUp_126 rfl (lv_at hl 1 rfl) ?_
                    refine lv_iconst (v := iv 1) hx hb dX12_stepUp_127 (by decide) ?_
                    refine r_iadd hx hb dX12_stepUp_128 ?_
                    refine lv_iconst (v := iv 0) hx hb dX12_stepUp_129 (by decide) ?_
                    refine sBi (sV (As := [.int (iv (r1 + 1)), .int (iv 0)]) (rest := [.int (iv r_33), .int (iv r_30), .ref (G.2.2.1 + 231)]) (k := 231) Cx (s_X12_cell l G S69 (i := r1 + 1) (j := 0) (by omega) (by omega)) (c_X12_529 Cx rfl rfl (rmk_ok (by omega) (by decide))) hW (by decide) rfl rfl rfl hl.1 rfl (Nat.le_of_ble_eq_true rfl) dX12_stepUp_130 ⟨Nat.le_of_ble_eq_true rfl, Nat.le_of_ble_eq_true rfl⟩) hL (fun r_36 u_34 H locs k_35 hW hL => ?_)
                    obtain ⟨eu_34, xu_34⟩ := k_35
                    rw [eu_34] at hW
                    refine lv_aload_n hx hb dX12_stepUp_133 rfl (lv_at hl 3 rfl) ?_
                    refine lv_iload_n hx hb dX12_stepUp_134 rfl (lv_at hl 1 rfl) ?_
                    refine lv_iconst (v := iv 1) hx hb dX12_stepUp_135 (by decide) ?_
                    refine r_iadd hx hb dX12_stepUp_136 ?_
                    refine lv_iload_n hx hb dX12_stepUp_137 rfl (lv_at hl 2 rfl) ?_
                    refine sBi (sV (As := [.int (iv (r1 + 1)), .int (iv s1)]) (rest := [.int (iv r_36), .int (iv r_33), .int (iv r_30), .ref (G.2.2.1 + 231)]) (k := 231) Cx (s_X12_cell l G S69 (i := r1 + 1) (j := s1) (by omega) (by omega)) (c_X12_529 Cx rfl rfl (rmk_ok (by omega) (by decide))) hW (by decide) rfl rfl rfl hl.1 rfl (Nat.le_of_ble_eq_true rfl) dX12_stepUp_138 ⟨Nat.le_of_ble_eq_true rfl, Nat.le_of_ble_eq_true rfl⟩) hL (fun r_39 u_37 H locs k_38 hW hL => ?_)
                    obtain ⟨eu_37, xu_37⟩ := k_38
                    rw [eu_37] at hW
                    refine sBi (sV (As := [.int (iv r_30), .int (iv r_33), .int (iv r_36), .int (iv r_39)]) (rest := []) (k := 231) Cx (r_X12_ratio l G S69 (a := r_30) (b := r_33) (c1 := r_36) (d1 := r_39) hI69 (by omega) (by omega) (by omega) (by omega) (by rw [show S69.2.1 262 = S.2.1 262 from (funext fun j => ((hL69_ 262 rfl).2.1 j).trans (uF_a) : S69.2.1 262 = S.2.1 262)]; exact hD.at (i := i + 1) (j := 0) (by omega) (by omega) (by omega) (by omega)) (by rw [show S69.2.1 262 = S.2.1 262 from (funext fun j => ((hL69_ 262 rfl).2.1 j).trans (uF_a) : S69.2.1 262 = S.2.1 262)]; exact hD.at (i := i + 1) (j := s1) (by omega) (by omega) (by omega) (by omega)) (by rw [show S69.2.1 262 = S.2.1 262 from (funext fun j => ((hL69_ 262 rfl).2.1 j).trans (uF_a) : S69.2.1 262 = S.2.1 262)]; exact hD.at (i := r1 + 1) (j := 0) (by omega) (by omega) (by omega) (by omega)) (by rw [show S69.2.1 262 = S.2.1 262 from (funext fun j => ((hL69_ 262 rfl).2.1 j).trans (uF_a) : S69.2.1 262 = S.2.1 262)]; exact hD.at (i := r1 + 1) (j := s1) (by omega) (by omega) (by omega) (by omega))) (c_X12_558 Cx rfl rfl (rmk_ok (by omega) (by decide))) hW (by decide) rfl rfl rfl hl.1 rfl (Nat.le_of_ble_eq_true rfl) dX12_stepUp_141 ⟨Nat.le_of_ble_eq_true rfl, Nat.le_of_ble_eq_true rfl⟩) hL (fun r_42 u_40 H locs k_41 hW hL => ?_)
                    obtain ⟨iu_40, fu_40, gu_40, xu_40⟩ := k_41
                    have F_43 := hFm69.trans (fu_40.to (pl_sub (by decide)))
                    have F_44 := hL69_.trans fu_40
                    have F_45 := (Fr.rf : Fr S69 S69 (pl [237, 238])).trans fu_40
                    have F_46 := (Fr.rf : Fr S69 S69 (pl [237, 238])).trans fu_40
                    have g_47 : FF S u_40 (fl [71, 72]) := FF.trans hGm69 (FF.to gu_40 (fl_sub (by decide)))
                    have g_48 : FF ((uF S 231 72 s1)) u_40 (fl []) := FF.trans gL69_ (FF.to gu_40 (fl_sub (by decide)))
                    have g_49 : FF S69 u_40 (fl []) := FF.trans (FF.rf : FF S69 S69 (fl [])) (FF.to gu_40 (fl_sub (by decide)))
                    have g_50 : FF S69 u_40 (fl []) := FF.trans (FF.rf : FF S69 S69 (fl [])) (FF.to gu_40 (fl_sub (by decide)))
                    exact join_144 u_40 r_42 _ _ _ iu_40 F_43 F_44 F_45 F_46 g_47 g_48 g_49 g_50 (by omega) ⟨fun q => absurd q (by omega), fun _ => by have y := xu_40.2; rw [(show S69.2.1 262 = S.2.1 262 from (funext fun j => ((hL69_ 262 rfl).2.1 j).trans (uF_a) : S69.2.1 262 = S.2.1 262)), (hR.vv (i := i) (j := 0) (c := r_30) (by omega) (by omega) (by omega) (by (first | rw [rI_p (by omega)] | rw [rI_z]); (try omega))), (hR.vv (i := r1) (j := s1) (c := r_39) (by omega) (by omega) (by omega) (by (first | rw [rI_p (by omega)] | rw [rI_z]); (try omega))), (hR.vv (i := r1) (j := 0) (c := r_36) (by omega) (by omega) (by omega) (by (first | rw [rI_p (by omega)] | rw [rI_z]); (try omega))), (hR.vv (i := i) (j := s1) (c := r_33) (by omega) (by omega) (by omega) (by (first | rw [rI_p (by omega)] | rw [rI_z]); (try omega)))] at y; exact y⟩ hW hL (lv_sub hl [0, 1, 2, 3, 4] rfl)
                  · refine lv_iconst (v := iv (-1)) hx hb dX12_stepUp_102 (by decide) ?_
                    refine lv_goto (tgt := 144) hx hb dX12_stepUp_103 (by decide) ?_
                    exact join_144 S69 ((-1)) _ _ _ hI69 hFm69 hL69_ (Fr.rf : Fr S69 S69 (pl [237, 238])) (Fr.rf : Fr S69 S69 (pl [237, 238])) hGm69 gL69_ (FF.rf : FF S69 S69 (fl [])) (FF.rf : FF S69 S69 (fl [])) (by omega) ⟨fun _ => rfl, fun q => absurd (by omega) q⟩ hW hL (lv_sub hl [0, 1, 2, 3, 4] rfl)
                · refine lv_goto (tgt := 175) hx hb dX12_stepUp_95 (by decide) ?_
                  exact join_175 S69 r1 _ _ _ hI69 hFm69 hL69_ (Fr.rf : Fr S69 S69 (pl [237, 238])) hGm69 gL69_ (FF.rf : FF S69 S69 (fl [])) (by omega) (pick_n (P := (fun i => 0 < d.2.1 i s1)) (lt := (ltU d s1)) (x := r1) (by omega) hpr (fun z => by have z1 : 0 < d.2.1 i s1 := z.1; have k0 := (hR.sg hD (i := i) (j := s1) (a := i + 1) (c := 8 * (15 * (i + 1) + s1)) (by omega) (by omega) (by omega) (by first | exact (rI_p (by omega)).symm | (unfold rI; split <;> omega) | rfl) (by omega)); by_cases q : r1 = 0; (first | omega | (have h0 := hc1.1 q; omega)); (rcases z.2 with y | y; omega; (have y2 : ltU d s1 i r1 := y; unfold ltU at y2; first | omega | (have h1 := (hc1.2 q).1; have h2 := (hc1.2 q).2; have e1 := hR.2.2.1 i (by omega) (by omega); have e2 := hR.2.2.1 r1 (by omega) (by omega); omega))))) hW hL (lv_sub hl [0, 1, 2, 3, 4] rfl)
          exact loop_69 (_ + 1) (uF S 231 72 s1) 1 0 _ _ _ (Nat.lt_succ_self _) i_6 F_4 Fr.rf g_5 FF.rf (by omega) (by omega) (show (0 : Int) = pick _ _ ((1 : Int) - 1).toNat from rfl) hW hL (lv_sub hl [0, 1, 2, 3, 4] rfl)
        · refine lv_iconst (v := iv 0) hx hb dX12_stepUp_57 (by decide) ?_
          have q_51 : (-2147483648) ≤ S.1 231 72 ∧ S.1 231 72 ≤ 2147483647 := hI.fi 72
          have q_52 : (-2147483648) ≤ S.1 231 71 ∧ S.1 231 71 ≤ 2147483647 := hI.fi 71
          exact sIret Cx hr hlk hW hL ⟨hI, (Fr.rf : Fr S S (pl [231, 237, 238])), FF.rf, ⟨by omega, (fun _ => by have e := (show s1 = cU d (-gl) by have e := hpk; rw [show j - 1 = d.2.2.2.2.2 by omega] at e; exact e); omega), (fun q => absurd rfl q), (fun q => absurd q (by omega)), (fun q => absurd q (by omega))⟩⟩ dX12_stepUp_58
      · have join_47 : ∀ (s2 : Int) (H : Heap) (locs : List Loc) (ls : Array Slot), (0 ≤ s2 ∧ s2 ≤ j) → (Hd (s2 = pick (fun j => d.2.1 (-gl) j < 0) (fun j s => d.2.2.2.1 j < d.2.2.2.1 s) (j + 1 - 1).toNat)) → sW G 294 S H → sL G locs → lv_has ls 6 [(3, .int (iv j)), (2, .int (iv s2)), (0, .ref (G.2.2.1 + 231)), (1, .int (iv gl))] → W p l e (rmk 6 0 0) s m args below meth c H locs 0 0 (MQ below (sQi G 294 (fun r u => dX G u ∧ Fr S u (pl [231, 237, 238]) ∧ FF S u (fl [71, 72]) ∧ ((-1 ≤ r ∧ r ≤ 1) ∧ Hd (r = 0 → cU d (-gl) = 0) ∧ Hd (r ≠ 0 → cU d (-gl) ≠ 0 ∧ u.1 231 72 = cU d (-gl)) ∧ Hd (r = -1 → rU d (cU d (-gl)) = 0) ∧ Hd (r = 1 → rU d (cU d (-gl)) ≠ 0 ∧ u.1 231 71 = rU d (cU d (-gl)))))) args s 0 0 (sF G)) (F0 m 47 ls []) := by
          intro s2 H locs ls hs2 hpk2 hW hL hl
          refine lv_iinc (v := iv (j + 1)) (lv' := [(3, .int (iv (j + 1))), (2, .int (iv s2)), (0, .ref (G.2.2.1 + 231)), (1, .int (iv gl))]) hx hb dX12_stepUp_47 hl (k := 0) rfl ((Int32.ofInt_add _ _).symm) (by decide) rfl (fun ls hl => ?_)
          refine lv_goto (tgt := 4) hx hb dX12_stepUp_50 (by decide) ?_
          exact ih_4 (j + 1) s2 _ _ _ (by omega) (by omega) (by omega) hpk2 hW hL (lv_sub hl [0, 1, 2, 3] rfl)
        refine lv_aload_n hx hb dX12_stepUp_12 rfl (lv_at hl 2 rfl) ?_
        refine g_X12_103 Cx hW (k := 231) (by decide) rfl (v := .ref (G.2.2.1 + 262)) (rd_53 hI) dX12_stepUp_13 ?_
        refine lv_aload_n hx hb dX12_stepUp_16 rfl (lv_at hl 2 rfl) ?_
        refine lv_iload_n hx hb dX12_stepUp_17 rfl (lv_at hl 3 rfl) ?_
        refine lv_iload_n hx hb dX12_stepUp_18 rfl (lv_at hl 0 rfl) ?_
        refine sBi (sV (As := [.int (iv gl), .int (iv j)]) (rest := [.ref (G.2.2.1 + 262)]) (k := 231) Cx (s_X12_cell l G S (i := gl) (j := j) (by omega) (by omega)) (c_X12_529 Cx rfl rfl (rmk_ok (by omega) (by decide))) hW (by decide) rfl rfl rfl hl.1 rfl (Nat.le_of_ble_eq_true rfl) dX12_stepUp_19 ⟨Nat.le_of_ble_eq_true rfl, Nat.le_of_ble_eq_true rfl⟩) hL (fun r_55 u_53 H locs k_54 hW hL => ?_)
        obtain ⟨eu_53, xu_53⟩ := k_54
        rw [eu_53] at hW
        refine rIald Cx hW (k := 262) (by decide) rfl (by decide) (by omega) (by omega) dX12_stepUp_22 ?_
        have q_56 : (-2147483648) ≤ S.2.1 262 r_55 ∧ S.2.1 262 r_55 ≤ 2147483647 := hI.ai 262 r_55
        refine r_i (b := S.2.1 262 r_55) rfl ?_
        have hrd : S.2.1 262 (8 * (15 * gl + j)) = S.2.1 262 r_55 := congrArg (S.2.1 262) (by omega)
        refine r_if_ge (tgt := 47) hx hb ⟨(by omega), (by omega)⟩ dX12_stepUp_23 (by decide) (fun c_57 => ?_) (fun c_57 => ?_)
        · exact join_47 s1 _ _ _ (by omega) (pick_n (P := (fun j => d.2.1 (-gl) j < 0)) (lt := (fun j s => d.2.2.2.1 j < d.2.2.2.1 s)) (x := s1) (by omega) hpk (fun z => by have z1 : d.2.1 (-gl) j < 0 := z.1; have k0 := (hR.sg hD (i := -gl) (j := j) (a := gl) (c := 8 * (15 * gl + j)) (by omega) (by omega) (by omega) (by first | exact (rI_p (by omega)).symm | (unfold rI; split <;> omega) | rfl) (by omega)); rcases (by omega : s1 = 0 ∨ 1 ≤ s1) with q | q; omega; (rcases z.2 with y | y; omega; (have y2 : d.2.2.2.1 j < d.2.2.2.1 s1 := y; rw [← hR.2.2.2.1 j (by omega) (by omega), ← hR.2.2.2.1 s1 q (by omega)] at y2; omega)))) hW hL (lv_sub hl [0, 1, 2, 3] rfl)
        · refine lv_iload_n hx hb dX12_stepUp_26 rfl (lv_at hl 1 rfl) ?_
          refine r_if_eq (tgt := 45) hx hb ⟨(by omega), (by omega)⟩ dX12_stepUp_27 (by decide) (fun c_58 => ?_) (fun c_58 => ?_)
          · refine lv_iload_n hx hb dX12_stepUp_45 rfl (lv_at hl 0 rfl) ?_
            refine lv_istore_n (lv' := [(2, .int (iv j)), (3, .int (iv j)), (0, .ref (G.2.2.1 + 231)), (1, .int (iv gl))]) hx hb dX12_stepUp_46 rfl hl (by decide) rfl (fun ls hl => ?_)
            exact join_47 j _ _ _ (by omega) (pick_y (P := (fun j => d.2.1 (-gl) j < 0)) (lt := (fun j s => d.2.2.2.1 j < d.2.2.2.1 s)) (x := s1) (by omega) hpk (by show d.2.1 (-gl) j < 0; have k0 := (hR.sg hD (i := -gl) (j := j) (a := gl) (c := 8 * (15 * gl + j)) (by omega) (by omega) (by omega) (by first | exact (rI_p (by omega)).symm | (unfold rI; split <;> omega) | rfl) (by omega)); omega) (by rcases (by omega : s1 = 0 ∨ 1 ≤ s1) with q | q; exact .inl q; exact .inr (by show d.2.2.2.1 j < d.2.2.2.1 s1; rw [← hR.2.2.2.1 j (by omega) (by omega), ← hR.2.2.2.1 s1 q (by omega)]; omega))) hW hL (lv_sub hl [1, 0, 2, 3] rfl)
          · refine lv_aload_n hx hb dX12_stepUp_30 rfl (lv_at hl 2 rfl) ?_
            refine g_X12_115 Cx hW (k := 231) (by decide) rfl (v := .ref (G.2.2.1 + 266)) (rd_57 hI) dX12_stepUp_31 ?_
            refine lv_iload_n hx hb dX12_stepUp_34 rfl (lv_at hl 0 rfl) ?_
            refine rIald Cx hW (k := 266) (by decide) rfl (by decide) (by omega) (by omega) dX12_stepUp_35 ?_
            have q_59 : (-2147483648) ≤ S.2.1 266 j ∧ S.2.1 266 j ≤ 2147483647 := hI.ai 266 j
            refine r_i (b := S.2.1 266 j) rfl ?_
            refine lv_aload_n hx hb dX12_stepUp_36 rfl (lv_at hl 2 rfl) ?_
            refine g_X12_115 Cx hW (k := 231) (by decide) rfl (v := .ref (G.2.2.1 + 266)) (rd_57 hI) dX12_stepUp_37 ?_
            refine lv_iload_n hx hb dX12_stepUp_40 rfl (lv_at hl 1 rfl) ?_
            refine rIald Cx hW (k := 266) (by decide) rfl (by decide) (by omega) (by omega) dX12_stepUp_41 ?_
            have q_60 : (-2147483648) ≤ S.2.1 266 s1 ∧ S.2.1 266 s1 ≤ 2147483647 := hI.ai 266 s1
            refine r_i (b := S.2.1 266 s1) rfl ?_
            refine r_icmp_ge (tgt := 47) hx hb ⟨(by omega), (by omega)⟩ ⟨(by omega), (by omega)⟩ dX12_stepUp_42 (by decide) (fun c_61 => ?_) (fun c_61 => ?_)
            · exact join_47 s1 _ _ _ (by omega) (pick_n (P := (fun j => d.2.1 (-gl) j < 0)) (lt := (fun j s => d.2.2.2.1 j < d.2.2.2.1 s)) (x := s1) (by omega) hpk (fun z => by have z1 : d.2.1 (-gl) j < 0 := z.1; have k0 := (hR.sg hD (i := -gl) (j := j) (a := gl) (c := 8 * (15 * gl + j)) (by omega) (by omega) (by omega) (by first | exact (rI_p (by omega)).symm | (unfold rI; split <;> omega) | rfl) (by omega)); rcases (by omega : s1 = 0 ∨ 1 ≤ s1) with q | q; omega; (rcases z.2 with y | y; omega; (have y2 : d.2.2.2.1 j < d.2.2.2.1 s1 := y; rw [← hR.2.2.2.1 j (by omega) (by omega), ← hR.2.2.2.1 s1 q (by omega)] at y2; omega)))) hW hL (lv_sub hl [0, 1, 2, 3] rfl)
            · refine lv_iload_n hx hb dX12_stepUp_45 rfl (lv_at hl 0 rfl) ?_
              refine lv_istore_n (lv' := [(2, .int (iv j)), (3, .int (iv j)), (0, .ref (G.2.2.1 + 231)), (1, .int (iv gl))]) hx hb dX12_stepUp_46 rfl hl (by decide) rfl (fun ls hl => ?_)
              exact join_47 j _ _ _ (by omega) (pick_y (P := (fun j => d.2.1 (-gl) j < 0)) (lt := (fun j s => d.2.2.2.1 j < d.2.2.2.1 s)) (x := s1) (by omega) hpk (by show d.2.1 (-gl) j < 0; have k0 := (hR.sg hD (i := -gl) (j := j) (a := gl) (c := 8 * (15 * gl + j)) (by omega) (by omega) (by omega) (by first | exact (rI_p (by omega)).symm | (unfold rI; split <;> omega) | rfl) (by omega)); omega) (by rcases (by omega : s1 = 0 ∨ 1 ≤ s1) with q | q; exact .inl q; exact .inr (by show d.2.2.2.1 j < d.2.2.2.1 s1; rw [← hR.2.2.2.1 j (by omega) (by omega), ← hR.2.2.2.1 s1 q (by omega)]; omega))) hW hL (lv_sub hl [1, 0, 2, 3] rfl)
  exact loop_4 (_ + 1) 1 0 _ _ _ (Nat.lt_succ_self _) (by omega) (by omega) (show (0 : Int) = pick _ _ ((1 : Int) - 1).toNat from rfl) hW hL (lv_sub hl [0, 1, 2, 3] rfl)

set_option maxRecDepth 100000 in
set_option maxHeartbeats 4000000 in
theorem r_X12_stepDown (l : Launch) (G : sG) (S : sS)  {hw : Int} {d : dT} (hI : dX G S) (hD : DOK S) (hR : Hd (DRr S hw d)) : Met l yX12_stepDown (.code yX12_stepDown cX12_stepDown 5 (some .int) :: tb) (rmk 5 0 0) (sPc G 294 S [.ref (G.2.2.1 + 231)]) (sQi G 294 (fun r u => dX G u ∧ Fr S u (pl [231, 237, 238]) ∧ FF S u (fl [71, 72]) ∧ ((-1 ≤ r ∧ r ≤ 1) ∧ Hd (r = 0 → rDn d = 0) ∧ Hd (r ≠ 0 → rDn d ≠ 0 ∧ u.1 231 71 = rDn d) ∧ Hd (r = -1 → cDn d (rDn d) = 0) ∧ Hd (r = 1 → cDn d (rDn d) ≠ 0 ∧ u.1 231 72 = cDn d (rDn d))))) 0 0 (sF G) := by
  refine sEnter (by decide) (Nat.le_of_ble_eq_true rfl) ?_
  intro p e s m args below meth c Cx hr hlk hnm hW ls hl
  have Cx : sC G p m c cX12_stepDown 5 s args RX12 := Cx
  obtain ⟨hx, hb, hml, hown, hts⟩ := id Cx.1
  have hL : sL G [] := sL_nil
  have hl : lv_has ls 5 [(0, .ref (G.2.2.1 + 231))] := hl
  have hW0 := hW
  have hd1 := hD.1
  have hr58 := hR.2.2.2.2.1; have hr59 := hR.2.2.2.2.2.1; have hr60 := hR.2.2.2.2.2.2
  refine lv_iconst (v := iv 0) hx hb dX12_stepDown_0 (by decide) ?_
  refine lv_istore_n (lv' := [(1, .int (iv 0)), (0, .ref (G.2.2.1 + 231))]) hx hb dX12_stepDown_1 rfl hl (by decide) rfl (fun ls hl => ?_)
  refine lv_iconst (v := iv 1) hx hb dX12_stepDown_2 (by decide) ?_
  refine lv_istore_n (lv' := [(2, .int (iv 1)), (1, .int (iv 0)), (0, .ref (G.2.2.1 + 231))]) hx hb dX12_stepDown_3 rfl hl (by decide) rfl (fun ls hl => ?_)
  have loop_4 : ∀ (fuel : Nat) (i : Int) (r1 : Int) (H : Heap) (locs : List Loc) (ls : Array Slot), (S.1 231 58 + 1 - i).toNat < fuel → (1 ≤ i ∧ i ≤ S.1 231 58 + 1) → (0 ≤ r1 ∧ r1 < i) → (Hd (r1 = pick (fun i => d.2.1 i 0 < 0) (fun i r => d.2.2.1 i < d.2.2.1 r) (i - 1).toNat)) → sW G 294 S H → sL G locs → lv_has ls 5 [(2, .int (iv i)), (1, .int (iv r1)), (0, .ref (G.2.2.1 + 231))] → W p l e (rmk 5 0 0) s m args below meth c H locs 0 0 (MQ below (sQi G 294 (fun r u => dX G u ∧ Fr S u (pl [231, 237, 238]) ∧ FF S u (fl [71, 72]) ∧ ((-1 ≤ r ∧ r ≤ 1) ∧ Hd (r = 0 → rDn d = 0) ∧ Hd (r ≠ 0 → rDn d ≠ 0 ∧ u.1 231 71 = rDn d) ∧ Hd (r = -1 → cDn d (rDn d) = 0) ∧ Hd (r = 1 → cDn d (rDn d) ≠ 0 ∧ u.1 231 72 = cDn d (rDn d))))) args s 0 0 (sF G)) (F0 m 4 ls []) := by
    intro fuel
    induction fuel with
    | zero => intro i r1 H locs ls hmeas hi hr1 hpk hW hL hl; exact absurd hmeas (Nat.not_lt_zero _)
    | succ fuel ih_4 =>
      intro i r1 H locs ls hmeas hi hr1 hpk hW hL hl
      refine lv_iload_n hx hb dX12_stepDown_4 rfl (lv_at hl 0 rfl) ?_
      refine lv_aload_n hx hb dX12_stepDown_5 rfl (lv_at hl 2 rfl) ?_
      have q_1 : (-2147483648) ≤ S.1 231 58 ∧ S.1 231 58 ≤ 2147483647 := hI.fi 58
      refine g_X12_483 Cx hW (k := 231) (by decide) rfl (v := S.1 231 58) rfl dX12_stepDown_6 ?_
      refine r_icmp_gt (tgt := 55) hx hb ⟨(by omega), (by omega)⟩ ⟨(by omega), (by omega)⟩ dX12_stepDown_9 (by decide) (fun c_2 => ?_) (fun c_2 => ?_)
      · refine lv_iload_n hx hb dX12_stepDown_55 rfl (lv_at hl 1 rfl) ?_
        refine r_if_ne (tgt := 61) hx hb ⟨(by omega), (by omega)⟩ dX12_stepDown_56 (by decide) (fun c_3 => ?_) (fun c_3 => ?_)
        · refine lv_aload_n hx hb dX12_stepDown_61 rfl (lv_at hl 2 rfl) ?_
          refine lv_iload_n hx hb dX12_stepDown_62 rfl (lv_at hl 1 rfl) ?_
          refine p_X12_562 Cx hW hL (k := 231) (by decide) rfl dX12_stepDown_63 (fun H locs hW hL => ?_)
          have F_4 : Fr S (uF S 231 71 r1) (pl [231, 237, 238]) := (Fr.rf : Fr S S (pl [231, 237, 238])).F rfl
          have g_5 : FF S (uF S 231 71 r1) (fl [71, 72]) := FF.F FF.rf rfl
          have i_6 : dX G (uF S 231 71 r1) := hI.F (i := 71) (show (-2147483648) ≤ r1 ∧ r1 ≤ 2147483647 from ⟨by omega, by omega⟩)
          refine lv_iconst (v := iv 0) hx hb dX12_stepDown_66 (by decide) ?_
          refine lv_istore_n (lv' := [(2, .int (iv 0)), (1, .int (iv r1)), (0, .ref (G.2.2.1 + 231))]) hx hb dX12_stepDown_67 rfl hl (by decide) rfl (fun ls hl => ?_)
          refine lv_iconst (v := iv 1) hx hb dX12_stepDown_68 (by decide) ?_
          refine lv_istore_n (lv' := [(3, .int (iv 1)), (2, .int (iv 0)), (1, .int (iv r1)), (0, .ref (G.2.2.1 + 231))]) hx hb dX12_stepDown_69 rfl hl (by decide) rfl (fun ls hl => ?_)
          have loop_70 : ∀ (fuel : Nat) (S70 : sS) (j : Int) (s1 : Int) (H : Heap) (locs : List Loc) (ls : Array Slot), (S.1 231 59 + 1 - j).toNat < fuel → (dX G S70) → (Fr S S70 (pl [231, 237, 238])) → (Fr ((uF S 231 71 r1)) S70 (pl [237, 238])) → (FF S S70 (fl [71, 72])) → (FF ((uF S 231 71 r1)) S70 (fl [])) → (1 ≤ j ∧ j ≤ S.1 231 59 + 1) → (0 ≤ s1 ∧ s1 < j) → (Hd (s1 = pick (fun j => d.2.1 r1 j < 0) (ltD d r1) (j - 1).toNat)) → sW G 294 S70 H → sL G locs → lv_has ls 5 [(3, .int (iv j)), (2, .int (iv s1)), (1, .int (iv r1)), (0, .ref (G.2.2.1 + 231))] → W p l e (rmk 5 0 0) s m args below meth c H locs 0 0 (MQ below (sQi G 294 (fun r u => dX G u ∧ Fr S u (pl [231, 237, 238]) ∧ FF S u (fl [71, 72]) ∧ ((-1 ≤ r ∧ r ≤ 1) ∧ Hd (r = 0 → rDn d = 0) ∧ Hd (r ≠ 0 → rDn d ≠ 0 ∧ u.1 231 71 = rDn d) ∧ Hd (r = -1 → cDn d (rDn d) = 0) ∧ Hd (r = 1 → cDn d (rDn d) ≠ 0 ∧ u.1 231 72 = cDn d (rDn d))))) args s 0 0 (sF G)) (F0 m 70 ls []) := by
            intro fuel
            induction fuel with
            | zero => intro S70 j s1 H locs ls hmeas hI70 hFm70 hL70_ hGm70 gL70_ hj hs1 hpr hW hL hl; exact absurd hmeas (Nat.not_lt_zero _)
            | succ fuel ih_70 =>
              intro S70 j s1 H locs ls hmeas hI70 hFm70 hL70_ hGm70 gL70_ hj hs1 hpr hW hL hl
              refine lv_iload_n hx hb dX12_stepDown_70 rfl (lv_at hl 0 rfl) ?_
              refine lv_aload_n hx hb dX12_stepDown_71 rfl (lv_at hl 3 rfl) ?_
              have q_7 : (-2147483648) ≤ S.1 231 59 ∧ S.1 231 59 ≤ 2147483647 := hI.fi 59
              refine g_X12_526 Cx hW (k := 231) (by decide) rfl (v := S.1 231 59) ((gL70_ 59 rfl).trans (uF_ne (fun h => absurd h.2 (by decide)))) dX12_stepDown_72 ?_
              refine r_icmp_gt (tgt := 213) hx hb ⟨(by omega), (by omega)⟩ ⟨(by omega), (by omega)⟩ dX12_stepDown_75 (by decide) (fun c_8 => ?_) (fun c_8 => ?_)
              · refine lv_aload_n hx hb dX12_stepDown_213 rfl (lv_at hl 3 rfl) ?_
                refine lv_iload_n hx hb dX12_stepDown_214 rfl (lv_at hl 1 rfl) ?_
                refine p_X12_555 Cx hW hL (k := 231) (by decide) rfl dX12_stepDown_215 (fun H locs hW hL => ?_)
                have F_9 : Fr S (uF S70 231 72 s1) (pl [231, 237, 238]) := hFm70.F rfl
                have g_10 : FF S (uF S70 231 72 s1) (fl [71, 72]) := FF.F hGm70 rfl
                have i_11 : dX G (uF S70 231 72 s1) := hI70.F (i := 72) (show (-2147483648) ≤ s1 ∧ s1 ≤ 2147483647 from ⟨by omega, by omega⟩)
                refine lv_iload_n hx hb dX12_stepDown_218 rfl (lv_at hl 1 rfl) ?_
                refine r_if_ne (tgt := 226) hx hb ⟨(by omega), (by omega)⟩ dX12_stepDown_219 (by decide) (fun c_12 => ?_) (fun c_12 => ?_)
                · refine lv_iconst (v := iv 1) hx hb dX12_stepDown_226 (by decide) ?_
                  have lk_13 : (uF S70 231 72 s1).1 231 71 = r1 := (uF_ne (fun h => absurd h.2 (by decide))).trans ((gL70_ 71 rfl).trans (uF_on))
                  have lk_14 : (uF S70 231 72 s1).1 231 72 = s1 := uF_on
                  exact sIret Cx hr hlk hW hL ⟨i_11, F_9, g_10, ⟨by omega, (fun q => absurd q (by omega)), (fun _ => ⟨by have e := (show r1 = rDn d by have e := hpk; rw [show i - 1 = d.2.2.2.2.1 by omega] at e; exact e); omega, ((uF_ne (fun h => absurd h.2 (by decide))).trans ((gL70_ 71 rfl).trans (uF_on)) : (uF S70 231 72 s1).1 231 71 = r1).trans (show r1 = rDn d by have e := hpk; rw [show i - 1 = d.2.2.2.2.1 by omega] at e; exact e)⟩), (fun q => absurd q (by omega)), (fun _ => by rw [← (show r1 = rDn d by have e := hpk; rw [show i - 1 = d.2.2.2.2.1 by omega] at e; exact e)]; have e := (show s1 = cDn d r1 by have e := hpr; rw [show j - 1 = d.2.2.2.2.2 by omega] at e; exact e); exact ⟨by omega, (uF_on : (uF S70 231 72 s1).1 231 72 = s1).trans e⟩)⟩⟩ dX12_stepDown_227
                · refine lv_iconst (v := iv (-1)) hx hb dX12_stepDown_222 (by decide) ?_
                  refine lv_goto (tgt := 227) hx hb dX12_stepDown_223 (by decide) ?_
                  have lk_15 : (uF S70 231 72 s1).1 231 71 = r1 := (uF_ne (fun h => absurd h.2 (by decide))).trans ((gL70_ 71 rfl).trans (uF_on))
                  have lk_16 : (uF S70 231 72 s1).1 231 72 = s1 := uF_on
                  exact sIret Cx hr hlk hW hL ⟨i_11, F_9, g_10, ⟨by omega, (fun q => absurd q (by omega)), (fun _ => ⟨by have e := (show r1 = rDn d by have e := hpk; rw [show i - 1 = d.2.2.2.2.1 by omega] at e; exact e); omega, ((uF_ne (fun h => absurd h.2 (by decide))).trans ((gL70_ 71 rfl).trans (uF_on)) : (uF S70 231 72 s1).1 231 71 = r1).trans (show r1 = rDn d by have e := hpk; rw [show i - 1 = d.2.2.2.2.1 by omega] at e; exact e)⟩), (fun _ => by rw [← (show r1 = rDn d by have e := hpk; rw [show i - 1 = d.2.2.2.2.1 by omega] at e; exact e)]; have e := (show s1 = cDn d r1 by have e := hpr; rw [show j - 1 = d.2.2.2.2.2 by omega] at e; exact e); omega), (fun q => absurd q (by omega))⟩⟩ dX12_stepDown_227
              · have join_207 : ∀ (S207 : sS) (s2 : Int) (H : Heap) (locs : List Loc) (ls : Array Slot), (dX G S207) → (Fr S S207 (pl [231, 237, 238])) → (Fr ((uF S 231 71 r1)) S207 (pl [237, 238])) → (Fr S70 S207 (pl [237, 238])) → (FF S S207 (fl [71, 72])) → (FF ((uF S 231 71 r1)) S207 (fl [])) → (FF S70 S207 (fl [])) → (0 ≤ s2 ∧ s2 ≤ j) → (Hd (s2 = pick (fun j => d.2.1 r1 j < 0) (ltD d r1) (j + 1 - 1).toNat)) → sW G 294 S207 H → sL G locs → lv_has ls 5 [(3, .int (iv j)), (2, .int (iv s2)), (1, .int (iv r1)), (0, .ref (G.2.2.1 + 231))] → W p l e (rmk 5 0 0) s m args below meth c H locs 0 0 (MQ below (sQi G 294 (fun r u => dX G u ∧ Fr S u (pl [231, 237, 238]) ∧ FF S u (fl [71, 72]) ∧ ((-1 ≤ r ∧ r ≤ 1) ∧ Hd (r = 0 → rDn d = 0) ∧ Hd (r ≠ 0 → rDn d ≠ 0 ∧ u.1 231 71 = rDn d) ∧ Hd (r = -1 → cDn d (rDn d) = 0) ∧ Hd (r = 1 → cDn d (rDn d) ≠ 0 ∧ u.1 231 72 = cDn d (rDn d))))) args s 0 0 (sF G)) (F0 m 207 ls []) := by
                  intro S207 s2 H locs ls hI207 hFm207 hFL70207 hL207_ hGm207 hGL70207 gL207_ hs2 hpr2 hW hL hl
                  refine lv_iinc (v := iv (j + 1)) (lv' := [(3, .int (iv (j + 1))), (2, .int (iv s2)), (1, .int (iv r1)), (0, .ref (G.2.2.1 + 231))]) hx hb dX12_stepDown_207 hl (k := 0) rfl ((Int32.ofInt_add _ _).symm) (by decide) rfl (fun ls hl => ?_)
                  refine lv_goto (tgt := 70) hx hb dX12_stepDown_210 (by decide) ?_
                  exact ih_70 S207 (j + 1) s2 _ _ _ (by omega) hI207 hFm207 hFL70207 hGm207 hGL70207 (by omega) (by omega) hpr2 hW hL (lv_sub hl [0, 1, 2, 3] rfl)
                refine lv_aload_n hx hb dX12_stepDown_78 rfl (lv_at hl 3 rfl) ?_
                refine g_X12_103 Cx hW (k := 231) (by decide) rfl (v := .ref (G.2.2.1 + 262)) (rd_53 hI70) dX12_stepDown_79 ?_
                refine lv_aload_n hx hb dX12_stepDown_82 rfl (lv_at hl 3 rfl) ?_
                refine lv_iload_n hx hb dX12_stepDown_83 rfl (lv_at hl 2 rfl) ?_
                refine lv_iconst (v := iv 1) hx hb dX12_stepDown_84 (by decide) ?_
                refine r_iadd hx hb dX12_stepDown_85 ?_
                refine lv_iload_n hx hb dX12_stepDown_86 rfl (lv_at hl 0 rfl) ?_
                refine sBi (sV (As := [.int (iv (r1 + 1)), .int (iv j)]) (rest := [.ref (G.2.2.1 + 262)]) (k := 231) Cx (s_X12_cell l G S70 (i := r1 + 1) (j := j) (by omega) (by omega)) (c_X12_529 Cx rfl rfl (rmk_ok (by omega) (by decide))) hW (by decide) rfl rfl rfl hl.1 rfl (Nat.le_of_ble_eq_true rfl) dX12_stepDown_87 ⟨Nat.le_of_ble_eq_true rfl, Nat.le_of_ble_eq_true rfl⟩) hL (fun r_19 u_17 H locs k_18 hW hL => ?_)
                obtain ⟨eu_17, xu_17⟩ := k_18
                rw [eu_17] at hW
                refine rIald Cx hW (k := 262) (by decide) rfl (by decide) (by omega) (by omega) dX12_stepDown_90 ?_
                have q_20 : (-2147483648) ≤ S.2.1 262 r_19 ∧ S.2.1 262 r_19 ≤ 2147483647 := hI.ai 262 r_19
                refine r_i (b := S.2.1 262 r_19) (((hL70_ 262 rfl).2.1 r_19).trans (uF_a)) ?_
                have hrd2 : S.2.1 262 (8 * (15 * (r1 + 1) + j)) = S.2.1 262 r_19 := congrArg (S.2.1 262) (by omega)
                refine r_if_lt (tgt := 97) hx hb ⟨(by omega), (by omega)⟩ dX12_stepDown_91 (by decide) (fun c_21 => ?_) (fun c_21 => ?_)
                · refine lv_iconst (v := iv (-1)) hx hb dX12_stepDown_97 (by decide) ?_
                  refine lv_istore (lv' := [(4, .int (iv ((-1)))), (3, .int (iv j)), (2, .int (iv s1)), (1, .int (iv r1)), (0, .ref (G.2.2.1 + 231))]) hx hb dX12_stepDown_98 hl (by decide) rfl (fun ls hl => ?_)
                  have join_180 : ∀ (S180 : sS) (c0 : Int) (H : Heap) (locs : List Loc) (ls : Array Slot), (dX G S180) → (Fr S S180 (pl [231, 237, 238])) → (Fr ((uF S 231 71 r1)) S180 (pl [237, 238])) → (Fr S70 S180 (pl [237, 238])) → (Fr S70 S180 (pl [237, 238])) → (FF S S180 (fl [71, 72])) → (FF ((uF S 231 71 r1)) S180 (fl [])) → (FF S70 S180 (fl [])) → (FF S70 S180 (fl [])) → (-1 ≤ c0 ∧ c0 ≤ 1) → (Hd ((s1 = 0 → c0 = -1) ∧ (s1 ≠ 0 → (c0 < 0 ↔ d.2.1 0 s1 * d.2.1 r1 j < d.2.1 0 j * d.2.1 r1 s1) ∧ (c0 = 0 ↔ d.2.1 0 s1 * d.2.1 r1 j = d.2.1 0 j * d.2.1 r1 s1)))) → sW G 294 S180 H → sL G locs → lv_has ls 5 [(4, .int (iv c0)), (3, .int (iv j)), (2, .int (iv s1)), (1, .int (iv r1)), (0, .ref (G.2.2.1 + 231))] → W p l e (rmk 5 0 0) s m args below meth c H locs 0 0 (MQ below (sQi G 294 (fun r u => dX G u ∧ Fr S u (pl [231, 237, 238]) ∧ FF S u (fl [71, 72]) ∧ ((-1 ≤ r ∧ r ≤ 1) ∧ Hd (r = 0 → rDn d = 0) ∧ Hd (r ≠ 0 → rDn d ≠ 0 ∧ u.1 231 71 = rDn d) ∧ Hd (r = -1 → cDn d (rDn d) = 0) ∧ Hd (r = 1 → cDn d (rDn d) ≠ 0 ∧ u.1 231 72 = cDn d (rDn d))))) args s 0 0 (sF G)) (F0 m 180 ls []) := by
                    intro S180 c0 H locs ls hI180 hFm180 hFL70180 hFL207180 hL180_ hGm180 hGL70180 hGL207180 gL180_ hc0 hc1 hW hL hl
                    refine lv_iload hx hb dX12_stepDown_180 (lv_at hl 0 rfl) ?_
                    refine r_if_lt (tgt := 205) hx hb ⟨(by omega), (by omega)⟩ dX12_stepDown_182 (by decide) (fun c_22 => ?_) (fun c_22 => ?_)
                    · refine lv_iload_n hx hb dX12_stepDown_205 rfl (lv_at hl 1 rfl) ?_
                      refine lv_istore_n (lv' := [(2, .int (iv j)), (4, .int (iv c0)), (3, .int (iv j)), (1, .int (iv r1)), (0, .ref (G.2.2.1 + 231))]) hx hb dX12_stepDown_206 rfl hl (by decide) rfl (fun ls hl => ?_)
                      exact join_207 S180 j _ _ _ hI180 hFm180 hFL70180 hFL207180 hGm180 hGL70180 hGL207180 (by omega) (pick_y (P := (fun j => d.2.1 r1 j < 0)) (lt := (ltD d r1)) (x := s1) (by omega) hpr (by show d.2.1 r1 j < 0; have k0 := (hR.sg hD (i := r1) (j := j) (a := r1 + 1) (c := 8 * (15 * (r1 + 1) + j)) (by omega) (by omega) (by omega) (by first | exact (rI_p (by omega)).symm | (unfold rI; split <;> omega) | rfl) (by omega)); omega) (by by_cases q : s1 = 0; exact .inl q; exact .inr (by have h1 := (hc1.2 q).1; have h2 := (hc1.2 q).2; have e1 := hR.2.2.2.1 j (by omega) (by omega); have e2 := hR.2.2.2.1 s1 (by omega) (by omega); show ltD d r1 j s1; unfold ltD; omega))) hW hL (lv_sub hl [2, 0, 3, 4] rfl)
                    · refine lv_iload hx hb dX12_stepDown_185 (lv_at hl 0 rfl) ?_
                      refine r_if_ne (tgt := 207) hx hb ⟨(by omega), (by omega)⟩ dX12_stepDown_187 (by decide) (fun c_23 => ?_) (fun c_23 => ?_)
                      · exact join_207 S180 s1 _ _ _ hI180 hFm180 hFL70180 hFL207180 hGm180 hGL70180 hGL207180 (by omega) (pick_n (P := (fun j => d.2.1 r1 j < 0)) (lt := (ltD d r1)) (x := s1) (by omega) hpr (fun z => by have z1 : d.2.1 r1 j < 0 := z.1; have k0 := (hR.sg hD (i := r1) (j := j) (a := r1 + 1) (c := 8 * (15 * (r1 + 1) + j)) (by omega) (by omega) (by omega) (by first | exact (rI_p (by omega)).symm | (unfold rI; split <;> omega) | rfl) (by omega)); by_cases q : s1 = 0; (first | omega | (have h0 := hc1.1 q; omega)); (rcases z.2 with y | y; omega; (have y2 : ltD d r1 j s1 := y; unfold ltD at y2; first | omega | (have h1 := (hc1.2 q).1; have h2 := (hc1.2 q).2; have e1 := hR.2.2.2.1 j (by omega) (by omega); have e2 := hR.2.2.2.1 s1 (by omega) (by omega); omega))))) hW hL (lv_sub hl [1, 2, 3, 4] rfl)
                      · refine lv_aload_n hx hb dX12_stepDown_190 rfl (lv_at hl 4 rfl) ?_
                        refine g_X12_115 Cx hW (k := 231) (by decide) rfl (v := .ref (G.2.2.1 + 266)) (rd_57 hI180) dX12_stepDown_191 ?_
                        refine lv_iload_n hx hb dX12_stepDown_194 rfl (lv_at hl 1 rfl) ?_
                        refine rIald Cx hW (k := 266) (by decide) rfl (by decide) (by omega) (by omega) dX12_stepDown_195 ?_
                        have q_24 : (-2147483648) ≤ S.2.1 266 j ∧ S.2.1 266 j ≤ 2147483647 := hI.ai 266 j
                        refine r_i (b := S.2.1 266 j) (((hL180_ 266 rfl).2.1 j).trans (((hL70_ 266 rfl).2.1 j).trans (uF_a))) ?_
                        refine lv_aload_n hx hb dX12_stepDown_196 rfl (lv_at hl 4 rfl) ?_
                        refine g_X12_115 Cx hW (k := 231) (by decide) rfl (v := .ref (G.2.2.1 + 266)) (rd_57 hI180) dX12_stepDown_197 ?_
                        refine lv_iload_n hx hb dX12_stepDown_200 rfl (lv_at hl 2 rfl) ?_
                        refine rIald Cx hW (k := 266) (by decide) rfl (by decide) (by omega) (by omega) dX12_stepDown_201 ?_
                        have q_25 : (-2147483648) ≤ S.2.1 266 s1 ∧ S.2.1 266 s1 ≤ 2147483647 := hI.ai 266 s1
                        refine r_i (b := S.2.1 266 s1) (((hL180_ 266 rfl).2.1 s1).trans (((hL70_ 266 rfl).2.1 s1).trans (uF_a))) ?_
                        refine r_icmp_ge (tgt := 207) hx hb ⟨(by omega), (by omega)⟩ ⟨(by omega), (by omega)⟩ dX12_stepDown_202 (by decide) (fun c_26 => ?_) (fun c_26 => ?_)
                        · exact join_207 S180 s1 _ _ _ hI180 hFm180 hFL70180 hFL207180 hGm180 hGL70180 hGL207180 (by omega) (pick_n (P := (fun j => d.2.1 r1 j < 0)) (lt := (ltD d r1)) (x := s1) (by omega) hpr (fun z => by have z1 : d.2.1 r1 j < 0 := z.1; have k0 := (hR.sg hD (i := r1) (j := j) (a := r1 + 1) (c := 8 * (15 * (r1 + 1) + j)) (by omega) (by omega) (by omega) (by first | exact (rI_p (by omega)).symm | (unfold rI; split <;> omega) | rfl) (by omega)); by_cases q : s1 = 0; (first | omega | (have h0 := hc1.1 q; omega)); (rcases z.2 with y | y; omega; (have y2 : ltD d r1 j s1 := y; unfold ltD at y2; first | omega | (have h1 := (hc1.2 q).1; have h2 := (hc1.2 q).2; have e1 := hR.2.2.2.1 j (by omega) (by omega); have e2 := hR.2.2.2.1 s1 (by omega) (by omega); omega))))) hW hL (lv_sub hl [1, 2, 3, 4] rfl)
                        · refine lv_iload_n hx hb dX12_stepDown_205 rfl (lv_at hl 1 rfl) ?_
                          refine lv_istore_n (lv' := [(2, .int (iv j)), (4, .int (iv c0)), (3, .int (iv j)), (1, .int (iv r1)), (0, .ref (G.2.2.1 + 231))]) hx hb dX12_stepDown_206 rfl hl (by decide) rfl (fun ls hl => ?_)
                          exact join_207 S180 j _ _ _ hI180 hFm180 hFL70180 hFL207180 hGm180 hGL70180 hGL207180 (by omega) (pick_y (P := (fun j => d.2.1 r1 j < 0)) (lt := (ltD d r1)) (x := s1) (by omega) hpr (by show d.2.1 r1 j < 0; have k0 := (hR.sg hD (i := r1) (j := j) (a := r1 + 1) (c := 8 * (15 * (r1 + 1) + j)) (by omega) (by omega) (by omega) (by first | exact (rI_p (by omega)).symm | (unfold rI; split <;> omega) | rfl) (by omega)); omega) (by by_cases q : s1 = 0; exact .inl q; exact .inr (by have h1 := (hc1.2 q).1; have h2 := (hc1.2 q).2; have e1 := hR.2.2.2.1 j (by omega) (by omega); have e2 := hR.2.2.2.1 s1 (by omega) (by omega); show ltD d r1 j s1; unfold ltD; omega))) hW hL (lv_sub hl [2, 0, 3, 4] rfl)
                  refine lv_iload_n hx hb dX12_stepDown_100 rfl (lv_at hl 2 rfl) ?_
                  refine r_if_le (tgt := 180) hx hb ⟨(by omega), (by omega)⟩ dX12_stepDown_101 (by decide) (fun c_27 => ?_) (fun c_27 => ?_)
                  · exact join_180 S70 ((-1)) _ _ _ hI70 hFm70 hL70_ (Fr.rf : Fr S70 S70 (pl [237, 238])) (Fr.rf : Fr S70 S70 (pl [237, 238])) hGm70 gL70_ (FF.rf : FF S70 S70 (fl [])) (FF.rf : FF S70 S70 (fl [])) (by omega) ⟨fun _ => rfl, fun q => absurd (by omega) q⟩ hW hL (lv_sub hl [0, 1, 2, 3, 4] rfl)
                  · refine lv_aload_n hx hb dX12_stepDown_104 rfl (lv_at hl 4 rfl) ?_
                    refine g_X12_103 Cx hW (k := 231) (by decide) rfl (v := .ref (G.2.2.1 + 262)) (rd_53 hI70) dX12_stepDown_105 ?_
                    refine lv_aload_n hx hb dX12_stepDown_108 rfl (lv_at hl 4 rfl) ?_
                    refine lv_iconst (v := iv 0) hx hb dX12_stepDown_109 (by decide) ?_
                    refine lv_iload_n hx hb dX12_stepDown_110 rfl (lv_at hl 1 rfl) ?_
                    refine sBi (sV (As := [.int (iv 0), .int (iv j)]) (rest := [.ref (G.2.2.1 + 262)]) (k := 231) Cx (s_X12_cell l G S70 (i := 0) (j := j) (by omega) (by omega)) (c_X12_529 Cx rfl rfl (rmk_ok (by omega) (by decide))) hW (by decide) rfl rfl rfl hl.1 rfl (Nat.le_of_ble_eq_true rfl) dX12_stepDown_111 ⟨Nat.le_of_ble_eq_true rfl, Nat.le_of_ble_eq_true rfl⟩) hL (fun r_30 u_28 H locs k_29 hW hL => ?_)
                    obtain ⟨eu_28, xu_28⟩ := k_29
                    rw [eu_28] at hW
                    refine lv_aload_n hx hb dX12_stepDown_114 rfl (lv_at hl 4 rfl) ?_
                    refine g_X12_103 Cx hW (k := 231) (by decide) rfl (v := .ref (G.2.2.1 + 262)) (rd_53 hI70) dX12_stepDown_115 ?_
                    refine lv_aload_n hx hb dX12_stepDown_118 rfl (lv_at hl 4 rfl) ?_
                    refine lv_iload_n hx hb dX12_stepDown_119 rfl (lv_at hl 3 rfl) ?_
                    refine lv_iconst (v := iv 1) hx hb dX12_stepDown_120 (by decide) ?_
                    refine r_iadd hx hb dX12_stepDown_121 ?_
                    refine lv_iload_n hx hb dX12_stepDown_122 rfl (lv_at hl 2 rfl) ?_
                    refine sBi (sV (As := [.int (iv (r1 + 1)), .int (iv s1)]) (rest := [.ref (G.2.2.1 + 262), .int (iv r_30), .ref (G.2.2.1 + 262)]) (k := 231) Cx (s_X12_cell l G S70 (i := r1 + 1) (j := s1) (by omega) (by omega)) (c_X12_529 Cx rfl rfl (rmk_ok (by omega) (by decide))) hW (by decide) rfl rfl rfl hl.1 rfl (Nat.le_of_ble_eq_true rfl) dX12_stepDown_123 ⟨Nat.le_of_ble_eq_true rfl, Nat.le_of_ble_eq_true rfl⟩) hL (fun r_33 u_31 H locs k_32 hW hL => ?_)
                    obtain ⟨eu_31, xu_31⟩ := k_32
                    rw [eu_31] at hW
                    refine lv_aload_n hx hb dX12_stepDown_126 rfl (lv_at hl 4 rfl) ?_
                    refine g_X12_26 Cx hW (k := 231) (by decide) rfl (v := .ref (G.2.2.1 + 237)) (rd_7 hI70) dX12_stepDown_127 ?_
                    refine lv_iconst (v := iv 0) hx hb dX12_stepDown_130 (by decide) ?_
                    refine sBv (sSt (As := [.ref (G.2.2.1 + 262), .int (iv r_30), .ref (G.2.2.1 + 262), .int (iv r_33), .ref (G.2.2.1 + 237), .int (iv 0)]) (rest := []) Cx (s_X12_multiply l G S70 (ka := 262) (po := r_30) (kb := 262) (qo := r_33) (kc := 237) (ro := 0) (Nka := 5280) (Nkb := 5280) (Nkc := 68) (La := 6) (Lb := 6) hI70 ⟨rfl, by decide, by decide, by decide, rfl⟩ ⟨rfl, by decide, by decide, by decide, rfl⟩ ⟨rfl, by decide, by decide, by decide, rfl⟩ (show (237 : Nat) ≠ 262 by decide) (show (237 : Nat) ≠ 262 by decide) (by omega) (by rw [show S70.2.1 262 = S.2.1 262 from (funext fun j => ((hL70_ 262 rfl).2.1 j).trans (uF_a) : S70.2.1 262 = S.2.1 262)]; exact hD.at (i := 0) (j := j) (by omega) (by omega) (by omega) (by omega)) (by rw [show S70.2.1 262 = S.2.1 262 from (funext fun j => ((hL70_ 262 rfl).2.1 j).trans (uF_a) : S70.2.1 262 = S.2.1 262)]; exact hD.at (i := r1 + 1) (j := s1) (by omega) (by omega) (by omega) (by omega))) (c_X12_548 Cx rfl rfl (rmk_ok (by omega) (by decide))) hW rfl hl.1 rfl (Nat.le_of_ble_eq_true rfl) dX12_stepDown_131 ⟨Nat.le_of_ble_eq_true rfl, Nat.le_of_ble_eq_true rfl⟩) hL (fun u_34 H locs k_35 hW hL => ?_)
                    obtain ⟨iu_34, fu_34, xu_34⟩ := k_35
                    have F_36 := hFm70.trans (fu_34.to (p1_sub rfl))
                    have F_37 := hL70_.trans (fu_34.to (p1_sub rfl))
                    have F_38 := (Fr.rf : Fr S70 S70 (pl [237, 238])).trans (fu_34.to (p1_sub rfl))
                    have F_39 := (Fr.rf : Fr S70 S70 (pl [237, 238])).trans (fu_34.to (p1_sub rfl))
                    have g_40 : FF S u_34 (fl [71, 72]) := FF.fr hGm70 fu_34 rfl
                    have g_41 : FF ((uF S 231 71 r1)) u_34 (fl []) := FF.fr gL70_ fu_34 rfl
                    have g_42 : FF S70 u_34 (fl []) := FF.fr (FF.rf : FF S70 S70 (fl [])) fu_34 rfl
                    have g_43 : FF S70 u_34 (fl []) := FF.fr (FF.rf : FF S70 S70 (fl [])) fu_34 rfl
                    refine lv_aload_n hx hb dX12_stepDown_134 rfl (lv_at hl 4 rfl) ?_
                    refine g_X12_103 Cx hW (k := 231) (by decide) rfl (v := .ref (G.2.2.1 + 262)) (rd_53 iu_34) dX12_stepDown_135 ?_
                    refine lv_aload_n hx hb dX12_stepDown_138 rfl (lv_at hl 4 rfl) ?_
                    refine lv_iconst (v := iv 0) hx hb dX12_stepDown_139 (by decide) ?_
                    refine lv_iload_n hx hb dX12_stepDown_140 rfl (lv_at hl 2 rfl) ?_
                    refine sBi (sV (As := [.int (iv 0), .int (iv s1)]) (rest := [.ref (G.2.2.1 + 262)]) (k := 231) Cx (s_X12_cell l G u_34 (i := 0) (j := s1) (by omega) (by omega)) (c_X12_529 Cx rfl rfl (rmk_ok (by omega) (by decide))) hW (by decide) rfl rfl rfl hl.1 rfl (Nat.le_of_ble_eq_true rfl) dX12_stepDown_141 ⟨Nat.le_of_ble_eq_true rfl, Nat.le_of_ble_eq_true rfl⟩) hL (fun r_46 u_44 H locs k_45 hW hL => ?_)
                    obtain ⟨eu_44, xu_44⟩ := k_45
                    rw [eu_44] at hW
                    refine lv_aload_n hx hb dX12_stepDown_144 rfl (lv_at hl 4 rfl) ?_
                    refine g_X12_103 Cx hW (k := 231) (by decide) rfl (v := .ref (G.2.2.1 + 262)) (rd_53 iu_34) dX12_stepDown_145 ?_
                    refine lv_aload_n hx hb dX12_stepDown_148 rfl (lv_at hl 4 rfl) ?_
                    refine lv_iload_n hx hb dX12_stepDown_149 rfl (lv_at hl 3 rfl) ?_
                    refine lv_iconst (v := iv 1) hx hb dX12_stepDown_150 (by decide) ?_
                    refine r_iadd hx hb dX12_stepDown_151 ?_
                    refine lv_iload_n hx hb dX12_stepDown_152 rfl (lv_at hl 1 rfl) ?_
                    refine sBi (sV (As := [.int (iv (r1 + 1)), .int (iv j)]) (rest := [.ref (G.2.2.1 + 262), .int (iv r_46), .ref (G.2.2.1 + 262)]) (k := 231) Cx (s_X12_cell l G u_34 (i := r1 + 1) (j := j) (by omega) (by omega)) (c_X12_529 Cx rfl rfl (rmk_ok (by omega) (by decide))) hW (by decide) rfl rfl rfl hl.1 rfl (Nat.le_of_ble_eq_true rfl) dX12_stepDown_153 ⟨Nat.le_of_ble_eq_true rfl, Nat.le_of_ble_eq_true rfl⟩) hL (fun r_49 u_47 H locs k_48 hW hL => ?_)
                    obtain ⟨eu_47, xu_47⟩ := k_48
                    rw [eu_47] at hW
                    refine lv_aload_n hx hb dX12_stepDown_156 rfl (lv_at hl 4 rfl) ?_
                    refine g_X12_29 Cx hW (k := 231) (by decide) rfl (v := .ref (G.2.2.1 + 238)) (rd_8 iu_34) dX12_stepDown_157 ?_
                    refine lv_iconst (v := iv 0) hx hb dX12_stepDown_160 (by decide) ?_
                    refine sBv (sSt (As := [.ref (G.2.2.1 + 262), .int (iv r_46), .ref (G.2.2.1 + 262), .int (iv r_49), .ref (G.2.2.1 + 238), .int (iv 0)]) (rest := []) Cx (s_X12_multiply l G u_34 (ka := 262) (po := r_46) (kb := 262) (qo := r_49) (kc := 238) (ro := 0) (Nka := 5280) (Nkb := 5280) (Nkc := 68) (La := 6) (Lb := 6) iu_34 ⟨rfl, by decide, by decide, by decide, rfl⟩ ⟨rfl, by decide, by decide, by decide, rfl⟩ ⟨rfl, by decide, by decide, by decide, rfl⟩ (show (238 : Nat) ≠ 262 by decide) (show (238 : Nat) ≠ 262 by decide) (by omega) (by rw [show u_34.2.1 262 = S.2.1 262 from (funext fun j => ((fu_34 262 rfl).2.1 j).trans (((hL70_ 262 rfl).2.1 j).trans (uF_a)) : u_34.2.1 262 = S.2.1 262)]; exact hD.at (i := 0) (j := s1) (by omega) (by omega) (by omega) (by omega)) (by rw [show u_34.2.1 262 = S.2.1 262 from (funext fun j => ((fu_34 262 rfl).2.1 j).trans (((hL70_ 262 rfl).2.1 j).trans (uF_a)) : u_34.2.1 262 = S.2.1 262)]; exact hD.at (i := r1 + 1) (j := j) (by omega) (by omega) (by omega) (by omega))) (c_X12_548 Cx rfl rfl (rmk_ok (by omega) (by decide))) hW rfl hl.1 rfl (Nat.le_of_ble_eq_true rfl) dX12_stepDown_161 ⟨Nat.le_of_ble_eq_true rfl, Nat.le_of_ble_eq_true rfl⟩) hL (fun u_50 H locs k_51 hW hL => ?_)
                    obtain ⟨iu_50, fu_50, xu_50⟩ := k_51
                    have F_52 := F_36.trans (fu_50.to (p1_sub rfl))
                    have F_53 := F_37.trans (fu_50.to (p1_sub rfl))
                    have F_54 := F_38.trans (fu_50.to (p1_sub rfl))
                    have F_55 := F_39.trans (fu_50.to (p1_sub rfl))
                    have g_56 : FF S u_50 (fl [71, 72]) := FF.fr g_40 fu_50 rfl
                    have g_57 : FF ((uF S 231 71 r1)) u_50 (fl []) := FF.fr g_41 fu_50 rfl
                    have g_58 : FF S70 u_50 (fl []) := FF.fr g_42 fu_50 rfl
                    have g_59 : FF S70 u_50 (fl []) := FF.fr g_43 fu_50 rfl
                    refine lv_aload_n hx hb dX12_stepDown_164 rfl (lv_at hl 4 rfl) ?_
                    refine g_X12_26 Cx hW (k := 231) (by decide) rfl (v := .ref (G.2.2.1 + 237)) (rd_7 iu_50) dX12_stepDown_165 ?_
                    refine lv_iconst (v := iv 0) hx hb dX12_stepDown_168 (by decide) ?_
                    refine lv_aload_n hx hb dX12_stepDown_169 rfl (lv_at hl 4 rfl) ?_
                    refine g_X12_29 Cx hW (k := 231) (by decide) rfl (v := .ref (G.2.2.1 + 238)) (rd_8 iu_50) dX12_stepDown_170 ?_
                    refine lv_iconst (v := iv 0) hx hb dX12_stepDown_173 (by decide) ?_
                    refine sBi (sSt (As := [.ref (G.2.2.1 + 237), .int (iv 0), .ref (G.2.2.1 + 238), .int (iv 0)]) (rest := []) Cx (s_X12_compare l G u_50 (ka := 237) (po := 0) (kb := 238) (qo := 0) (Nka := 68) (Nkb := 68) (La := 12) (Lb := 12) iu_50 ⟨rfl, by decide, by decide, by decide, rfl⟩ ⟨rfl, by decide, by decide, by decide, rfl⟩ (by omega) (by rw [show u_50.2.1 237 = u_34.2.1 237 from (funext fun j => (fu_50 237 rfl).2.1 j : u_50.2.1 237 = u_34.2.1 237)]; exact xu_34.1) xu_50.1) (c_X12_552 Cx rfl rfl (rmk_ok (by omega) (by decide))) hW rfl hl.1 rfl (Nat.le_of_ble_eq_true rfl) dX12_stepDown_174 ⟨Nat.le_of_ble_eq_true rfl, Nat.le_of_ble_eq_true rfl⟩) hL (fun r_62 u_60 H locs k_61 hW hL => ?_)
                    obtain ⟨eu_60, xu_60⟩ := k_61
                    rw [eu_60] at hW
                    have yu_60 := xu_60.2
                    unfold Hd at yu_60
                    refine r_ineg hx hb dX12_stepDown_177 ?_
                    refine lv_istore (lv' := [(4, .int (iv (-r_62))), (3, .int (iv j)), (2, .int (iv s1)), (1, .int (iv r1)), (0, .ref (G.2.2.1 + 231))]) hx hb dX12_stepDown_178 hl (by decide) rfl (fun ls hl => ?_)
                    exact join_180 u_50 (-r_62) _ _ _ iu_50 F_52 F_53 F_54 F_55 g_56 g_57 g_58 g_59 (by omega) ⟨fun q => absurd q (by omega), fun _ => by have y := xu_60.2; have e1 : nv (u_50.2.1 237) 0 = d.2.1 0 j * d.2.1 r1 s1 := (by rw [show u_50.2.1 237 = u_34.2.1 237 from (funext fun j => (fu_50 237 rfl).2.1 j : u_50.2.1 237 = u_34.2.1 237), xu_34.2.1, show S70.2.1 262 = S.2.1 262 from (funext fun j => ((hL70_ 262 rfl).2.1 j).trans (uF_a) : S70.2.1 262 = S.2.1 262), (hR.vv (i := 0) (j := j) (c := r_30) (by omega) (by omega) (by omega) (by (first | rw [rI_p (by omega)] | rw [rI_z]); (try omega))), (hR.vv (i := r1) (j := s1) (c := r_33) (by omega) (by omega) (by omega) (by (first | rw [rI_p (by omega)] | rw [rI_z]); (try omega)))]); have e2 : nv (u_50.2.1 238) 0 = d.2.1 0 s1 * d.2.1 r1 j := (by rw [xu_50.2.1, show u_34.2.1 262 = S.2.1 262 from (funext fun j => ((fu_34 262 rfl).2.1 j).trans (((hL70_ 262 rfl).2.1 j).trans (uF_a)) : u_34.2.1 262 = S.2.1 262), (hR.vv (i := 0) (j := s1) (c := r_46) (by omega) (by omega) (by omega) (by (first | rw [rI_p (by omega)] | rw [rI_z]); (try omega))), (hR.vv (i := r1) (j := j) (c := r_49) (by omega) (by omega) (by omega) (by (first | rw [rI_p (by omega)] | rw [rI_z]); (try omega)))]); rw [e1, e2] at y; have y1 := y.1; have y2 := y.2.1; have y3 := y.2.2; refine ⟨?_, ?_⟩ <;> omega⟩ hW hL (lv_sub hl [0, 1, 2, 3, 4] rfl)
                · refine lv_goto (tgt := 207) hx hb dX12_stepDown_94 (by decide) ?_
                  exact join_207 S70 s1 _ _ _ hI70 hFm70 hL70_ (Fr.rf : Fr S70 S70 (pl [237, 238])) hGm70 gL70_ (FF.rf : FF S70 S70 (fl [])) (by omega) (pick_n (P := (fun j => d.2.1 r1 j < 0)) (lt := (ltD d r1)) (x := s1) (by omega) hpr (fun z => by have z1 : d.2.1 r1 j < 0 := z.1; have k0 := (hR.sg hD (i := r1) (j := j) (a := r1 + 1) (c := 8 * (15 * (r1 + 1) + j)) (by omega) (by omega) (by omega) (by first | exact (rI_p (by omega)).symm | (unfold rI; split <;> omega) | rfl) (by omega)); by_cases q : s1 = 0; (first | omega | (have h0 := hc1.1 q; omega)); (rcases z.2 with y | y; omega; (have y2 : ltD d r1 j s1 := y; unfold ltD at y2; first | omega | (have h1 := (hc1.2 q).1; have h2 := (hc1.2 q).2; have e1 := hR.2.2.2.1 j (by omega) (by omega); have e2 := hR.2.2.2.1 s1 (by omega) (by omega); omega))))) hW hL (lv_sub hl [0, 1, 2, 3] rfl)
          exact loop_70 (_ + 1) (uF S 231 71 r1) 1 0 _ _ _ (Nat.lt_succ_self _) i_6 F_4 Fr.rf g_5 FF.rf (by omega) (by omega) (show (0 : Int) = pick _ _ ((1 : Int) - 1).toNat from rfl) hW hL (lv_sub hl [0, 1, 2, 3] rfl)
        · refine lv_iconst (v := iv 0) hx hb dX12_stepDown_59 (by decide) ?_
          have q_63 : (-2147483648) ≤ S.1 231 71 ∧ S.1 231 71 ≤ 2147483647 := hI.fi 71
          have q_64 : (-2147483648) ≤ S.1 231 72 ∧ S.1 231 72 ≤ 2147483647 := hI.fi 72
          exact sIret Cx hr hlk hW hL ⟨hI, (Fr.rf : Fr S S (pl [231, 237, 238])), FF.rf, ⟨by omega, (fun _ => by have e := (show r1 = rDn d by have e := hpk; rw [show i - 1 = d.2.2.2.2.1 by omega] at e; exact e); omega), (fun q => absurd rfl q), (fun q => absurd q (by omega)), (fun q => absurd q (by omega))⟩⟩ dX12_stepDown_60
      · have join_49 : ∀ (r2 : Int) (H : Heap) (locs : List Loc) (ls : Array Slot), (0 ≤ r2 ∧ r2 ≤ i) → (Hd (r2 = pick (fun i => d.2.1 i 0 < 0) (fun i r => d.2.2.1 i < d.2.2.1 r) (i + 1 - 1).toNat)) → sW G 294 S H → sL G locs → lv_has ls 5 [(2, .int (iv i)), (1, .int (iv r2)), (0, .ref (G.2.2.1 + 231))] → W p l e (rmk 5 0 0) s m args below meth c H locs 0 0 (MQ below (sQi G 294 (fun r u => dX G u ∧ Fr S u (pl [231, 237, 238]) ∧ FF S u (fl [71, 72]) ∧ ((-1 ≤ r ∧ r ≤ 1) ∧ Hd (r = 0 → rDn d = 0) ∧ Hd (r ≠ 0 → rDn d ≠ 0 ∧ u.1 231 71 = rDn d) ∧ Hd (r = -1 → cDn d (rDn d) = 0) ∧ Hd (r = 1 → cDn d (rDn d) ≠ 0 ∧ u.1 231 72 = cDn d (rDn d))))) args s 0 0 (sF G)) (F0 m 49 ls []) := by
          intro r2 H locs ls hr2 hpk2 hW hL hl
          refine lv_iinc (v := iv (i + 1)) (lv' := [(2, .int (iv (i + 1))), (1, .int (iv r2)), (0, .ref (G.2.2.1 + 231))]) hx hb dX12_stepDown_49 hl (k := 0) rfl ((Int32.ofInt_add _ _).symm) (by decide) rfl (fun ls hl => ?_)
          refine lv_goto (tgt := 4) hx hb dX12_stepDown_52 (by decide) ?_
          exact ih_4 (i + 1) r2 _ _ _ (by omega) (by omega) (by omega) hpk2 hW hL (lv_sub hl [0, 1, 2] rfl)
        refine lv_aload_n hx hb dX12_stepDown_12 rfl (lv_at hl 2 rfl) ?_
        refine g_X12_103 Cx hW (k := 231) (by decide) rfl (v := .ref (G.2.2.1 + 262)) (rd_53 hI) dX12_stepDown_13 ?_
        refine lv_aload_n hx hb dX12_stepDown_16 rfl (lv_at hl 2 rfl) ?_
        refine lv_iload_n hx hb dX12_stepDown_17 rfl (lv_at hl 0 rfl) ?_
        refine lv_iconst (v := iv 1) hx hb dX12_stepDown_18 (by decide) ?_
        refine r_iadd hx hb dX12_stepDown_19 ?_
        refine lv_iconst (v := iv 0) hx hb dX12_stepDown_20 (by decide) ?_
        refine sBi (sV (As := [.int (iv (i + 1)), .int (iv 0)]) (rest := [.ref (G.2.2.1 + 262)]) (k := 231) Cx (s_X12_cell l G S (i := i + 1) (j := 0) (by omega) (by omega)) (c_X12_529 Cx rfl rfl (rmk_ok (by omega) (by decide))) hW (by decide) rfl rfl rfl hl.1 rfl (Nat.le_of_ble_eq_true rfl) dX12_stepDown_21 ⟨Nat.le_of_ble_eq_true rfl, Nat.le_of_ble_eq_true rfl⟩) hL (fun r_67 u_65 H locs k_66 hW hL => ?_)
        obtain ⟨eu_65, xu_65⟩ := k_66
        rw [eu_65] at hW
        refine rIald Cx hW (k := 262) (by decide) rfl (by decide) (by omega) (by omega) dX12_stepDown_24 ?_
        have q_68 : (-2147483648) ≤ S.2.1 262 r_67 ∧ S.2.1 262 r_67 ≤ 2147483647 := hI.ai 262 r_67
        refine r_i (b := S.2.1 262 r_67) rfl ?_
        have hrd : S.2.1 262 (8 * (15 * (i + 1) + 0)) = S.2.1 262 r_67 := congrArg (S.2.1 262) (by omega)
        refine r_if_ge (tgt := 49) hx hb ⟨(by omega), (by omega)⟩ dX12_stepDown_25 (by decide) (fun c_69 => ?_) (fun c_69 => ?_)
        · exact join_49 r1 _ _ _ (by omega) (pick_n (P := (fun i => d.2.1 i 0 < 0)) (lt := (fun i r => d.2.2.1 i < d.2.2.1 r)) (x := r1) (by omega) hpk (fun z => by have z1 : d.2.1 i 0 < 0 := z.1; have k0 := (hR.sg hD (i := i) (j := 0) (a := i + 1) (c := 8 * (15 * (i + 1) + 0)) (by omega) (by omega) (by omega) (by first | exact (rI_p (by omega)).symm | (unfold rI; split <;> omega) | rfl) (by omega)); rcases (by omega : r1 = 0 ∨ 1 ≤ r1) with q | q; omega; (rcases z.2 with y | y; omega; (have y2 : d.2.2.1 i < d.2.2.1 r1 := y; rw [← hR.2.2.1 i (by omega) (by omega), ← hR.2.2.1 r1 q (by omega)] at y2; omega)))) hW hL (lv_sub hl [0, 1, 2] rfl)
        · refine lv_iload_n hx hb dX12_stepDown_28 rfl (lv_at hl 1 rfl) ?_
          refine r_if_eq (tgt := 47) hx hb ⟨(by omega), (by omega)⟩ dX12_stepDown_29 (by decide) (fun c_70 => ?_) (fun c_70 => ?_)
          · refine lv_iload_n hx hb dX12_stepDown_47 rfl (lv_at hl 0 rfl) ?_
            refine lv_istore_n (lv' := [(1, .int (iv i)), (2, .int (iv i)), (0, .ref (G.2.2.1 + 231))]) hx hb dX12_stepDown_48 rfl hl (by decide) rfl (fun ls hl => ?_)
            exact join_49 i _ _ _ (by omega) (pick_y (P := (fun i => d.2.1 i 0 < 0)) (lt := (fun i r => d.2.2.1 i < d.2.2.1 r)) (x := r1) (by omega) hpk (by show d.2.1 i 0 < 0; have k0 := (hR.sg hD (i := i) (j := 0) (a := i + 1) (c := 8 * (15 * (i + 1) + 0)) (by omega) (by omega) (by omega) (by first | exact (rI_p (by omega)).symm | (unfold rI; split <;> omega) | rfl) (by omega)); omega) (by rcases (by omega : r1 = 0 ∨ 1 ≤ r1) with q | q; exact .inl q; exact .inr (by show d.2.2.1 i < d.2.2.1 r1; rw [← hR.2.2.1 i (by omega) (by omega), ← hR.2.2.1 r1 q (by omega)]; omega))) hW hL (lv_sub hl [1, 0, 2] rfl)
          · refine lv_aload_n hx hb dX12_stepDown_32 rfl (lv_at hl 2 rfl) ?_
            refine g_X12_112 Cx hW (k := 231) (by decide) rfl (v := .ref (G.2.2.1 + 265)) (rd_56 hI) dX12_stepDown_33 ?_
            refine lv_iload_n hx hb dX12_stepDown_36 rfl (lv_at hl 0 rfl) ?_
            refine rIald Cx hW (k := 265) (by decide) rfl (by decide) (by omega) (by omega) dX12_stepDown_37 ?_
            have q_71 : (-2147483648) ≤ S.2.1 265 i ∧ S.2.1 265 i ≤ 2147483647 := hI.ai 265 i
            refine r_i (b := S.2.1 265 i) rfl ?_
            refine lv_aload_n hx hb dX12_stepDown_38 rfl (lv_at hl 2 rfl) ?_
            refine g_X12_112 Cx hW (k := 231) (by decide) rfl (v := .ref (G.2.2.1 + 265)) (rd_56 hI) dX12_stepDown_39 ?_
            refine lv_iload_n hx hb dX12_stepDown_42 rfl (lv_at hl 1 rfl) ?_
            refine rIald Cx hW (k := 265) (by decide) rfl (by decide) (by omega) (by omega) dX12_stepDown_43 ?_
            have q_72 : (-2147483648) ≤ S.2.1 265 r1 ∧ S.2.1 265 r1 ≤ 2147483647 := hI.ai 265 r1
            refine r_i (b := S.2.1 265 r1) rfl ?_
            refine r_icmp_ge (tgt := 49) hx hb ⟨(by omega), (by omega)⟩ ⟨(by omega), (by omega)⟩ dX12_stepDown_44 (by decide) (fun c_73 => ?_) (fun c_73 => ?_)
            · exact join_49 r1 _ _ _ (by omega) (pick_n (P := (fun i => d.2.1 i 0 < 0)) (lt := (fun i r => d.2.2.1 i < d.2.2.1 r)) (x := r1) (by omega) hpk (fun z => by have z1 : d.2.1 i 0 < 0 := z.1; have k0 := (hR.sg hD (i := i) (j := 0) (a := i + 1) (c := 8 * (15 * (i + 1) + 0)) (by omega) (by omega) (by omega) (by first | exact (rI_p (by omega)).symm | (unfold rI; split <;> omega) | rfl) (by omega)); rcases (by omega : r1 = 0 ∨ 1 ≤ r1) with q | q; omega; (rcases z.2 with y | y; omega; (have y2 : d.2.2.1 i < d.2.2.1 r1 := y; rw [← hR.2.2.1 i (by omega) (by omega), ← hR.2.2.1 r1 q (by omega)] at y2; omega)))) hW hL (lv_sub hl [0, 1, 2] rfl)
            · refine lv_iload_n hx hb dX12_stepDown_47 rfl (lv_at hl 0 rfl) ?_
              refine lv_istore_n (lv' := [(1, .int (iv i)), (2, .int (iv i)), (0, .ref (G.2.2.1 + 231))]) hx hb dX12_stepDown_48 rfl hl (by decide) rfl (fun ls hl => ?_)
              exact join_49 i _ _ _ (by omega) (pick_y (P := (fun i => d.2.1 i 0 < 0)) (lt := (fun i r => d.2.2.1 i < d.2.2.1 r)) (x := r1) (by omega) hpk (by show d.2.1 i 0 < 0; have k0 := (hR.sg hD (i := i) (j := 0) (a := i + 1) (c := 8 * (15 * (i + 1) + 0)) (by omega) (by omega) (by omega) (by first | exact (rI_p (by omega)).symm | (unfold rI; split <;> omega) | rfl) (by omega)); omega) (by rcases (by omega : r1 = 0 ∨ 1 ≤ r1) with q | q; exact .inl q; exact .inr (by show d.2.2.1 i < d.2.2.1 r1; rw [← hR.2.2.1 i (by omega) (by omega), ← hR.2.2.1 r1 q (by omega)]; omega))) hW hL (lv_sub hl [1, 0, 2] rfl)
  exact loop_4 (_ + 1) 1 0 _ _ _ (Nat.lt_succ_self _) (by omega) (by omega) (show (0 : Int) = pick _ _ ((1 : Int) - 1).toNat from rfl) hW hL (lv_sub hl [0, 1, 2] rfl)

set_option maxRecDepth 100000 in
set_option maxHeartbeats 4000000 in
theorem r_X12_outOfBasis (l : Launch) (G : sG) (S : sS)  {hw : Int} {d : dT} {n : Int} (hI : dX G S) (hD : DOK S) (hR : Hd (DRr S hw d)) (hxi : Hd (dIx n hw d)) : Met l yX12_outOfBasis (.code yX12_outOfBasis cX12_outOfBasis 4 (some .boolean) :: tb) (rmk 2 0 0) (sPc G 294 S [.ref (G.2.2.1 + 231)]) (sQi G 294 (fun r u => dX G u ∧ Fr S u (pl [231]) ∧ FF S u (fl [62, 71, 72]) ∧ ((0 ≤ r ∧ r ≤ 1) ∧ u.1 231 62 = 5 ∧ Hd (r = 0 → rOf d 0 = 0) ∧ Hd (r = 1 → rOf d 0 ≠ 0 ∧ u.1 231 71 = rOf d 0 ∧ u.1 231 72 = cOu d (rOf d 0))))) 0 0 (sF G) := by
  refine sEnter (by decide) (Nat.le_of_ble_eq_true rfl) ?_
  intro p e s m args below meth c Cx hr hlk hnm hW ls hl
  have Cx : sC G p m c cX12_outOfBasis 4 s args RX12 := Cx
  obtain ⟨hx, hb, hml, hown, hts⟩ := id Cx.1
  have hL : sL G [] := sL_nil
  have hl : lv_has ls 4 [(0, .ref (G.2.2.1 + 231))] := hl
  have hW0 := hW
  have hd1 := hD.1
  have hr58 := hR.2.2.2.2.1; have hr59 := hR.2.2.2.2.2.1; have hr60 := hR.2.2.2.2.2.2
  refine lv_iconst (v := iv 0) hx hb dX12_outOfBasis_0 (by decide) ?_
  refine lv_istore_n (lv' := [(1, .int (iv 0)), (0, .ref (G.2.2.1 + 231))]) hx hb dX12_outOfBasis_1 rfl hl (by decide) rfl (fun ls hl => ?_)
  refine lv_iconst (v := iv 1) hx hb dX12_outOfBasis_2 (by decide) ?_
  refine lv_istore_n (lv' := [(2, .int (iv 1)), (1, .int (iv 0)), (0, .ref (G.2.2.1 + 231))]) hx hb dX12_outOfBasis_3 rfl hl (by decide) rfl (fun ls hl => ?_)
  have loop_4 : ∀ (fuel : Nat) (i : Int) (r1 : Int) (H : Heap) (locs : List Loc) (ls : Array Slot), (S.1 231 58 + 1 - i).toNat < fuel → (1 ≤ i ∧ i ≤ S.1 231 58 + 1) → (0 ≤ r1 ∧ r1 < i) → (Hd (1 ≤ r1 → S.2.1 265 r1 = 0)) → (Hd (r1 = 0 → ∀ t, 1 ≤ t → t < i → S.2.1 265 t ≠ 0)) → sW G 294 S H → sL G locs → lv_has ls 4 [(2, .int (iv i)), (1, .int (iv r1)), (0, .ref (G.2.2.1 + 231))] → W p l e (rmk 2 0 0) s m args below meth c H locs 0 0 (MQ below (sQi G 294 (fun r u => dX G u ∧ Fr S u (pl [231]) ∧ FF S u (fl [62, 71, 72]) ∧ ((0 ≤ r ∧ r ≤ 1) ∧ u.1 231 62 = 5 ∧ Hd (r = 0 → rOf d 0 = 0) ∧ Hd (r = 1 → rOf d 0 ≠ 0 ∧ u.1 231 71 = rOf d 0 ∧ u.1 231 72 = cOu d (rOf d 0))))) args s 0 0 (sF G)) (F0 m 4 ls []) := by
    intro fuel
    induction fuel with
    | zero => intro i r1 H locs ls hmeas hi hr1 hrz hrn hW hL hl; exact absurd hmeas (Nat.not_lt_zero _)
    | succ fuel ih_4 =>
      intro i r1 H locs ls hmeas hi hr1 hrz hrn hW hL hl
      refine lv_iload_n hx hb dX12_outOfBasis_4 rfl (lv_at hl 0 rfl) ?_
      refine lv_aload_n hx hb dX12_outOfBasis_5 rfl (lv_at hl 2 rfl) ?_
      have q_1 : (-2147483648) ≤ S.1 231 58 ∧ S.1 231 58 ≤ 2147483647 := hI.fi 58
      refine g_X12_483 Cx hW (k := 231) (by decide) rfl (v := S.1 231 58) rfl dX12_outOfBasis_6 ?_
      refine r_icmp_gt (tgt := 29) hx hb ⟨(by omega), (by omega)⟩ ⟨(by omega), (by omega)⟩ dX12_outOfBasis_9 (by decide) (fun c_2 => ?_) (fun c_2 => ?_)
      · refine lv_iload_n hx hb dX12_outOfBasis_29 rfl (lv_at hl 1 rfl) ?_
        refine r_if_ne (tgt := 40) hx hb ⟨(by omega), (by omega)⟩ dX12_outOfBasis_30 (by decide) (fun c_3 => ?_) (fun c_3 => ?_)
        · refine lv_iconst (v := iv 0) hx hb dX12_outOfBasis_40 (by decide) ?_
          refine lv_istore_n (lv' := [(2, .int (iv 0)), (1, .int (iv r1)), (0, .ref (G.2.2.1 + 231))]) hx hb dX12_outOfBasis_41 rfl hl (by decide) rfl (fun ls hl => ?_)
          refine lv_iconst (v := iv 1) hx hb dX12_outOfBasis_42 (by decide) ?_
          refine lv_istore_n (lv' := [(3, .int (iv 1)), (2, .int (iv 0)), (1, .int (iv r1)), (0, .ref (G.2.2.1 + 231))]) hx hb dX12_outOfBasis_43 rfl hl (by decide) rfl (fun ls hl => ?_)
          have loop_44 : ∀ (fuel : Nat) (j : Int) (s1 : Int) (H : Heap) (locs : List Loc) (ls : Array Slot), (S.1 231 59 + 1 - j).toNat < fuel → (1 ≤ j ∧ j ≤ S.1 231 59 + 1) → (0 ≤ s1 ∧ s1 < j) → (Hd (s1 = pick (fun j => d.2.1 r1 j ≠ 0) (fun j s => d.2.2.2.1 j < d.2.2.2.1 s) (j - 1).toNat)) → sW G 294 S H → sL G locs → lv_has ls 4 [(3, .int (iv j)), (2, .int (iv s1)), (1, .int (iv r1)), (0, .ref (G.2.2.1 + 231))] → W p l e (rmk 2 0 0) s m args below meth c H locs 0 0 (MQ below (sQi G 294 (fun r u => dX G u ∧ Fr S u (pl [231]) ∧ FF S u (fl [62, 71, 72]) ∧ ((0 ≤ r ∧ r ≤ 1) ∧ u.1 231 62 = 5 ∧ Hd (r = 0 → rOf d 0 = 0) ∧ Hd (r = 1 → rOf d 0 ≠ 0 ∧ u.1 231 71 = rOf d 0 ∧ u.1 231 72 = cOu d (rOf d 0))))) args s 0 0 (sF G)) (F0 m 44 ls []) := by
            intro fuel
            induction fuel with
            | zero => intro j s1 H locs ls hmeas hj hs1 hpk hW hL hl; exact absurd hmeas (Nat.not_lt_zero _)
            | succ fuel ih_44 =>
              intro j s1 H locs ls hmeas hj hs1 hpk hW hL hl
              refine lv_iload_n hx hb dX12_outOfBasis_44 rfl (lv_at hl 0 rfl) ?_
              refine lv_aload_n hx hb dX12_outOfBasis_45 rfl (lv_at hl 3 rfl) ?_
              have q_4 : (-2147483648) ≤ S.1 231 59 ∧ S.1 231 59 ≤ 2147483647 := hI.fi 59
              refine g_X12_526 Cx hW (k := 231) (by decide) rfl (v := S.1 231 59) rfl dX12_outOfBasis_46 ?_
              refine r_icmp_gt (tgt := 95) hx hb ⟨(by omega), (by omega)⟩ ⟨(by omega), (by omega)⟩ dX12_outOfBasis_49 (by decide) (fun c_5 => ?_) (fun c_5 => ?_)
              · refine lv_aload_n hx hb dX12_outOfBasis_95 rfl (lv_at hl 3 rfl) ?_
                refine lv_iload_n hx hb dX12_outOfBasis_96 rfl (lv_at hl 2 rfl) ?_
                refine p_X12_562 Cx hW hL (k := 231) (by decide) rfl dX12_outOfBasis_97 (fun H locs hW hL => ?_)
                have F_6 : Fr S (uF S 231 71 r1) (pl [231]) := (Fr.rf : Fr S S (pl [231])).F rfl
                have g_7 : FF S (uF S 231 71 r1) (fl [62, 71, 72]) := FF.F FF.rf rfl
                have i_8 : dX G (uF S 231 71 r1) := hI.F (i := 71) (show (-2147483648) ≤ r1 ∧ r1 ≤ 2147483647 from ⟨by omega, by omega⟩)
                refine lv_aload_n hx hb dX12_outOfBasis_100 rfl (lv_at hl 3 rfl) ?_
                refine lv_iload_n hx hb dX12_outOfBasis_101 rfl (lv_at hl 1 rfl) ?_
                refine p_X12_555 Cx hW hL (k := 231) (by decide) rfl dX12_outOfBasis_102 (fun H locs hW hL => ?_)
                have F_9 : Fr S (uF (uF S 231 71 r1) 231 72 s1) (pl [231]) := F_6.F rfl
                have g_10 : FF S (uF (uF S 231 71 r1) 231 72 s1) (fl [62, 71, 72]) := FF.F g_7 rfl
                have i_11 : dX G (uF (uF S 231 71 r1) 231 72 s1) := i_8.F (i := 72) (show (-2147483648) ≤ s1 ∧ s1 ≤ 2147483647 from ⟨by omega, by omega⟩)
                refine lv_aload_n hx hb dX12_outOfBasis_105 rfl (lv_at hl 3 rfl) ?_
                refine lv_iconst (v := iv 5) hx hb dX12_outOfBasis_106 (by decide) ?_
                refine p_X12_532 Cx hW hL (k := 231) (by decide) rfl dX12_outOfBasis_107 (fun H locs hW hL => ?_)
                have F_12 : Fr S (uF (uF (uF S 231 71 r1) 231 72 s1) 231 62 5) (pl [231]) := F_9.F rfl
                have g_13 : FF S (uF (uF (uF S 231 71 r1) 231 72 s1) 231 62 5) (fl [62, 71, 72]) := FF.F g_10 rfl
                have i_14 : dX G (uF (uF (uF S 231 71 r1) 231 72 s1) 231 62 5) := i_11.F (i := 62) (show (-2147483648) ≤ 5 ∧ 5 ≤ 2147483647 from ⟨by omega, by omega⟩)
                refine lv_iconst (v := iv 1) hx hb dX12_outOfBasis_110 (by decide) ?_
                have lk_15 : (uF (uF (uF S 231 71 r1) 231 72 s1) 231 62 5).1 231 62 = 5 := uF_on
                have lk_16 : (uF (uF (uF S 231 71 r1) 231 72 s1) 231 62 5).1 231 71 = r1 := (uF_ne (fun h => absurd h.2 (by decide))).trans ((uF_ne (fun h => absurd h.2 (by decide))).trans (uF_on))
                have lk_17 : (uF (uF (uF S 231 71 r1) 231 72 s1) 231 62 5).1 231 72 = s1 := (uF_ne (fun h => absurd h.2 (by decide))).trans (uF_on)
                exact sZret Cx hr hlk hW hL (by omega) ⟨i_14, F_12, g_13, ⟨by omega, uF_on, (fun q => absurd q (by omega)), (fun _ => by rw [(show rOf d 0 = r1 by rw [← show d.2.2.1 r1 = 0 by rw [← hR.2.2.1 r1 (by omega) (by omega)]; exact hrz (by omega)]; exact rOf_u hxi (by omega))]; exact ⟨by omega, (uF_ne (fun h => absurd h.2 (by decide))).trans ((uF_ne (fun h => absurd h.2 (by decide))).trans (uF_on)), ((uF_ne (fun h => absurd h.2 (by decide))).trans (uF_on) : (uF (uF (uF S 231 71 r1) 231 72 s1) 231 62 5).1 231 72 = s1).trans (show s1 = cOu d r1 by have e := hpk; rw [show j - 1 = d.2.2.2.2.2 by omega] at e; exact e)⟩)⟩⟩ dX12_outOfBasis_111
              · have join_89 : ∀ (s2 : Int) (H : Heap) (locs : List Loc) (ls : Array Slot), (0 ≤ s2 ∧ s2 ≤ j) → (Hd (s2 = pick (fun j => d.2.1 r1 j ≠ 0) (fun j s => d.2.2.2.1 j < d.2.2.2.1 s) (j + 1 - 1).toNat)) → sW G 294 S H → sL G locs → lv_has ls 4 [(3, .int (iv j)), (2, .int (iv s2)), (1, .int (iv r1)), (0, .ref (G.2.2.1 + 231))] → W p l e (rmk 2 0 0) s m args below meth c H locs 0 0 (MQ below (sQi G 294 (fun r u => dX G u ∧ Fr S u (pl [231]) ∧ FF S u (fl [62, 71, 72]) ∧ ((0 ≤ r ∧ r ≤ 1) ∧ u.1 231 62 = 5 ∧ Hd (r = 0 → rOf d 0 = 0) ∧ Hd (r = 1 → rOf d 0 ≠ 0 ∧ u.1 231 71 = rOf d 0 ∧ u.1 231 72 = cOu d (rOf d 0))))) args s 0 0 (sF G)) (F0 m 89 ls []) := by
                  intro s2 H locs ls hs2 hpk2 hW hL hl
                  refine lv_iinc (v := iv (j + 1)) (lv' := [(3, .int (iv (j + 1))), (2, .int (iv s2)), (1, .int (iv r1)), (0, .ref (G.2.2.1 + 231))]) hx hb dX12_outOfBasis_89 hl (k := 0) rfl ((Int32.ofInt_add _ _).symm) (by decide) rfl (fun ls hl => ?_)
                  refine lv_goto (tgt := 44) hx hb dX12_outOfBasis_92 (by decide) ?_
                  exact ih_44 (j + 1) s2 _ _ _ (by omega) (by omega) (by omega) hpk2 hW hL (lv_sub hl [0, 1, 2, 3] rfl)
                refine lv_aload_n hx hb dX12_outOfBasis_52 rfl (lv_at hl 3 rfl) ?_
                refine g_X12_103 Cx hW (k := 231) (by decide) rfl (v := .ref (G.2.2.1 + 262)) (rd_53 hI) dX12_outOfBasis_53 ?_
                refine lv_aload_n hx hb dX12_outOfBasis_56 rfl (lv_at hl 3 rfl) ?_
                refine lv_iload_n hx hb dX12_outOfBasis_57 rfl (lv_at hl 2 rfl) ?_
                refine lv_iconst (v := iv 1) hx hb dX12_outOfBasis_58 (by decide) ?_
                refine r_iadd hx hb dX12_outOfBasis_59 ?_
                refine lv_iload_n hx hb dX12_outOfBasis_60 rfl (lv_at hl 0 rfl) ?_
                refine sBi (sV (As := [.int (iv (r1 + 1)), .int (iv j)]) (rest := [.ref (G.2.2.1 + 262)]) (k := 231) Cx (s_X12_cell l G S (i := r1 + 1) (j := j) (by omega) (by omega)) (c_X12_529 Cx rfl rfl (rmk_ok (by omega) (by decide))) hW (by decide) rfl rfl rfl hl.1 rfl (Nat.le_of_ble_eq_true rfl) dX12_outOfBasis_61 ⟨Nat.le_of_ble_eq_true rfl, Nat.le_of_ble_eq_true rfl⟩) hL (fun r_20 u_18 H locs k_19 hW hL => ?_)
                obtain ⟨eu_18, xu_18⟩ := k_19
                rw [eu_18] at hW
                refine rIald Cx hW (k := 262) (by decide) rfl (by decide) (by omega) (by omega) dX12_outOfBasis_64 ?_
                have q_21 : (-2147483648) ≤ S.2.1 262 r_20 ∧ S.2.1 262 r_20 ≤ 2147483647 := hI.ai 262 r_20
                refine r_i (b := S.2.1 262 r_20) rfl ?_
                have hrd : S.2.1 262 (8 * (15 * (r1 + 1) + j)) = S.2.1 262 r_20 := congrArg (S.2.1 262) (by omega)
                refine r_if_eq (tgt := 89) hx hb ⟨(by omega), (by omega)⟩ dX12_outOfBasis_65 (by decide) (fun c_22 => ?_) (fun c_22 => ?_)
                · exact join_89 s1 _ _ _ (by omega) (pick_n (P := (fun j => d.2.1 r1 j ≠ 0)) (lt := (fun j s => d.2.2.2.1 j < d.2.2.2.1 s)) (x := s1) (by omega) hpk (fun z => by have z1 : d.2.1 r1 j ≠ 0 := z.1; have k0 := (hR.sg hD (i := r1) (j := j) (a := r1 + 1) (c := 8 * (15 * (r1 + 1) + j)) (by omega) (by omega) (by omega) (by first | exact (rI_p (by omega)).symm | (unfold rI; split <;> omega) | rfl) (by omega)); rcases (by omega : s1 = 0 ∨ 1 ≤ s1) with q | q; omega; (rcases z.2 with y | y; omega; (have y2 : d.2.2.2.1 j < d.2.2.2.1 s1 := y; rw [← hR.2.2.2.1 j (by omega) (by omega), ← hR.2.2.2.1 s1 q (by omega)] at y2; omega)))) hW hL (lv_sub hl [0, 1, 2, 3] rfl)
                · refine lv_iload_n hx hb dX12_outOfBasis_68 rfl (lv_at hl 1 rfl) ?_
                  refine r_if_eq (tgt := 87) hx hb ⟨(by omega), (by omega)⟩ dX12_outOfBasis_69 (by decide) (fun c_23 => ?_) (fun c_23 => ?_)
                  · refine lv_iload_n hx hb dX12_outOfBasis_87 rfl (lv_at hl 0 rfl) ?_
                    refine lv_istore_n (lv' := [(2, .int (iv j)), (3, .int (iv j)), (1, .int (iv r1)), (0, .ref (G.2.2.1 + 231))]) hx hb dX12_outOfBasis_88 rfl hl (by decide) rfl (fun ls hl => ?_)
                    exact join_89 j _ _ _ (by omega) (pick_y (P := (fun j => d.2.1 r1 j ≠ 0)) (lt := (fun j s => d.2.2.2.1 j < d.2.2.2.1 s)) (x := s1) (by omega) hpk (by show d.2.1 r1 j ≠ 0; have k0 := (hR.sg hD (i := r1) (j := j) (a := r1 + 1) (c := 8 * (15 * (r1 + 1) + j)) (by omega) (by omega) (by omega) (by first | exact (rI_p (by omega)).symm | (unfold rI; split <;> omega) | rfl) (by omega)); omega) (by rcases (by omega : s1 = 0 ∨ 1 ≤ s1) with q | q; exact .inl q; exact .inr (by show d.2.2.2.1 j < d.2.2.2.1 s1; rw [← hR.2.2.2.1 j (by omega) (by omega), ← hR.2.2.2.1 s1 q (by omega)]; omega))) hW hL (lv_sub hl [1, 0, 2, 3] rfl)
                  · refine lv_aload_n hx hb dX12_outOfBasis_72 rfl (lv_at hl 3 rfl) ?_
                    refine g_X12_115 Cx hW (k := 231) (by decide) rfl (v := .ref (G.2.2.1 + 266)) (rd_57 hI) dX12_outOfBasis_73 ?_
                    refine lv_iload_n hx hb dX12_outOfBasis_76 rfl (lv_at hl 0 rfl) ?_
                    refine rIald Cx hW (k := 266) (by decide) rfl (by decide) (by omega) (by omega) dX12_outOfBasis_77 ?_
                    have q_24 : (-2147483648) ≤ S.2.1 266 j ∧ S.2.1 266 j ≤ 2147483647 := hI.ai 266 j
                    refine r_i (b := S.2.1 266 j) rfl ?_
                    refine lv_aload_n hx hb dX12_outOfBasis_78 rfl (lv_at hl 3 rfl) ?_
                    refine g_X12_115 Cx hW (k := 231) (by decide) rfl (v := .ref (G.2.2.1 + 266)) (rd_57 hI) dX12_outOfBasis_79 ?_
                    refine lv_iload_n hx hb dX12_outOfBasis_82 rfl (lv_at hl 1 rfl) ?_
                    refine rIald Cx hW (k := 266) (by decide) rfl (by decide) (by omega) (by omega) dX12_outOfBasis_83 ?_
                    have q_25 : (-2147483648) ≤ S.2.1 266 s1 ∧ S.2.1 266 s1 ≤ 2147483647 := hI.ai 266 s1
                    refine r_i (b := S.2.1 266 s1) rfl ?_
                    refine r_icmp_ge (tgt := 89) hx hb ⟨(by omega), (by omega)⟩ ⟨(by omega), (by omega)⟩ dX12_outOfBasis_84 (by decide) (fun c_26 => ?_) (fun c_26 => ?_)
                    · exact join_89 s1 _ _ _ (by omega) (pick_n (P := (fun j => d.2.1 r1 j ≠ 0)) (lt := (fun j s => d.2.2.2.1 j < d.2.2.2.1 s)) (x := s1) (by omega) hpk (fun z => by have z1 : d.2.1 r1 j ≠ 0 := z.1; have k0 := (hR.sg hD (i := r1) (j := j) (a := r1 + 1) (c := 8 * (15 * (r1 + 1) + j)) (by omega) (by omega) (by omega) (by first | exact (rI_p (by omega)).symm | (unfold rI; split <;> omega) | rfl) (by omega)); rcases (by omega : s1 = 0 ∨ 1 ≤ s1) with q | q; omega; (rcases z.2 with y | y; omega; (have y2 : d.2.2.2.1 j < d.2.2.2.1 s1 := y; rw [← hR.2.2.2.1 j (by omega) (by omega), ← hR.2.2.2.1 s1 q (by omega)] at y2; omega)))) hW hL (lv_sub hl [0, 1, 2, 3] rfl)
                    · refine lv_iload_n hx hb dX12_outOfBasis_87 rfl (lv_at hl 0 rfl) ?_
                      refine lv_istore_n (lv' := [(2, .int (iv j)), (3, .int (iv j)), (1, .int (iv r1)), (0, .ref (G.2.2.1 + 231))]) hx hb dX12_outOfBasis_88 rfl hl (by decide) rfl (fun ls hl => ?_)
                      exact join_89 j _ _ _ (by omega) (pick_y (P := (fun j => d.2.1 r1 j ≠ 0)) (lt := (fun j s => d.2.2.2.1 j < d.2.2.2.1 s)) (x := s1) (by omega) hpk (by show d.2.1 r1 j ≠ 0; have k0 := (hR.sg hD (i := r1) (j := j) (a := r1 + 1) (c := 8 * (15 * (r1 + 1) + j)) (by omega) (by omega) (by omega) (by first | exact (rI_p (by omega)).symm | (unfold rI; split <;> omega) | rfl) (by omega)); omega) (by rcases (by omega : s1 = 0 ∨ 1 ≤ s1) with q | q; exact .inl q; exact .inr (by show d.2.2.2.1 j < d.2.2.2.1 s1; rw [← hR.2.2.2.1 j (by omega) (by omega), ← hR.2.2.2.1 s1 q (by omega)]; omega))) hW hL (lv_sub hl [1, 0, 2, 3] rfl)
          exact loop_44 (_ + 1) 1 0 _ _ _ (Nat.lt_succ_self _) (by omega) (by omega) (show (0 : Int) = pick _ _ ((1 : Int) - 1).toNat from rfl) hW hL (lv_sub hl [0, 1, 2, 3] rfl)
        · refine lv_aload_n hx hb dX12_outOfBasis_33 rfl (lv_at hl 2 rfl) ?_
          refine lv_iconst (v := iv 5) hx hb dX12_outOfBasis_34 (by decide) ?_
          refine p_X12_532 Cx hW hL (k := 231) (by decide) rfl dX12_outOfBasis_35 (fun H locs hW hL => ?_)
          have F_27 : Fr S (uF S 231 62 5) (pl [231]) := (Fr.rf : Fr S S (pl [231])).F rfl
          have g_28 : FF S (uF S 231 62 5) (fl [62, 71, 72]) := FF.F FF.rf rfl
          have i_29 : dX G (uF S 231 62 5) := hI.F (i := 62) (show (-2147483648) ≤ 5 ∧ 5 ≤ 2147483647 from ⟨by omega, by omega⟩)
          refine lv_iconst (v := iv 0) hx hb dX12_outOfBasis_38 (by decide) ?_
          have lk_30 : (uF S 231 62 5).1 231 62 = 5 := uF_on
          have q_31 : (-2147483648) ≤ S.1 231 71 ∧ S.1 231 71 ≤ 2147483647 := hI.fi 71
          have lk_32 : (uF S 231 62 5).1 231 71 = S.1 231 71 := uF_ne (fun h => absurd h.2 (by decide))
          have q_33 : (-2147483648) ≤ S.1 231 72 ∧ S.1 231 72 ≤ 2147483647 := hI.fi 72
          have lk_34 : (uF S 231 62 5).1 231 72 = S.1 231 72 := uF_ne (fun h => absurd h.2 (by decide))
          exact sZret Cx hr hlk hW hL (by omega) ⟨i_29, F_27, g_28, ⟨by omega, uF_on, (fun _ => pick_no (fun t a b => by have e := hR.2.2.1 t a (by omega); have z := hrn (by omega) t a (by omega); omega)), (fun q => absurd q (by omega))⟩⟩ dX12_outOfBasis_39
      · have join_23 : ∀ (r2 : Int) (H : Heap) (locs : List Loc) (ls : Array Slot), (0 ≤ r2 ∧ r2 ≤ i) → (Hd (1 ≤ r2 → S.2.1 265 r2 = 0)) → (Hd (r2 = 0 → ∀ t, 1 ≤ t → t < i + 1 → S.2.1 265 t ≠ 0)) → sW G 294 S H → sL G locs → lv_has ls 4 [(2, .int (iv i)), (1, .int (iv r2)), (0, .ref (G.2.2.1 + 231))] → W p l e (rmk 2 0 0) s m args below meth c H locs 0 0 (MQ below (sQi G 294 (fun r u => dX G u ∧ Fr S u (pl [231]) ∧ FF S u (fl [62, 71, 72]) ∧ ((0 ≤ r ∧ r ≤ 1) ∧ u.1 231 62 = 5 ∧ Hd (r = 0 → rOf d 0 = 0) ∧ Hd (r = 1 → rOf d 0 ≠ 0 ∧ u.1 231 71 = rOf d 0 ∧ u.1 231 72 = cOu d (rOf d 0))))) args s 0 0 (sF G)) (F0 m 23 ls []) := by
          intro r2 H locs ls hr2 hrz2 hrn2 hW hL hl
          refine lv_iinc (v := iv (i + 1)) (lv' := [(2, .int (iv (i + 1))), (1, .int (iv r2)), (0, .ref (G.2.2.1 + 231))]) hx hb dX12_outOfBasis_23 hl (k := 0) rfl ((Int32.ofInt_add _ _).symm) (by decide) rfl (fun ls hl => ?_)
          refine lv_goto (tgt := 4) hx hb dX12_outOfBasis_26 (by decide) ?_
          exact ih_4 (i + 1) r2 _ _ _ (by omega) (by omega) (by omega) hrz2 hrn2 hW hL (lv_sub hl [0, 1, 2] rfl)
        refine lv_aload_n hx hb dX12_outOfBasis_12 rfl (lv_at hl 2 rfl) ?_
        refine g_X12_112 Cx hW (k := 231) (by decide) rfl (v := .ref (G.2.2.1 + 265)) (rd_56 hI) dX12_outOfBasis_13 ?_
        refine lv_iload_n hx hb dX12_outOfBasis_16 rfl (lv_at hl 0 rfl) ?_
        refine rIald Cx hW (k := 265) (by decide) rfl (by decide) (by omega) (by omega) dX12_outOfBasis_17 ?_
        have q_35 : (-2147483648) ≤ S.2.1 265 i ∧ S.2.1 265 i ≤ 2147483647 := hI.ai 265 i
        refine r_i (b := S.2.1 265 i) rfl ?_
        refine r_if_ne (tgt := 23) hx hb ⟨(by omega), (by omega)⟩ dX12_outOfBasis_18 (by decide) (fun c_36 => ?_) (fun c_36 => ?_)
        · exact join_23 r1 _ _ _ (by omega) hrz (fun q t a b => by by_cases e : t = i; (rw [e]; omega); exact hrn q t a (by omega)) hW hL (lv_sub hl [0, 1, 2] rfl)
        · refine lv_iload_n hx hb dX12_outOfBasis_21 rfl (lv_at hl 0 rfl) ?_
          refine lv_istore_n (lv' := [(1, .int (iv i)), (2, .int (iv i)), (0, .ref (G.2.2.1 + 231))]) hx hb dX12_outOfBasis_22 rfl hl (by decide) rfl (fun ls hl => ?_)
          exact join_23 i _ _ _ (by omega) (fun _ => by omega) (fun q => absurd q (by omega)) hW hL (lv_sub hl [1, 0, 2] rfl)
  exact loop_4 (_ + 1) 1 0 _ _ _ (Nat.lt_succ_self _) (by omega) (by omega) (fun q => absurd q (by omega)) (fun _ t a b => absurd b (by omega)) hW hL (lv_sub hl [0, 1, 2] rfl)
