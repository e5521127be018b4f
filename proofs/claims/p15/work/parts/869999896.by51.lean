/-- the BRANCHES that wait, in order -/
def WOK (n c w : Int) (wr wk : Int → Int) : Prop := 0 ≤ w ∧ w ≤ c ∧ c ≤ 40 ∧ ∀ i, 0 ≤ i → i < w → i ≤ wr i ∧ wr i < c ∧ (1 ≤ wk i ∧ wk i ≤ n) ∧ ∀ j, i < j → j < w → wr i < wr j
theorem WOK.br {n c w x : Int} {wr wk : Int → Int} (h : WOK n c w wr wk) (hc : c < 40) (hx : 1 ≤ x ∧ x ≤ n) : WOK n (c + 1) (w + 1) (upf wr w c) (upf wk w x) := by
  obtain ⟨h0, h1, h2, h3⟩ := h
  refine ⟨by omega, by omega, by omega, fun i i0 i1 => ?_⟩
  unfold upf
  by_cases q : i = w
  · rw [if_pos q, if_pos q]
    exact ⟨by omega, by omega, hx, fun j a b => by omega⟩
  · rw [if_neg q, if_neg q]
    obtain ⟨a1, a2, a3, a4⟩ := h3 i i0 (by omega)
    refine ⟨a1, by omega, a3, fun j a b => ?_⟩
    show wr i < (if j = w then c else wr j)
    by_cases z : j = w
    · rw [if_pos z]; exact a2
    · rw [if_neg z]; exact a4 j a (by omega)
theorem WOK.cut {n c w : Int} {wr wk : Int → Int} (h : WOK n c w wr wk) (hc : c < 40) : WOK n (c + 1) w wr wk := by
  obtain ⟨h0, h1, h2, h3⟩ := h
  refine ⟨h0, by omega, by omega, fun i i0 i1 => ?_⟩
  obtain ⟨a1, a2, a3, a4⟩ := h3 i i0 i1
  exact ⟨a1, by omega, a3, a4⟩
theorem WOK.sec {n c w : Int} {wr wk : Int → Int} (h : WOK n c w wr wk) (hw : w ≠ 0) : WOK n (wr (w - 1) + 1) (w - 1) wr wk := by
  obtain ⟨h0, h1, h2, h3⟩ := h
  obtain ⟨b1, b2, b3, b4⟩ := h3 (w - 1) (by omega) (by omega)
  refine ⟨by omega, by omega, by omega, fun i i0 i1 => ?_⟩
  obtain ⟨a1, a2, a3, a4⟩ := h3 i i0 (by omega)
  have a5 := a4 (w - 1) (by omega) (by omega)
  exact ⟨a1, by omega, a3, fun j a b => a4 j a (by omega)⟩
theorem upR_0 {R A : Int → Int → Int} {k n : Int} {f : Int → Int} (h : ∀ j, 0 ≤ j → j ≤ n → R 0 j = A 0 j) (hk : 1 ≤ k) : ∀ j, 0 ≤ j → j ≤ n → upR R k f 0 j = A 0 j := fun j a b => by
  unfold upR; rw [if_neg (by omega)]; exact h j a b
/-- where the TREES stand: rows, BRANCHES, what is due, and that what follows decides -/
def HS (n : Int) (A : Int → Int → Int) (wh : Int → Int) (hv vt vb : Int) (kp vp : Int → Int) (t0 : Int) (c0 : Int) (R0 : Int → Int → Int) (w0 : Int) (wr0 wk0 wv0 : Int → Int) (F : Nat) (t c : Int) (R : Int → Int → Int) (w : Int) (wr wk wv : Int → Int) : Prop :=
  WOK n c w wr wk ∧ (∀ j, 0 ≤ j → j ≤ n → R 0 j = A 0 j) ∧ (∃ f e, gTr kp vp f t (w + 1) = some e) ∧ ∀ x, HT n (wct wh n.toNat) wh hv vt vb kp vp F t c R w wr wk wv x → HT n (wct wh n.toNat) wh hv vt vb kp vp 3000 t0 c0 R0 w0 wr0 wk0 wv0 x
set_option maxRecDepth 100000 in
set_option maxHeartbeats 4000000 in
theorem b_X1_fail (l : Launch) (G : sG) (S : sS) {kn wz : Int} (hI : cX G S 0 0 0) (hkn : -2147483648 ≤ kn ∧ kn ≤ 2147483647) (hwz : -2147483648 ≤ wz ∧ wz ≤ 2147483647) : Met l yX1_fail (.code yX1_fail cX1_fail 3 (some .boolean) :: tb) (rmk 1 0 0) (sPc G 294 S [.ref (G.2.2.1 + 188), .int (iv kn), .int (iv wz)]) (sQi G 294 (fun r u => cX G u 0 0 0 ∧ Fr S u (p1 188) ∧ (r = 0 ∧ u.1 188 16 = kn ∧ u.1 188 14 = S.1 188 14 ∧ u.2.2.2 188 15 = S.2.2.2 188 15))) 0 0 (sF G) := by
  refine sEnter (by decide) (Nat.le_of_ble_eq_true rfl) ?_
  intro p e s m args below meth c Cx hr hlk hnm hW ls hl
  have Cx : sC G p m c cX1_fail 3 s args RX1 := Cx
  obtain ⟨hx, hb, hml, hown, hts⟩ := id Cx.1
  have hL : sL G [] := sL_nil
  have hl : lv_has ls 3 [(0, .ref (G.2.2.1 + 188)), (1, .int (iv kn)), (2, .int (iv wz))] := hl
  have hW0 := hW
  refine lv_aload_n hx hb dX1_fail_0 rfl (lv_at hl 0 rfl) ?_
  refine lv_iload_n hx hb dX1_fail_1 rfl (lv_at hl 1 rfl) ?_
  refine p_X1_77 Cx hW hL (k := 188) (by decide) rfl dX1_fail_2 (fun H locs hW hL => ?_)
  have F_1 : Fr S (uF S 188 16 kn) (p1 188) := (Fr.rf : Fr S S (p1 188)).F rfl
  have i_2 : cX G (uF S 188 16 kn) 0 0 0 := hI.F rfl rfl (show (-2147483648) ≤ kn ∧ kn ≤ 2147483647 from ⟨by omega, by omega⟩)
  refine lv_aload_n hx hb dX1_fail_5 rfl (lv_at hl 0 rfl) ?_
  refine lv_iload_n hx hb dX1_fail_6 rfl (lv_at hl 2 rfl) ?_
  refine p_X1_73 Cx hW hL (k := 188) (by decide) rfl dX1_fail_7 (fun H locs hW hL => ?_)
  have F_3 : Fr S (uF (uF S 188 16 kn) 188 17 wz) (p1 188) := F_1.F rfl
  have i_4 : cX G (uF (uF S 188 16 kn) 188 17 wz) 0 0 0 := i_2.F rfl rfl (show (-2147483648) ≤ wz ∧ wz ≤ 2147483647 from ⟨by omega, by omega⟩)
  refine lv_iconst (v := iv 0) hx hb dX1_fail_10 (by decide) ?_
  have lk_5 : (uF (uF S 188 16 kn) 188 17 wz).1 188 16 = kn := (uF_ne (fun h => absurd h.2 (by decide))).trans (uF_on)
  have q_6 : 0 ≤ S.1 188 14 ∧ S.1 188 14 ≤ 40 := hI.fi 188 14 1 (by decide) rfl
  have lk_7 : (uF (uF S 188 16 kn) 188 17 wz).1 188 14 = S.1 188 14 := (uF_ne (fun h => absurd h.2 (by decide))).trans (uF_ne (fun h => absurd h.2 (by decide)))
  exact sZret Cx hr hlk hW hL (by omega) ⟨i_4, F_3, ⟨rfl, (uF_ne (by decide)).trans uF_on, (uF_ne (by decide)).trans (uF_ne (by decide)), rfl⟩⟩ dX1_fail_11

set_option maxRecDepth 100000 in
set_option maxHeartbeats 4000000 in
theorem b_X1_pairTree (l : Launch) (G : sG) (S : sS) {wd hv : Int} {T : Int} {kp vp : Int → Int} {o : Nat} {n mm mx : Int} {A : Int → Int → Int} {wh : Int → Int} {cc : Int} {RR : Int → Int → Int} {vt vb : Int} (hI : cX G S 0 0 0) (hwd : -2147483648 ≤ wd ∧ wd ≤ 2147483647) (hhv : 0 ≤ hv ∧ hv ≤ 1) (hCR : CQ G T kp vp S) (hat : S.1 189 3 ≤ 999800000) (hm : mdl o) (hmr : S.2.2.2 188 15 = .ref (G.2.2.1 + o)) (hMD : Hd (MDv S o n mm mx A wh)) (hR : Hd (RWv S n cc RR)) (hc4 : 0 ≤ cc ∧ cc ≤ 40) (hKT : Hd (KT T kp)) (hRA : Hd (∀ j, 0 ≤ j → j ≤ n → RR 0 j = A 0 j)) (hvt : bv S 209 = vt) (hvb : bv S 211 = vb) (hb9 : Hd (bs S 209)) (hb11 : Hd (bs S 211)) (h7 : S.1 209 1 ≤ 7 ∧ S.1 211 1 ≤ 7) (hkq : (kp (S.1 189 3) = 2 ∧ S.1 189 3 < T) ∧ 0 < vp (S.1 189 3)) (hgp : Hd (∃ e, gPr kp 30001 (S.1 189 3 + 1) = some e)) : Met l yX1_pairTree (.code yX1_pairTree cX1_pairTree 3 (some .int) :: tb) (rmk 6 0 0) (sPc G 294 S [.ref (G.2.2.1 + 188), .int (iv wd), .int (iv hv)]) (sQi G 294 (fun r u => cX G u 0 0 0 ∧ Fr S u pPT ∧ (CQ G T kp vp u ∧ 0 ≤ r ∧ r ≤ 6 ∧ Hd (prs cc kp vp 30001 (S.1 189 3 + 1) 0 (fun _ => 0) = none → r = 4) ∧ Hd (∀ ff e, prs cc kp vp 30001 (S.1 189 3 + 1) 0 (fun _ => 0) = some (ff, e) → (wd = 13 → (wct wh n.toNat ≠ n → r = 4) ∧ (wct wh n.toNat = n → ((40 ≤ cc ∨ lgx n cc RR ff (vp (S.1 189 3))) → r = 6) ∧ (¬ (40 ≤ cc ∨ lgx n cc RR ff (vp (S.1 189 3))) → r = 0 ∧ u.1 189 3 = e ∧ RWv u n (cc + 1) (upR RR (cc + 1) (fun j => smf ff RR j cc.toNat / vp (S.1 189 3)))))) ∧ (wd ≠ 13 → (¬ leaf n cc RR wh ff wd hv (vp (S.1 189 3)) vt vb → r = 4) ∧ (leaf n cc RR wh ff wd hv (vp (S.1 189 3)) vt vb → r = 0 ∧ u.1 189 3 = e ∧ RWv u n cc RR)))))) 0 0 (sF G) := by
  refine sEnter (by decide) (Nat.le_of_ble_eq_true rfl) ?_
  intro p e s m args below meth c Cx hr hlk hnm hW ls hl
  have Cx : sC G p m c cX1_pairTree 3 s args RX1 := Cx
  obtain ⟨hx, hb, hml, hown, hts⟩ := id Cx.1
  have hL : sL G [] := sL_nil
  have hl : lv_has ls 3 [(0, .ref (G.2.2.1 + 188)), (1, .int (iv wd)), (2, .int (iv hv))] := hl
  have hW0 := hW
  have hMn := hMD.1; have hMm := hMD.2.1; have hMx := hMD.2.2.1; have hn12 : 0 ≤ S.1 o 2 ∧ S.1 o 2 ≤ 12 := hI.fi o 2 3 (mdl_k hm) hm.1; have hm16 : 0 ≤ S.1 o 3 ∧ S.1 o 3 ≤ 16 := hI.fi o 3 3 (mdl_k hm) hm.1
  have hat0 : 0 ≤ S.1 189 3 ∧ S.1 189 3 ≤ 1000000000 := hI.fi 189 3 4 (by decide) rfl
  have hRc := hR.2.1; have hRn := hR.1
  refine lv_aload_n hx hb dX1_pairTree_0 rfl (lv_at hl 0 rfl) ?_
  refine g_X1_12 Cx hW (k := 188) (by decide) rfl (v := .ref (G.2.2.1 + 189)) (rf_188_0 hI) dX1_pairTree_1 ?_
  refine lv_aload_n hx hb dX1_pairTree_4 rfl (lv_at hl 0 rfl) ?_
  refine g_X1_39 Cx hW (k := 188) (by decide) rfl (v := .ref (G.2.2.1 + 213)) (rf_188_5 hI) dX1_pairTree_5 ?_
  have q_1 : 0 ≤ S.1 189 3 ∧ S.1 189 3 ≤ 1000000000 := hI.fi 189 3 4 (by decide) rfl
  refine sBv (sV (As := [.ref (G.2.2.1 + 213)]) (rest := []) (k := 189) Cx (b_X4_takeNumber_213 l G S (T := T) (kp := kp) (vp := vp) hI hCR (by omega) ⟨hkq.1.2, hkq.1.1⟩) (c_X1_126 Cx rfl rfl (rmk_ok (by omega) (by decide))) hW (by decide) rfl rfl rfl hl.1 rfl (Nat.le_of_ble_eq_true rfl) dX1_pairTree_8 ⟨Nat.le_of_ble_eq_true rfl, Nat.le_of_ble_eq_true rfl⟩) hL (fun u_2 H locs k_3 hW hL => ?_)
  obtain ⟨iu_2, fu_2, xu_2⟩ := k_3
  have F_4 := (Fr.rf : Fr S S pPT).trans (fu_2.to (pRg_sub rfl rfl rfl))
  have bv_5 : bv u_2 213 = vp (S.1 189 3) := (show bv u_2 213 = vp _ from xu_2.2.2.2.2.1).trans (congrArg vp (by omega))
  have sq8 := bsg iu_2 (o := 213) rfl (show Hd (bs u_2 213) from xu_2.2.2.2.2.2)
  rw [(show bv u_2 213 = vp (S.1 189 3) from bv_5)] at sq8
  have cr_6 : CQ G T kp vp u_2 := xu_2.1
  refine lv_aload_n hx hb dX1_pairTree_11 rfl (lv_at hl 0 rfl) ?_
  have q_7 : 0 ≤ u_2.1 189 3 ∧ u_2.1 189 3 ≤ 1000000000 := iu_2.fi 189 3 4 (by decide) rfl
  refine sBi (sV (As := []) (rest := []) (k := 188) Cx (b_X1_takePairs l G u_2 (o := o) (n := n) (mm := mm) (mx := mx) (A := A) (wh := wh) (T := T) (kp := kp) (vp := vp) (cc := cc) (RR := RR) iu_2 cr_6 (by omega) hm (((fu_2 188 rfl).2.2.2 15).trans hmr) (MDv.of hMD (show u_2.1 o 2 = S.1 o 2 from (fu_2 o (mo_pRg_213 hm).1).1 2) (show u_2.1 o 3 = S.1 o 3 from (fu_2 o (mo_pRg_213 hm).1).1 3) (show u_2.1 o 4 = S.1 o 4 from (fu_2 o (mo_pRg_213 hm).1).1 4) (show u_2.2.1 (o + 1) = S.2.1 (o + 1) from funext fun x => (fu_2 (o + 1) (mo_pRg_213 hm).2.1).2.1 x) (show u_2.2.1 (o + 2) = S.2.1 (o + 2) from funext fun x => (fu_2 (o + 2) (mo_pRg_213 hm).2.2).2.1 x)) (RWv.of hR (show u_2.1 193 8 = S.1 193 8 from (fu_2 193 rfl).1 8) (show u_2.1 193 9 = S.1 193 9 from (fu_2 193 rfl).1 9) (show u_2.2.1 194 = S.2.1 194 from funext fun x => (fu_2 194 rfl).2.1 x)) (by omega) hKT (by rw [show u_2.1 189 3 = S.1 189 3 + 1 by omega]; exact hgp)) (c_X1_219 Cx rfl rfl (rmk_ok (by omega) (by decide))) hW (by decide) rfl rfl rfl hl.1 rfl (Nat.le_of_ble_eq_true rfl) dX1_pairTree_12 ⟨Nat.le_of_ble_eq_true rfl, Nat.le_of_ble_eq_true rfl⟩) hL (fun r_10 u_8 H locs k_9 hW hL => ?_)
  obtain ⟨iu_8, fu_8, xu_8⟩ := k_9
  have F_11 := F_4.trans (fu_8.to pTq_PT)
  have cr_12 : CQ G T kp vp u_8 := xu_8.1
  refine r_if_ne (tgt := 20) hx hb ⟨(by omega), (by omega)⟩ dX1_pairTree_15 (by decide) (fun c_13 => ?_) (fun c_13 => ?_)
  · obtain ⟨ff1, e1, hprs, hFC, hate⟩ := (show _ → _ from xu_8.2.2.2.1) (by omega)
    rw [show u_2.1 189 3 = S.1 189 3 + 1 by omega] at hprs
    refine lv_iload_n hx hb dX1_pairTree_20 rfl (lv_at hl 1 rfl) ?_
    refine lv_bipush (v := iv 13) hx hb dX1_pairTree_21 (by decide) ?_
    refine r_icmp_ne (tgt := 59) hx hb ⟨(by omega), (by omega)⟩ ⟨(by omega), (by omega)⟩ dX1_pairTree_23 (by decide) (fun c_14 => ?_) (fun c_14 => ?_)
    · refine lv_iload_n hx hb dX1_pairTree_59 rfl (lv_at hl 1 rfl) ?_
      refine lv_bipush (v := iv 15) hx hb dX1_pairTree_60 (by decide) ?_
      refine r_icmp_ne (tgt := 78) hx hb ⟨(by omega), (by omega)⟩ ⟨(by omega), (by omega)⟩ dX1_pairTree_62 (by decide) (fun c_15 => ?_) (fun c_15 => ?_)
      · refine lv_iload_n hx hb dX1_pairTree_78 rfl (lv_at hl 2 rfl) ?_
        refine r_if_eq (tgt := 93) hx hb ⟨(by omega), (by omega)⟩ dX1_pairTree_79 (by decide) (fun c_16 => ?_) (fun c_16 => ?_)
        · refine lv_iconst (v := iv 4) hx hb dX1_pairTree_93 (by decide) ?_
          have q_17 : 0 ≤ u_8.1 189 3 ∧ u_8.1 189 3 ≤ 1000000000 := iu_8.fi 189 3 4 (by decide) rfl
          exact sIret Cx hr hlk hW hL ⟨iu_8, F_11, ⟨cr_12, (by omega), (by omega), (fun q => absurd (hprs.symm.trans q) (by intro z; cases z)), (fun ff e q => by obtain ⟨rfl, rfl⟩ := Prod.mk.inj (Option.some.inj (hprs.symm.trans q)); exact ⟨fun z => absurd z (by omega), fun _ => ⟨fun _ => rfl, fun z => False.elim (by rcases z with z | z; (exact absurd z.1 (by omega)); (exact absurd z.2.1 (by omega)))⟩⟩)⟩⟩ dX1_pairTree_94
        · refine lv_aload_n hx hb dX1_pairTree_82 rfl (lv_at hl 0 rfl) ?_
          have q_18 : 0 ≤ u_2.1 213 1 ∧ u_2.1 213 1 ≤ 32 := iu_2.fi 213 1 0 (by decide) rfl
          have lk_19 : u_8.1 213 1 = u_2.1 213 1 := (fu_8 213 rfl).1 1
          have q_20 : 0 ≤ S.1 209 1 ∧ S.1 209 1 ≤ 32 := hI.fi 209 1 0 (by decide) rfl
          have lk_21 : u_8.1 209 1 = S.1 209 1 := ((fu_8 209 rfl).1 1).trans ((fu_2 209 rfl).1 1)
          have q_22 : 0 ≤ S.1 211 1 ∧ S.1 211 1 ≤ 32 := hI.fi 211 1 0 (by decide) rfl
          have lk_23 : u_8.1 211 1 = S.1 211 1 := ((fu_8 211 rfl).1 1).trans ((fu_2 211 rfl).1 1)
          refine sBi (sV (As := []) (rest := []) (k := 188) Cx (b_X1_isBound l G u_8 (o := o) (n := n) (mm := mm) (mx := mx) (A := A) (wh := wh) (cc := cc) (RR := RR) (ff := ff1) (vt := vt) (vb := vb) (qq := vp (S.1 189 3)) iu_8 (by omega) (show bv u_8 213 = vp (S.1 189 3) from (bv_fr fu_8 rfl rfl).trans (bv_5)) (show Hd (bs u_8 213) from (bs_fr fu_8 rfl xu_2.2.2.2.2.2)) hkq.2 hm ((((fu_8 188 rfl).2.2.2 15).trans ((fu_2 188 rfl).2.2.2 15)).trans hmr) (MDv.of hMD (show u_8.1 o 2 = S.1 o 2 from ((fu_8 o (mo_pTq hm).1).1 2).trans ((fu_2 o (mo_pRg_213 hm).1).1 2)) (show u_8.1 o 3 = S.1 o 3 from ((fu_8 o (mo_pTq hm).1).1 3).trans ((fu_2 o (mo_pRg_213 hm).1).1 3)) (show u_8.1 o 4 = S.1 o 4 from ((fu_8 o (mo_pTq hm).1).1 4).trans ((fu_2 o (mo_pRg_213 hm).1).1 4)) (show u_8.2.1 (o + 1) = S.2.1 (o + 1) from funext fun x => ((fu_8 (o + 1) (mo_pTq hm).2.1).2.1 x).trans ((fu_2 (o + 1) (mo_pRg_213 hm).2.1).2.1 x)) (show u_8.2.1 (o + 2) = S.2.1 (o + 2) from funext fun x => ((fu_8 (o + 2) (mo_pTq hm).2.2).2.1 x).trans ((fu_2 (o + 2) (mo_pRg_213 hm).2.2).2.1 x))) (RWv.of hR (show u_8.1 193 8 = S.1 193 8 from ((fu_8 193 rfl).1 8).trans ((fu_2 193 rfl).1 8)) (show u_8.1 193 9 = S.1 193 9 from ((fu_8 193 rfl).1 9).trans ((fu_2 193 rfl).1 9)) (show u_8.2.1 194 = S.2.1 194 from funext fun x => ((fu_8 194 rfl).2.1 x).trans ((fu_2 194 rfl).2.1 x))) hFC (by omega) hRA (show bv u_8 209 = vt from (bv_fr fu_8 rfl rfl).trans ((bv_fr fu_2 rfl rfl).trans (hvt))) (show bv u_8 211 = vb from (bv_fr fu_8 rfl rfl).trans ((bv_fr fu_2 rfl rfl).trans (hvb))) (show Hd (bs u_8 209) from (bs_fr fu_8 rfl (bs_fr fu_2 rfl hb9))) (show Hd (bs u_8 211) from (bs_fr fu_8 rfl (bs_fr fu_2 rfl hb11))) (by omega)) (c_X1_232 Cx rfl rfl (rmk_ok (by omega) (by decide))) hW (by decide) rfl rfl rfl hl.1 rfl (Nat.le_of_ble_eq_true rfl) dX1_pairTree_83 ⟨Nat.le_of_ble_eq_true rfl, Nat.le_of_ble_eq_true rfl⟩) hL (fun r_26 u_24 H locs k_25 hW hL => ?_)
          obtain ⟨iu_24, fu_24, xu_24⟩ := k_25
          have F_27 := F_11.trans (fu_24.to pFk_PT)
          have hbd := (show _ ↔ _ from xu_24.2.2)
          have hbd : Hd _ := hbd
          have cr_28 : CQ G T kp vp u_24 := cr_12.fr fu_24 rfl rfl rfl rfl
          refine r_if_eq (tgt := 93) hx hb ⟨(by omega), (by omega)⟩ dX1_pairTree_86 (by decide) (fun c_29 => ?_) (fun c_29 => ?_)
          · refine lv_iconst (v := iv 4) hx hb dX1_pairTree_93 (by decide) ?_
            have q_30 : 0 ≤ u_8.1 189 3 ∧ u_8.1 189 3 ≤ 1000000000 := iu_8.fi 189 3 4 (by decide) rfl
            have lk_31 : u_24.1 189 3 = u_8.1 189 3 := (fu_24 189 rfl).1 3
            exact sIret Cx hr hlk hW hL ⟨iu_24, F_27, ⟨cr_28, (by omega), (by omega), (fun q => absurd (hprs.symm.trans q) (by intro z; cases z)), (fun ff e q => by obtain ⟨rfl, rfl⟩ := Prod.mk.inj (Option.some.inj (hprs.symm.trans q)); exact ⟨fun z => absurd z (by omega), fun _ => ⟨fun _ => rfl, fun z => False.elim (by rcases z with z | z; (exact absurd z.1 (by omega)); (exact absurd (hbd.mpr z.2.2) (by omega)))⟩⟩)⟩⟩ dX1_pairTree_94
          · refine lv_iconst (v := iv 0) hx hb dX1_pairTree_89 (by decide) ?_
            refine lv_goto (tgt := 94) hx hb dX1_pairTree_90 (by decide) ?_
            have q_32 : 0 ≤ u_8.1 189 3 ∧ u_8.1 189 3 ≤ 1000000000 := iu_8.fi 189 3 4 (by decide) rfl
            have lk_33 : u_24.1 189 3 = u_8.1 189 3 := (fu_24 189 rfl).1 3
            exact sIret Cx hr hlk hW hL ⟨iu_24, F_27, ⟨cr_28, (by omega), (by omega), (fun q => absurd (hprs.symm.trans q) (by intro z; cases z)), (fun ff e q => by obtain ⟨rfl, rfl⟩ := Prod.mk.inj (Option.some.inj (hprs.symm.trans q)); exact ⟨fun z => absurd z (by omega), fun _ => ⟨fun z => absurd (.inr ⟨by omega, by omega, hbd.mp (by omega)⟩) z, fun _ => ⟨rfl, by omega, (RWv.of hR (show u_24.1 193 8 = S.1 193 8 from ((fu_24 193 rfl).1 8).trans (((fu_8 193 rfl).1 8).trans ((fu_2 193 rfl).1 8))) (show u_24.1 193 9 = S.1 193 9 from ((fu_24 193 rfl).1 9).trans (((fu_8 193 rfl).1 9).trans ((fu_2 193 rfl).1 9))) (show u_24.2.1 194 = S.2.1 194 from funext fun x => ((fu_24 194 rfl).2.1 x).trans (((fu_8 194 rfl).2.1 x).trans ((fu_2 194 rfl).2.1 x))))⟩⟩⟩)⟩⟩ dX1_pairTree_94
      · refine lv_aload_n hx hb dX1_pairTree_65 rfl (lv_at hl 0 rfl) ?_
        refine sBi (sV (As := []) (rest := []) (k := 188) Cx (b_X1_isFarkas l G u_8 (o := o) (n := n) (mm := mm) (mx := mx) (A := A) (wh := wh) (cc := cc) (RR := RR) (ff := ff1) iu_8 hm ((((fu_8 188 rfl).2.2.2 15).trans ((fu_2 188 rfl).2.2.2 15)).trans hmr) (MDv.of hMD (show u_8.1 o 2 = S.1 o 2 from ((fu_8 o (mo_pTq hm).1).1 2).trans ((fu_2 o (mo_pRg_213 hm).1).1 2)) (show u_8.1 o 3 = S.1 o 3 from ((fu_8 o (mo_pTq hm).1).1 3).trans ((fu_2 o (mo_pRg_213 hm).1).1 3)) (show u_8.1 o 4 = S.1 o 4 from ((fu_8 o (mo_pTq hm).1).1 4).trans ((fu_2 o (mo_pRg_213 hm).1).1 4)) (show u_8.2.1 (o + 1) = S.2.1 (o + 1) from funext fun x => ((fu_8 (o + 1) (mo_pTq hm).2.1).2.1 x).trans ((fu_2 (o + 1) (mo_pRg_213 hm).2.1).2.1 x)) (show u_8.2.1 (o + 2) = S.2.1 (o + 2) from funext fun x => ((fu_8 (o + 2) (mo_pTq hm).2.2).2.1 x).trans ((fu_2 (o + 2) (mo_pRg_213 hm).2.2).2.1 x))) (RWv.of hR (show u_8.1 193 8 = S.1 193 8 from ((fu_8 193 rfl).1 8).trans ((fu_2 193 rfl).1 8)) (show u_8.1 193 9 = S.1 193 9 from ((fu_8 193 rfl).1 9).trans ((fu_2 193 rfl).1 9)) (show u_8.2.1 194 = S.2.1 194 from funext fun x => ((fu_8 194 rfl).2.1 x).trans ((fu_2 194 rfl).2.1 x))) hFC (by omega)) (c_X1_229 Cx rfl rfl (rmk_ok (by omega) (by decide))) hW (by decide) rfl rfl rfl hl.1 rfl (Nat.le_of_ble_eq_true rfl) dX1_pairTree_66 ⟨Nat.le_of_ble_eq_true rfl, Nat.le_of_ble_eq_true rfl⟩) hL (fun r_36 u_34 H locs k_35 hW hL => ?_)
        obtain ⟨iu_34, fu_34, xu_34⟩ := k_35
        have F_37 := F_11.trans (fu_34.to pFk_PT)
        have hfk := (show _ ↔ _ from xu_34.2.2)
        have hfk : Hd _ := hfk
        have cr_38 : CQ G T kp vp u_34 := cr_12.fr fu_34 rfl rfl rfl rfl
        refine r_if_eq (tgt := 76) hx hb ⟨(by omega), (by omega)⟩ dX1_pairTree_69 (by decide) (fun c_39 => ?_) (fun c_39 => ?_)
        · refine lv_iconst (v := iv 4) hx hb dX1_pairTree_76 (by decide) ?_
          have q_40 : 0 ≤ u_8.1 189 3 ∧ u_8.1 189 3 ≤ 1000000000 := iu_8.fi 189 3 4 (by decide) rfl
          have lk_41 : u_34.1 189 3 = u_8.1 189 3 := (fu_34 189 rfl).1 3
          exact sIret Cx hr hlk hW hL ⟨iu_34, F_37, ⟨cr_38, (by omega), (by omega), (fun q => absurd (hprs.symm.trans q) (by intro z; cases z)), (fun ff e q => by obtain ⟨rfl, rfl⟩ := Prod.mk.inj (Option.some.inj (hprs.symm.trans q)); exact ⟨fun z => absurd z (by omega), fun _ => ⟨fun _ => rfl, fun z => False.elim (by rcases z with z | z; (exact absurd (hfk.mpr z.2) (by omega)); (exact absurd (by omega) z.1))⟩⟩)⟩⟩ dX1_pairTree_77
        · refine lv_iconst (v := iv 0) hx hb dX1_pairTree_72 (by decide) ?_
          refine lv_goto (tgt := 77) hx hb dX1_pairTree_73 (by decide) ?_
          have q_42 : 0 ≤ u_8.1 189 3 ∧ u_8.1 189 3 ≤ 1000000000 := iu_8.fi 189 3 4 (by decide) rfl
          have lk_43 : u_34.1 189 3 = u_8.1 189 3 := (fu_34 189 rfl).1 3
          exact sIret Cx hr hlk hW hL ⟨iu_34, F_37, ⟨cr_38, (by omega), (by omega), (fun q => absurd (hprs.symm.trans q) (by intro z; cases z)), (fun ff e q => by obtain ⟨rfl, rfl⟩ := Prod.mk.inj (Option.some.inj (hprs.symm.trans q)); exact ⟨fun z => absurd z (by omega), fun _ => ⟨fun z => absurd (.inl ⟨by omega, hfk.mp (by omega)⟩) z, fun _ => ⟨rfl, by omega, (RWv.of hR (show u_34.1 193 8 = S.1 193 8 from ((fu_34 193 rfl).1 8).trans (((fu_8 193 rfl).1 8).trans ((fu_2 193 rfl).1 8))) (show u_34.1 193 9 = S.1 193 9 from ((fu_34 193 rfl).1 9).trans (((fu_8 193 rfl).1 9).trans ((fu_2 193 rfl).1 9))) (show u_34.2.1 194 = S.2.1 194 from funext fun x => ((fu_34 194 rfl).2.1 x).trans (((fu_8 194 rfl).2.1 x).trans ((fu_2 194 rfl).2.1 x))))⟩⟩⟩)⟩⟩ dX1_pairTree_77
    · refine lv_aload_n hx hb dX1_pairTree_26 rfl (lv_at hl 0 rfl) ?_
      refine g_X1_69 Cx hW (k := 188) (by decide) rfl (v := .ref (G.2.2.1 + o)) ((((fu_8 188 rfl).2.2.2 15).trans ((fu_2 188 rfl).2.2.2 15)).trans hmr) dX1_pairTree_27 ?_
      have q_44 : 0 ≤ S.1 o 2 ∧ S.1 o 2 ≤ 12 := hI.fi o 2 3 (mdl_k hm) hm.1
      have lk_45 : u_8.1 o 2 = S.1 o 2 := ((fu_8 o (mo_pTq hm).1).1 2).trans ((fu_2 o (mo_pRg_213 hm).1).1 2)
      refine sBi (sV (As := []) (rest := []) (k := o) Cx (b_X3_isAllWhole l G u_8 (o := o) iu_8 hm) (c_X1_222 Cx rfl rfl (rmk_ok (by omega) (by decide))) hW (mdl_l hm) hm.1 rfl rfl hl.1 rfl (Nat.le_of_ble_eq_true rfl) dX1_pairTree_30 ⟨Nat.le_of_ble_eq_true rfl, Nat.le_of_ble_eq_true rfl⟩) hL (fun r_48 u_46 H locs k_47 hW hL => ?_)
      obtain ⟨eu_46, xu_46⟩ := k_47
      rw [eu_46] at hW
      have hall : r_48 = 1 ↔ wct wh n.toNat = n := by have y := (show _ ↔ _ from xu_46.2.2); have M := (MDv.of hMD (show u_8.1 o 2 = S.1 o 2 from ((fu_8 o (mo_pTq hm).1).1 2).trans ((fu_2 o (mo_pRg_213 hm).1).1 2)) (show u_8.1 o 3 = S.1 o 3 from ((fu_8 o (mo_pTq hm).1).1 3).trans ((fu_2 o (mo_pRg_213 hm).1).1 3)) (show u_8.1 o 4 = S.1 o 4 from ((fu_8 o (mo_pTq hm).1).1 4).trans ((fu_2 o (mo_pRg_213 hm).1).1 4)) (show u_8.2.1 (o + 1) = S.2.1 (o + 1) from funext fun x => ((fu_8 (o + 1) (mo_pTq hm).2.1).2.1 x).trans ((fu_2 (o + 1) (mo_pRg_213 hm).2.1).2.1 x)) (show u_8.2.1 (o + 2) = S.2.1 (o + 2) from funext fun x => ((fu_8 (o + 2) (mo_pTq hm).2.2).2.1 x).trans ((fu_2 (o + 2) (mo_pRg_213 hm).2.2).2.1 x))); rw [M.1, wct_cg n.toNat (fun j a b => M.2.2.2.2 j a (by omega))] at y; exact y
      have hall : Hd _ := hall
      refine r_if_ne (tgt := 38) hx hb ⟨(by omega), (by omega)⟩ dX1_pairTree_33 (by decide) (fun c_49 => ?_) (fun c_49 => ?_)
      · refine lv_aload_n hx hb dX1_pairTree_38 rfl (lv_at hl 0 rfl) ?_
        refine g_X1_21 Cx hW (k := 188) (by decide) rfl (v := .ref (G.2.2.1 + 193)) (rf_188_1 iu_8) dX1_pairTree_39 ?_
        refine lv_aload_n hx hb dX1_pairTree_42 rfl (lv_at hl 0 rfl) ?_
        refine g_X1_39 Cx hW (k := 188) (by decide) rfl (v := .ref (G.2.2.1 + 213)) (rf_188_5 iu_8) dX1_pairTree_43 ?_
        have q_50 : 0 ≤ u_2.1 213 1 ∧ u_2.1 213 1 ≤ 32 := iu_2.fi 213 1 0 (by decide) rfl
        have lk_51 : u_8.1 213 1 = u_2.1 213 1 := (fu_8 213 rfl).1 1
        have q_52 : (-1) ≤ u_2.1 213 2 ∧ u_2.1 213 2 ≤ 1 := iu_2.fi 213 2 0 (by decide) rfl
        have lk_53 : u_8.1 213 2 = u_2.1 213 2 := (fu_8 213 rfl).1 2
        refine sBi (sV (As := [.ref (G.2.2.1 + 213)]) (rest := []) (k := 193) Cx (b_X6_addCut_193 l G u_8 (n := n) (cc := cc) (RR := RR) (ff := ff1) iu_8 (by omega) (RWv.of hR (show u_8.1 193 8 = S.1 193 8 from ((fu_8 193 rfl).1 8).trans ((fu_2 193 rfl).1 8)) (show u_8.1 193 9 = S.1 193 9 from ((fu_8 193 rfl).1 9).trans ((fu_2 193 rfl).1 9)) (show u_8.2.1 194 = S.2.1 194 from funext fun x => ((fu_8 194 rfl).2.1 x).trans ((fu_2 194 rfl).2.1 x))) hFC (show Hd (bs u_8 213) from (bs_fr fu_8 rfl xu_2.2.2.2.2.2)) (by omega)) (c_X1_225 Cx rfl rfl (rmk_ok (by omega) (by decide))) hW (by decide) rfl rfl rfl hl.1 rfl (Nat.le_of_ble_eq_true rfl) dX1_pairTree_46 ⟨Nat.le_of_ble_eq_true rfl, Nat.le_of_ble_eq_true rfl⟩) hL (fun r_56 u_54 H locs k_55 hW hL => ?_)
        obtain ⟨iu_54, fu_54, xu_54⟩ := k_55
        have F_57 := F_11.trans (fu_54.to pRw_PT)
        have hq0a := (show _ → _ from xu_54.2.2.1)
        have hq1a := (show _ → _ from xu_54.2.2.2)
        rw [(show bv u_8 213 = vp (S.1 189 3) from (bv_fr fu_8 rfl rfl).trans (bv_5))] at hq0a hq1a
        have hcut0 : Hd _ := hq0a; have hcut1 : Hd _ := hq1a; clear hq0a hq1a
        have cr_58 : CQ G T kp vp u_54 := cr_12.fr fu_54 rfl rfl rfl rfl
        refine r_if_eq (tgt := 56) hx hb ⟨(by omega), (by omega)⟩ dX1_pairTree_49 (by decide) (fun c_59 => ?_) (fun c_59 => ?_)
        · have hncut : Hd (40 ≤ cc ∨ lgx n cc RR ff1 (vp (S.1 189 3))) := hcut1 (by omega)
          refine lv_bipush (v := iv 6) hx hb dX1_pairTree_56 (by decide) ?_
          have q_60 : 0 ≤ u_8.1 189 3 ∧ u_8.1 189 3 ≤ 1000000000 := iu_8.fi 189 3 4 (by decide) rfl
          have lk_61 : u_54.1 189 3 = u_8.1 189 3 := (fu_54 189 rfl).1 3
          exact sIret Cx hr hlk hW hL ⟨iu_54, F_57, ⟨cr_58, (by omega), (by omega), (fun q => absurd (hprs.symm.trans q) (by intro z; cases z)), (fun ff e q => by obtain ⟨rfl, rfl⟩ := Prod.mk.inj (Option.some.inj (hprs.symm.trans q)); exact ⟨fun _ => ⟨fun z => absurd (hall.mp (by omega)) z, fun _ => ⟨fun _ => rfl, fun z => absurd hncut z⟩⟩, fun z => absurd (by omega) z⟩)⟩⟩ dX1_pairTree_58
        · have hcut : Hd _ := hcut0 (by omega)
          have hcut9 := hcut.1
          refine lv_iconst (v := iv 0) hx hb dX1_pairTree_52 (by decide) ?_
          refine lv_goto (tgt := 58) hx hb dX1_pairTree_53 (by decide) ?_
          have q_62 : 0 ≤ u_8.1 189 3 ∧ u_8.1 189 3 ≤ 1000000000 := iu_8.fi 189 3 4 (by decide) rfl
          have lk_63 : u_54.1 189 3 = u_8.1 189 3 := (fu_54 189 rfl).1 3
          exact sIret Cx hr hlk hW hL ⟨iu_54, F_57, ⟨cr_58, (by omega), (by omega), (fun q => absurd (hprs.symm.trans q) (by intro z; cases z)), (fun ff e q => by obtain ⟨rfl, rfl⟩ := Prod.mk.inj (Option.some.inj (hprs.symm.trans q)); exact ⟨fun _ => ⟨fun z => absurd (hall.mp (by omega)) z, fun _ => ⟨fun z => by exfalso; have y := hcut; rcases z with z | ⟨j, a, b, d⟩; (omega); (exact y.2.2 j a b d), fun _ => ⟨rfl, by omega, hcut.2.1⟩⟩⟩, fun z => absurd (by omega) z⟩)⟩⟩ dX1_pairTree_58
      · refine lv_iconst (v := iv 4) hx hb dX1_pairTree_36 (by decide) ?_
        have q_64 : 0 ≤ u_8.1 189 3 ∧ u_8.1 189 3 ≤ 1000000000 := iu_8.fi 189 3 4 (by decide) rfl
        exact sIret Cx hr hlk hW hL ⟨iu_8, F_11, ⟨cr_12, (by omega), (by omega), (fun q => absurd (hprs.symm.trans q) (by intro z; cases z)), (fun ff e q => by obtain ⟨rfl, rfl⟩ := Prod.mk.inj (Option.some.inj (hprs.symm.trans q)); exact ⟨fun _ => ⟨fun _ => rfl, fun z => absurd (hall.mpr z) (by omega)⟩, fun z => absurd (by omega) z⟩)⟩⟩ dX1_pairTree_37
  · refine lv_iconst (v := iv 4) hx hb dX1_pairTree_18 (by decide) ?_
    have q_65 : 0 ≤ u_8.1 189 3 ∧ u_8.1 189 3 ≤ 1000000000 := iu_8.fi 189 3 4 (by decide) rfl
    exact sIret Cx hr hlk hW hL ⟨iu_8, F_11, ⟨cr_12, (by omega), (by omega), (fun _ => rfl), (fun ff e q => by have z := (show _ → _ from xu_8.2.2.2.2) (by omega); rw [show u_2.1 189 3 = S.1 189 3 + 1 by omega] at z; rw [z] at q; cases q)⟩⟩ dX1_pairTree_19
