/-! The fault of a PROOF -/
theorem gPn.pt {kp vp : Int → Int} {n a t : Int} (h : gPn kp vp n t) (e : t = a + 1) : gPt kp vp n a := by
  obtain ⟨h1, h2, h3⟩ := h
  subst e
  refine ⟨fun j a1 a2 => ?_, ?_, ?_⟩
  · have z := h1 (j - 1) (by omega) (by omega)
    rw [show a + 1 + (j - 1) = a + j by omega] at z; exact z
  · have z := h3.1; rw [show a + 1 + n + 1 = a + n + 2 by omega] at z; exact z
  · have z := h3.2; rw [show a + 1 + n + 1 = a + n + 2 by omega] at z; exact z
section
variable {kp vp : Int → Int} {n : Int}
theorem isP.k (h : isP kp vp n) : kp 0 = 7 ∨ kp 0 = 8 ∨ kp 0 = 9 := by
  rcases h with h | h | h
  · exact .inl h.1
  · exact .inr (.inl h.1)
  · exact .inr (.inr h.1)
theorem isP.o (h : isP kp vp n) (k : kp 0 = 7) : ((kp 1 = 2 ∧ kp 3 = 2) ∧ 0 < vp 3) ∧ gPt kp vp n 4 ∧ ∃ f e, gTr kp vp f (n + 7) (0 + 1) = some e := by
  rcases h with h | h | h
  · obtain ⟨_, h1, _, h3, _, h5, e, h6, _⟩ := h
    exact ⟨⟨⟨h1, h3.1⟩, h3.2⟩, h5.pt rfl, 30001, e, h6⟩
  · have := h.1; omega
  · have := h.1; omega
theorem isP.i (h : isP kp vp n) (k : kp 0 = 8) : ∃ f e, gTr kp vp f 1 (0 + 1) = some e := by
  rcases h with h | h | h
  · have := h.1; omega
  · obtain ⟨_, e, h6, _⟩ := h; exact ⟨30001, e, h6⟩
  · have := h.1; omega
theorem isP.u (h : isP kp vp n) (k : kp 0 = 9) : gPt kp vp n 1 ∧ gPt kp vp n (n + 4) := by
  rcases h with h | h | h
  · have := h.1; omega
  · have := h.1; omega
  · obtain ⟨_, _, h2, _, h4, _⟩ := h; exact ⟨h2.pt rfl, h4.pt (by omega)⟩
end
/-- the answer of a check: model n, m, mx, A, wh; tokens kp, vp -/
def HOLD (n m mx : Int) (A : Int → Int → Int) (wh kp vp : Int → Int) (r : Int) : Prop := (¬ isP kp vp n → r = 1) ∧ (isP kp vp n →
    (kp 0 = 9 → (¬ okP n m A wh (ptf vp n 1) 0 → r = 2) ∧ (okP n m A wh (ptf vp n 1) 0 → (¬ okL n m A (ptf vp n (n + 4)) → r = 5) ∧ (okL n m A (ptf vp n (n + 4)) → r = 0))) ∧
    (kp 0 = 7 → (¬ okV n A (ptf vp n 4) (vtf mx (vp 1)) (vp 3) → r = 3) ∧ (okV n A (ptf vp n 4) (vtf mx (vp 1)) (vp 3) → (¬ okP n m A wh (ptf vp n 4) 1 → r = 2) ∧ (okP n m A wh (ptf vp n 4) 1 → HT n (wct wh n.toNat) wh 1 (vtf mx (vp 1)) (vp 3) kp vp 3000 (n + 7) m A 0 (fun _ => 0) (fun _ => 0) (fun _ => 0) r))) ∧
    (kp 0 = 8 → HT n (wct wh n.toNat) wh 0 0 0 kp vp 3000 1 m A 0 (fun _ => 0) (fun _ => 0) (fun _ => 0) r))
theorem HOLD.one {n m mx : Int} {A : Int → Int → Int} {wh kp vp : Int → Int} {r s : Int} (h : HOLD n m mx A wh kp vp r) (g : HOLD n m mx A wh kp vp s) : r = s := by
  by_cases p : isP kp vp n
  · have h := h.2 p; have g := g.2 p
    rcases p.k with k | k | k
    · have h := h.2.1 k; have g := g.2.1 k
      by_cases a : okV n A (ptf vp n 4) (vtf mx (vp 1)) (vp 3)
      · have h := h.2 a; have g := g.2 a
        by_cases b : okP n m A wh (ptf vp n 4) 1
        · exact HT.one _ _ _ _ _ _ _ _ _ _ (h.2 b) (g.2 b)
        · rw [h.1 b, g.1 b]
      · rw [h.1 a, g.1 a]
    · exact HT.one _ _ _ _ _ _ _ _ _ _ (h.2.2 k) (g.2.2 k)
    · have h := h.1 k; have g := g.1 k
      by_cases a : okP n m A wh (ptf vp n 1) 0
      · have h := h.2 a; have g := g.2 a
        by_cases b : okL n m A (ptf vp n (n + 4))
        · rw [h.2 b, g.2 b]
        · rw [h.1 b, g.1 b]
      · rw [h.1 a, g.1 a]
  · rw [h.1 p, g.1 p]
/-- the same, of a text -/
def HOLDB (n m mx : Int) (A : Int → Int → Int) (wh : Int → Int) (B : Int → Int) (len r : Int) : Prop := ∃ T kp vp, TQp B len T kp vp ∧ HOLD n m mx A wh kp vp r
theorem HOLDB.one {n m mx : Int} {A : Int → Int → Int} {wh B : Int → Int} {len r s : Int} (h : HOLDB n m mx A wh B len r) (g : HOLDB n m mx A wh B len s) : r = s := by
  obtain ⟨T, kp, vp, t, h⟩ := h; obtain ⟨T', kp', vp', t', g⟩ := g
  obtain ⟨_, e1, e2⟩ := t.one t'
  subst e1; subst e2
  exact h.one g
theorem RWv.md {S u : sS} {o : Nat} {n m mx : Int} {A : Int → Int → Int} {wh : Int → Int} (h : RWv u (S.1 o 2) (S.1 o 3) (fun k j => S.2.1 (o + 1) (k * 13 + j))) (g : MDv S o n m mx A wh) : RWv u n m A := by
  obtain ⟨g1, g2, _, g4, _⟩ := g
  rw [g1, g2] at h
  exact ⟨h.1, h.2.1, fun k j a b c d => (h.2.2 k j a b c d).trans (g4 k j a b c d)⟩
theorem HT.cg {n W : Int} {wh : Int → Int} {hv vt vb : Int} {kp vp : Int → Int} {f : Nat} {t t' c : Int} {R : Int → Int → Int} {w : Int} {wr wk wv : Int → Int} {r r' : Int} (h : HT n W wh hv vt vb kp vp f t c R w wr wk wv r) (e : t = t') (e2 : r = r') : HT n W wh hv vt vb kp vp f t' c R w wr wk wv r' := by subst e; subst e2; exact h
theorem mo_p1_189 {o : Nat} (m : mdl o) : p1 189 o = false ∧ p1 189 (o + 1) = false ∧ p1 189 (o + 2) = false := by
  have a : ∀ o, o < 231 → tau o = .inl 3 → p1 189 o = false ∧ p1 189 (o + 1) = false ∧ p1 189 (o + 2) = false := by decide +kernel
  exact a o (mdl_k m) m.1
theorem mo_p1_188 {o : Nat} (m : mdl o) : p1 188 o = false ∧ p1 188 (o + 1) = false ∧ p1 188 (o + 2) = false := by
  have a : ∀ o, o < 231 → tau o = .inl 3 → p1 188 o = false ∧ p1 188 (o + 1) = false ∧ p1 188 (o + 2) = false := by decide +kernel
  exact a o (mdl_k m) m.1
set_option maxRecDepth 100000 in
set_option maxHeartbeats 4000000 in
theorem b0_X1_pairTree (l : Launch) (G : sG) (S : sS) {wd hv : Int} {T : Int} {kp vp : Int → Int} {o : Nat} {n mm mx : Int} {A : Int → Int → Int} {wh : Int → Int} {cc : Int} {RR : Int → Int → Int} {vt vb : Int} (hI : cX G S 0 0 0) (hwd : -2147483648 ≤ wd ∧ wd ≤ 2147483647) (hhv : hv = 0) (hCR : CQ G T kp vp S) (hat : S.1 189 3 ≤ 999800000) (hm : mdl o) (hmr : S.2.2.2 188 15 = .ref (G.2.2.1 + o)) (hMD : Hd (MDv S o n mm mx A wh)) (hR : Hd (RWv S n cc RR)) (hc4 : 0 ≤ cc ∧ cc ≤ 40) (hKT : Hd (KT T kp)) (hRA : Hd (∀ j, 0 ≤ j → j ≤ n → RR 0 j = A 0 j)) (hkq : (kp (S.1 189 3) = 2 ∧ S.1 189 3 < T) ∧ 0 < vp (S.1 189 3)) (hgp : Hd (∃ e, gPr kp 30001 (S.1 189 3 + 1) = some e)) : Met l yX1_pairTree (.code yX1_pairTree cX1_pairTree 3 (some .int) :: tb) (rmk 6 0 0) (sPc G 294 S [.ref (G.2.2.1 + 188), .int (iv wd), .int (iv hv)]) (sQi G 294 (fun r u => cX G u 0 0 0 ∧ Fr S u pPT ∧ (CQ G T kp vp u ∧ 0 ≤ r ∧ r ≤ 6 ∧ Hd (prs cc kp vp 30001 (S.1 189 3 + 1) 0 (fun _ => 0) = none → r = 4) ∧ Hd (∀ ff e, prs cc kp vp 30001 (S.1 189 3 + 1) 0 (fun _ => 0) = some (ff, e) → (wd = 13 → (wct wh n.toNat ≠ n → r = 4) ∧ (wct wh n.toNat = n → ((40 ≤ cc ∨ lgx n cc RR ff (vp (S.1 189 3))) → r = 6) ∧ (¬ (40 ≤ cc ∨ lgx n cc RR ff (vp (S.1 189 3))) → r = 0 ∧ u.1 189 3 = e ∧ RWv u n (cc + 1) (upR RR (cc + 1) (fun j => smf ff RR j cc.toNat / vp (S.1 189 3)))))) ∧ (wd ≠ 13 → (¬ leaf n cc RR wh ff wd hv (vp (S.1 189 3)) vt vb → r = 4) ∧ (leaf n cc RR wh ff wd hv (vp (S.1 189 3)) vt vb → r = 0 ∧ u.1 189 3 = e ∧ RWv u n cc RR)))))) 0 0 (sF G) := by
  refine sEnter (by decide) (Nat.le_of_ble_eq_true rfl) ?_
  intro p e s m args below meth c Cx hr hlk hnm hW ls hl
  have Cx : sC G p m c cX1_pairTree 3 s args RX1 := Cx
  obtain ⟨hx, hb, hml, hown, hts⟩ := id Cx.1
  have hL : sL G [] := sL_nil
  have hl : lv_has ls 3 [(0, .ref (G.2.2.1 + 188)), (1, .int (iv wd)), (2, .int (iv hv))] := hl
  have hW0 := hW
  have hMn := hMD.1; have hMm := hMD.2.1; have hMx := hMD.2.2.1; have hn12 : 0 ≤ S.1 o 2 ∧ S.1 o 2 ≤ 12 := hI.fi o 2 3 (mdl_k hm) hm.1; have hm16 : 0 ≤ S.1 o 3 ∧ S.1 o 3 ≤ 16 := hI.fi o 3 3 (mdl_k hm) hm.1
  have hat0 : 0 ≤ S.1 189 3 ∧ S.1 189 3 ≤ 1000000000 := hI.fi 189 3 4 (by decide) rfl
  have hRc := hR.2.1; have hRn := hR.1
  refine lv_aload_n hx hb dX1_pairTree_0 rfl (lv_at hl 0 rfl) ?_
  refine g_X1_12 Cx hW (k := 188) (by decide) rfl (v := .ref (G.2.2.1 + 189)) (rf_188_0 hI) dX1_pairTree_1 ?_
  refine lv_aload_n hx hb dX1_pairTree_4 rfl (lv_at hl 0 rfl) ?_
  refine g_X1_39 Cx hW (k := 188) (by decide) rfl (v := .ref (G.2.2.1 + 213)) (rf_188_5 hI) dX1_pairTree_5 ?_
  have q_1 : 0 ≤ S.1 189 3 ∧ S.1 189 3 ≤ 1000000000 := hI.fi 189 3 4 (by decide) rfl
  refine sBv (sV (As := [.ref (G.2.2.1 + 213)]) (rest := []) (k := 189) Cx (b_X4_takeNumber_213 l G S (T := T) (kp := kp) (vp := vp) hI hCR (by omega) ⟨hkq.1.2, hkq.1.1⟩) (c_X1_126 Cx rfl rfl (rmk_ok (by omega) (by decide))) hW (by decide) rfl rfl rfl hl.1 rfl (Nat.le_of_ble_eq_true rfl) dX1_pairTree_8 ⟨Nat.le_of_ble_eq_true rfl, Nat.le_of_ble_eq_true rfl⟩) hL (fun u_2 H locs k_3 hW hL => ?_)
  obtain ⟨iu_2, fu_2, xu_2⟩ := k_3
  have F_4 := (Fr.rf : Fr S S pPT).trans (fu_2.to (pRg_sub rfl rfl rfl))
  have bv_5 : bv u_2 213 = vp (S.1 189 3) := (show bv u_2 213 = vp _ from xu_2.2.2.2.2.1).trans (congrArg vp (by omega))
  have sq8 := bsg iu_2 (o := 213) rfl (show Hd (bs u_2 213) from xu_2.2.2.2.2.2)
  rw [(show bv u_2 213 = vp (S.1 189 3) from bv_5)] at sq8
  have cr_6 : CQ G T kp vp u_2 := xu_2.1
  refine lv_aload_n hx hb dX1_pairTree_11 rfl (lv_at hl 0 rfl) ?_
  have q_7 : 0 ≤ u_2.1 189 3 ∧ u_2.1 189 3 ≤ 1000000000 := iu_2.fi 189 3 4 (by decide) rfl
  refine sBi (sV (As := []) (rest := []) (k := 188) Cx (b_X1_takePairs l G u_2 (o := o) (n := n) (mm := mm) (mx := mx) (A := A) (wh := wh) (T := T) (kp := kp) (vp := vp) (cc := cc) (RR := RR) iu_2 cr_6 (by omega) hm (((fu_2 188 rfl).2.2.2 15).trans hmr) (MDv.of hMD (show u_2.1 o 2 = S.1 o 2 from (fu_2 o (mo_pRg_213 hm).1).1 2) (show u_2.1 o 3 = S.1 o 3 from (fu_2 o (mo_pRg_213 hm).1).1 3) (show u_2.1 o 4 = S.1 o 4 from (fu_2 o (mo_pRg_213 hm).1).1 4) (show u_2.2.1 (o + 1) = S.2.1 (o + 1) from funext fun x => (fu_2 (o + 1) (mo_pRg_213 hm).2.1).2.1 x) (show u_2.2.1 (o + 2) = S.2.1 (o + 2) from funext fun x => (fu_2 (o + 2) (mo_pRg_213 hm).2.2).2.1 x)) (RWv.of hR (show u_2.1 193 8 = S.1 193 8 from (fu_2 193 rfl).1 8) (show u_2.1 193 9 = S.1 193 9 from (fu_2 193 rfl).1 9) (show u_2.2.1 194 = S.2.1 194 from funext fun x => (fu_2 194 rfl).2.1 x)) (by omega) hKT (by rw [show u_2.1 189 3 = S.1 189 3 + 1 by omega]; exact hgp)) (c_X1_219 Cx rfl rfl (rmk_ok (by omega) (by decide))) hW (by decide) rfl rfl rfl hl.1 rfl (Nat.le_of_ble_eq_true rfl) dX1_pairTree_12 ⟨Nat.le_of_ble_eq_true rfl, Nat.le_of_ble_eq_true rfl⟩) hL (fun r_10 u_8 H locs k_9 hW hL => ?_)
  obtain ⟨iu_8, fu_8, xu_8⟩ := k_9
  have F_11 := F_4.trans (fu_8.to pTq_PT)
  have cr_12 : CQ G T kp vp u_8 := xu_8.1
  refine r_if_ne (tgt := 20) hx hb ⟨(by omega), (by omega)⟩ dX1_pairTree_15 (by decide) (fun c_13 => ?_) (fun c_13 => ?_)
  · obtain ⟨ff1, e1, hprs, hFC, hate⟩ := (show _ → _ from xu_8.2.2.2.1) (by omega)
    rw [show u_2.1 189 3 = S.1 189 3 + 1 by omega] at hprs
    refine lv_iload_n hx hb dX1_pairTree_20 rfl (lv_at hl 1 rfl) ?_
    refine lv_bipush (v := iv 13) hx hb dX1_pairTree_21 (by decide) ?_
    refine r_icmp_ne (tgt := 59) hx hb ⟨(by omega), (by omega)⟩ ⟨(by omega), (by omega)⟩ dX1_pairTree_23 (by decide) (fun c_14 => ?_) (fun c_14 => ?_)
    · refine lv_iload_n hx hb dX1_pairTree_59 rfl (lv_at hl 1 rfl) ?_
      refine lv_bipush (v := iv 15) hx hb dX1_pairTree_60 (by decide) ?_
      refine r_icmp_ne (tgt := 78) hx hb ⟨(by omega), (by omega)⟩ ⟨(by omega), (by omega)⟩ dX1_pairTree_62 (by decide) (fun c_15 => ?_) (fun c_15 => ?_)
      · refine lv_iload_n hx hb dX1_pairTree_78 rfl (lv_at hl 2 rfl) ?_
        refine r_if_eq (tgt := 93) hx hb ⟨(by omega), (by omega)⟩ dX1_pairTree_79 (by decide) (fun c_16 => ?_) (fun c_16 => ?_)
        · refine lv_iconst (v := iv 4) hx hb dX1_pairTree_93 (by decide) ?_
          have q_17 : 0 ≤ u_8.1 189 3 ∧ u_8.1 189 3 ≤ 1000000000 := iu_8.fi 189 3 4 (by decide) rfl
          exact sIret Cx hr hlk hW hL ⟨iu_8, F_11, ⟨cr_12, (by omega), (by omega), (fun q => absurd (hprs.symm.trans q) (by intro z; cases z)), (fun ff e q => by obtain ⟨rfl, rfl⟩ := Prod.mk.inj (Option.some.inj (hprs.symm.trans q)); exact ⟨fun z => absurd z (by omega), fun _ => ⟨fun _ => rfl, fun z => False.elim (by rcases z with z | z; (exact absurd z.1 (by omega)); (exact absurd z.2.1 (by omega)))⟩⟩)⟩⟩ dX1_pairTree_94
        · exfalso; omega
      · refine lv_aload_n hx hb dX1_pairTree_65 rfl (lv_at hl 0 rfl) ?_
        refine sBi (sV (As := []) (rest := []) (k := 188) Cx (b_X1_isFarkas l G u_8 (o := o) (n := n) (mm := mm) (mx := mx) (A := A) (wh := wh) (cc := cc) (RR := RR) (ff := ff1) iu_8 hm ((((fu_8 188 rfl).2.2.2 15).trans ((fu_2 188 rfl).2.2.2 15)).trans hmr) (MDv.of hMD (show u_8.1 o 2 = S.1 o 2 from ((fu_8 o (mo_pTq hm).1).1 2).trans ((fu_2 o (mo_pRg_213 hm).1).1 2)) (show u_8.1 o 3 = S.1 o 3 from ((fu_8 o (mo_pTq hm).1).1 3).trans ((fu_2 o (mo_pRg_213 hm).1).1 3)) (show u_8.1 o 4 = S.1 o 4 from ((fu_8 o (mo_pTq hm).1).1 4).trans ((fu_2 o (mo_pRg_213 hm).1).1 4)) (show u_8.2.1 (o + 1) = S.2.1 (o + 1) from funext fun x => ((fu_8 (o + 1) (mo_pTq hm).2.1).2.1 x).trans ((fu_2 (o + 1) (mo_pRg_213 hm).2.1).2.1 x)) (show u_8.2.1 (o + 2) = S.2.1 (o + 2) from funext fun x => ((fu_8 (o + 2) (mo_pTq hm).2.2).2.1 x).trans ((fu_2 (o + 2) (mo_pRg_213 hm).2.2).2.1 x))) (RWv.of hR (show u_8.1 193 8 = S.1 193 8 from ((fu_8 193 rfl).1 8).trans ((fu_2 193 rfl).1 8)) (show u_8.1 193 9 = S.1 193 9 from ((fu_8 193 rfl).1 9).trans ((fu_2 193 rfl).1 9)) (show u_8.2.1 194 = S.2.1 194 from funext fun x => ((fu_8 194 rfl).2.1 x).trans ((fu_2 194 rfl).2.1 x))) hFC (by omega)) (c_X1_229 Cx rfl rfl (rmk_ok (by omega) (by decide))) hW (by decide) rfl rfl rfl hl.1 rfl (Nat.le_of_ble_eq_true rfl) dX1_pairTree_66 ⟨Nat.le_of_ble_eq_true rfl, Nat.le_of_ble_eq_true rfl⟩) hL (fun r_20 u_18 H locs k_19 hW hL => ?_)
        obtain ⟨iu_18, fu_18, xu_18⟩ := k_19
        have F_21 := F_11.trans (fu_18.to pFk_PT)
        have hfk := (show _ ↔ _ from xu_18.2.2)
        have hfk : Hd _ := hfk
        have cr_22 : CQ G T kp vp u_18 := cr_12.fr fu_18 rfl rfl rfl rfl
        refine r_if_eq (tgt := 76) hx hb ⟨(by omega), (by omega)⟩ dX1_pairTree_69 (by decide) (fun c_23 => ?_) (fun c_23 => ?_)
        · refine lv_iconst (v := iv 4) hx hb dX1_pairTree_76 (by decide) ?_
          have q_24 : 0 ≤ u_8.1 189 3 ∧ u_8.1 189 3 ≤ 1000000000 := iu_8.fi 189 3 4 (by decide) rfl
          have lk_25 : u_18.1 189 3 = u_8.1 189 3 := (fu_18 189 rfl).1 3
          exact sIret Cx hr hlk hW hL ⟨iu_18, F_21, ⟨cr_22, (by omega), (by omega), (fun q => absurd (hprs.symm.trans q) (by intro z; cases z)), (fun ff e q => by obtain ⟨rfl, rfl⟩ := Prod.mk.inj (Option.some.inj (hprs.symm.trans q)); exact ⟨fun z => absurd z (by omega), fun _ => ⟨fun _ => rfl, fun z => False.elim (by rcases z with z | z; (exact absurd (hfk.mpr z.2) (by omega)); (exact absurd (by omega) z.1))⟩⟩)⟩⟩ dX1_pairTree_77
        · refine lv_iconst (v := iv 0) hx hb dX1_pairTree_72 (by decide) ?_
          refine lv_goto (tgt := 77) hx hb dX1_pairTree_73 (by decide) ?_
          have q_26 : 0 ≤ u_8.1 189 3 ∧ u_8.1 189 3 ≤ 1000000000 := iu_8.fi 189 3 4 (by decide) rfl
          have lk_27 : u_18.1 189 3 = u_8.1 189 3 := (fu_18 189 rfl).1 3
          exact sIret Cx hr hlk hW hL ⟨iu_18, F_21, ⟨cr_22, (by omega), (by omega), (fun q => absurd (hprs.symm.trans q) (by intro z; cases z)), (fun ff e q => by obtain ⟨rfl, rfl⟩ := Prod.mk.inj (Option.some.inj (hprs.symm.trans q)); exact ⟨fun z => absurd z (by omega), fun _ => ⟨fun z => absurd (.inl ⟨by omega, hfk.mp (by omega)⟩) z, fun _ => ⟨rfl, by omega, (RWv.of hR (show u_18.1 193 8 = S.1 193 8 from ((fu_18 193 rfl).1 8).trans (((fu_8 193 rfl).1 8).trans ((fu_2 193 rfl).1 8))) (show u_18.1 193 9 = S.1 193 9 from ((fu_18 193 rfl).1 9).trans (((fu_8 193 rfl).1 9).trans ((fu_2 193 rfl).1 9))) (show u_18.2.1 194 = S.2.1 194 from funext fun x => ((fu_18 194 rfl).2.1 x).trans (((fu_8 194 rfl).2.1 x).trans ((fu_2 194 rfl).2.1 x))))⟩⟩⟩)⟩⟩ dX1_pairTree_77
    · refine lv_aload_n hx hb dX1_pairTree_26 rfl (lv_at hl 0 rfl) ?_
      refine g_X1_69 Cx hW (k := 188) (by decide) rfl (v := .ref (G.2.2.1 + o)) ((((fu_8 188 rfl).2.2.2 15).trans ((fu_2 188 rfl).2.2.2 15)).trans hmr) dX1_pairTree_27 ?_
      have q_28 : 0 ≤ S.1 o 2 ∧ S.1 o 2 ≤ 12 := hI.fi o 2 3 (mdl_k hm) hm.1
      have lk_29 : u_8.1 o 2 = S.1 o 2 := ((fu_8 o (mo_pTq hm).1).1 2).trans ((fu_2 o (mo_pRg_213 hm).1).1 2)
      refine sBi (sV (As := []) (rest := []) (k := o) Cx (b_X3_isAllWhole l G u_8 (o := o) iu_8 hm) (c_X1_222 Cx rfl rfl (rmk_ok (by omega) (by decide))) hW (mdl_l hm) hm.1 rfl rfl hl.1 rfl (Nat.le_of_ble_eq_true rfl) dX1_pairTree_30 ⟨Nat.le_of_ble_eq_true rfl, Nat.le_of_ble_eq_true rfl⟩) hL (fun r_32 u_30 H locs k_31 hW hL => ?_)
      obtain ⟨eu_30, xu_30⟩ := k_31
      rw [eu_30] at hW
      have hall : r_32 = 1 ↔ wct wh n.toNat = n := by have y := (show _ ↔ _ from xu_30.2.2); have M := (MDv.of hMD (show u_8.1 o 2 = S.1 o 2 from ((fu_8 o (mo_pTq hm).1).1 2).trans ((fu_2 o (mo_pRg_213 hm).1).1 2)) (show u_8.1 o 3 = S.1 o 3 from ((fu_8 o (mo_pTq hm).1).1 3).trans ((fu_2 o (mo_pRg_213 hm).1).1 3)) (show u_8.1 o 4 = S.1 o 4 from ((fu_8 o (mo_pTq hm).1).1 4).trans ((fu_2 o (mo_pRg_213 hm).1).1 4)) (show u_8.2.1 (o + 1) = S.2.1 (o + 1) from funext fun x => ((fu_8 (o + 1) (mo_pTq hm).2.1).2.1 x).trans ((fu_2 (o + 1) (mo_pRg_213 hm).2.1).2.1 x)) (show u_8.2.1 (o + 2) = S.2.1 (o + 2) from funext fun x => ((fu_8 (o + 2) (mo_pTq hm).2.2).2.1 x).trans ((fu_2 (o + 2) (mo_pRg_213 hm).2.2).2.1 x))); rw [M.1, wct_cg n.toNat (fun j a b => M.2.2.2.2 j a (by omega))] at y; exact y
      have hall : Hd _ := hall
      refine r_if_ne (tgt := 38) hx hb ⟨(by omega), (by omega)⟩ dX1_pairTree_33 (by decide) (fun c_33 => ?_) (fun c_33 => ?_)
      · refine lv_aload_n hx hb dX1_pairTree_38 rfl (lv_at hl 0 rfl) ?_
        refine g_X1_21 Cx hW (k := 188) (by decide) rfl (v := .ref (G.2.2.1 + 193)) (rf_188_1 iu_8) dX1_pairTree_39 ?_
        refine lv_aload_n hx hb dX1_pairTree_42 rfl (lv_at hl 0 rfl) ?_
        refine g_X1_39 Cx hW (k := 188) (by decide) rfl (v := .ref (G.2.2.1 + 213)) (rf_188_5 iu_8) dX1_pairTree_43 ?_
        have q_34 : 0 ≤ u_2.1 213 1 ∧ u_2.1 213 1 ≤ 32 := iu_2.fi 213 1 0 (by decide) rfl
        have lk_35 : u_8.1 213 1 = u_2.1 213 1 := (fu_8 213 rfl).1 1
        have q_36 : (-1) ≤ u_2.1 213 2 ∧ u_2.1 213 2 ≤ 1 := iu_2.fi 213 2 0 (by decide) rfl
        have lk_37 : u_8.1 213 2 = u_2.1 213 2 := (fu_8 213 rfl).1 2
        refine sBi (sV (As := [.ref (G.2.2.1 + 213)]) (rest := []) (k := 193) Cx (b_X6_addCut_193 l G u_8 (n := n) (cc := cc) (RR := RR) (ff := ff1) iu_8 (by omega) (RWv.of hR (show u_8.1 193 8 = S.1 193 8 from ((fu_8 193 rfl).1 8).trans ((fu_2 193 rfl).1 8)) (show u_8.1 193 9 = S.1 193 9 from ((fu_8 193 rfl).1 9).trans ((fu_2 193 rfl).1 9)) (show u_8.2.1 194 = S.2.1 194 from funext fun x => ((fu_8 194 rfl).2.1 x).trans ((fu_2 194 rfl).2.1 x))) hFC (show Hd (bs u_8 213) from (bs_fr fu_8 rfl xu_2.2.2.2.2.2)) (by omega)) (c_X1_225 Cx rfl rfl (rmk_ok (by omega) (by decide))) hW (by decide) rfl rfl rfl hl.1 rfl (Nat.le_of_ble_eq_true rfl) dX1_pairTree_46 ⟨Nat.le_of_ble_eq_true rfl, Nat.le_of_ble_eq_true rfl⟩) hL (fun r_40 u_38 H locs k_39 hW hL => ?_)
        obtain ⟨iu_38, fu_38, xu_38⟩ := k_39
        have F_41 := F_11.trans (fu_38.to pRw_PT)
        have hq0a := (show _ → _ from xu_38.2.2.1)
        have hq1a := (show _ → _ from xu_38.2.2.2)
        rw [(show bv u_8 213 = vp (S.1 189 3) from (bv_fr fu_8 rfl rfl).trans (bv_5))] at hq0a hq1a
        have hcut0 : Hd _ := hq0a; have hcut1 : Hd _ := hq1a; clear hq0a hq1a
        have cr_42 : CQ G T kp vp u_38 := cr_12.fr fu_38 rfl rfl rfl rfl
        refine r_if_eq (tgt := 56) hx hb ⟨(by omega), (by omega)⟩ dX1_pairTree_49 (by decide) (fun c_43 => ?_) (fun c_43 => ?_)
        · have hncut : Hd (40 ≤ cc ∨ lgx n cc RR ff1 (vp (S.1 189 3))) := hcut1 (by omega)
          refine lv_bipush (v := iv 6) hx hb dX1_pairTree_56 (by decide) ?_
          have q_44 : 0 ≤ u_8.1 189 3 ∧ u_8.1 189 3 ≤ 1000000000 := iu_8.fi 189 3 4 (by decide) rfl
          have lk_45 : u_38.1 189 3 = u_8.1 189 3 := (fu_38 189 rfl).1 3
          exact sIret Cx hr hlk hW hL ⟨iu_38, F_41, ⟨cr_42, (by omega), (by omega), (fun q => absurd (hprs.symm.trans q) (by intro z; cases z)), (fun ff e q => by obtain ⟨rfl, rfl⟩ := Prod.mk.inj (Option.some.inj (hprs.symm.trans q)); exact ⟨fun _ => ⟨fun z => absurd (hall.mp (by omega)) z, fun _ => ⟨fun _ => rfl, fun z => absurd hncut z⟩⟩, fun z => absurd (by omega) z⟩)⟩⟩ dX1_pairTree_58
        · have hcut : Hd _ := hcut0 (by omega)
          have hcut9 := hcut.1
          refine lv_iconst (v := iv 0) hx hb dX1_pairTree_52 (by decide) ?_
          refine lv_goto (tgt := 58) hx hb dX1_pairTree_53 (by decide) ?_
          have q_46 : 0 ≤ u_8.1 189 3 ∧ u_8.1 189 3 ≤ 1000000000 := iu_8.fi 189 3 4 (by decide) rfl
          have lk_47 : u_38.1 189 3 = u_8.1 189 3 := (fu_38 189 rfl).1 3
          exact sIret Cx hr hlk hW hL ⟨iu_38, F_41, ⟨cr_42, (by omega), (by omega), (fun q => absurd (hprs.symm.trans q) (by intro z; cases z)), (fun ff e q => by obtain ⟨rfl, rfl⟩ := Prod.mk.inj (Option.some.inj (hprs.symm.trans q)); exact ⟨fun _ => ⟨fun z => absurd (hall.mp (by omega)) z, fun _ => ⟨fun z => by exfalso; have y := hcut; rcases z with z | ⟨j, a, b, d⟩; (omega); (exact y.2.2 j a b d), fun _ => ⟨rfl, by omega, hcut.2.1⟩⟩⟩, fun z => absurd (by omega) z⟩)⟩⟩ dX1_pairTree_58
      · refine lv_iconst (v := iv 4) hx hb dX1_pairTree_36 (by decide) ?_
        have q_48 : 0 ≤ u_8.1 189 3 ∧ u_8.1 189 3 ≤ 1000000000 := iu_8.fi 189 3 4 (by decide) rfl
        exact sIret Cx hr hlk hW hL ⟨iu_8, F_11, ⟨cr_12, (by omega), (by omega), (fun q => absurd (hprs.symm.trans q) (by intro z; cases z)), (fun ff e q => by obtain ⟨rfl, rfl⟩ := Prod.mk.inj (Option.some.inj (hprs.symm.trans q)); exact ⟨fun _ => ⟨fun _ => rfl, fun z => absurd (hall.mpr z) (by omega)⟩, fun z => absurd (by omega) z⟩)⟩⟩ dX1_pairTree_37
  · refine lv_iconst (v := iv 4) hx hb dX1_pairTree_18 (by decide) ?_
    have q_49 : 0 ≤ u_8.1 189 3 ∧ u_8.1 189 3 ≤ 1000000000 := iu_8.fi 189 3 4 (by decide) rfl
    exact sIret Cx hr hlk hW hL ⟨iu_8, F_11, ⟨cr_12, (by omega), (by omega), (fun _ => rfl), (fun ff e q => by have z := (show _ → _ from xu_8.2.2.2.2) (by omega); rw [show u_2.1 189 3 = S.1 189 3 + 1 by omega] at z; rw [z] at q; cases q)⟩⟩ dX1_pairTree_19

set_option maxRecDepth 100000 in
set_option maxHeartbeats 4000000 in
theorem b0_X1_holdTrees (l : Launch) (G : sG) (S : sS) {hv : Int} {T : Int} {kp vp : Int → Int} {o : Nat} {n mm mx : Int} {A : Int → Int → Int} {wh : Int → Int} {cc : Int} {RR : Int → Int → Int} {w : Int} {wr wk wv : Int → Int} {vt vb : Int} (hI : cX G S 0 0 0) (hhv : hv = 0) (hCR : CQ G T kp vp S) (hTT : T ≤ 30001) (hm : mdl o) (hmr : S.2.2.2 188 15 = .ref (G.2.2.1 + o)) (hMD : Hd (MDv S o n mm mx A wh)) (hR : Hd (RWv S n cc RR)) (hWT : Hd (WTv S w wr wk wv)) (hKT : Hd (KT T kp)) (hRA : Hd (∀ j, 0 ≤ j → j ≤ n → RR 0 j = A 0 j)) (hwok : Hd (WOK n cc w wr wk)) (hgt : Hd (∃ f e, gTr kp vp f (S.1 189 3) (w + 1) = some e)) (hfk : S.1 188 16 = 0) : Met l yX1_holdTrees (.code yX1_holdTrees cX1_holdTrees 6 (some .boolean) :: tb) (rmk 7 0 0) (sPc G 294 S [.ref (G.2.2.1 + 188), .int (iv hv)]) (sQi G 294 (fun r u => cX G u 0 0 0 ∧ Fr S u pHT ∧ (CQ G T kp vp u ∧ (0 ≤ r ∧ r ≤ 1) ∧ Hd (HT n (wct wh n.toNat) wh hv vt vb kp vp 3000 (S.1 189 3) cc RR w wr wk wv (u.1 188 16))))) 0 0 (sF G) := by
  refine sEnter (by decide) (Nat.le_of_ble_eq_true rfl) ?_
  intro p e s m args below meth c Cx hr hlk hnm hW ls hl
  have Cx : sC G p m c cX1_holdTrees 6 s args RX1 := Cx
  obtain ⟨hx, hb, hml, hown, hts⟩ := id Cx.1
  have hL : sL G [] := sL_nil
  have hl : lv_has ls 6 [(0, .ref (G.2.2.1 + 188)), (1, .int (iv hv))] := hl
  have hW0 := hW
  have hMn := hMD.1; have hMm := hMD.2.1; have hMx := hMD.2.2.1; have hn12 : 0 ≤ S.1 o 2 ∧ S.1 o 2 ≤ 12 := hI.fi o 2 3 (mdl_k hm) hm.1; have hm16 : 0 ≤ S.1 o 3 ∧ S.1 o 3 ≤ 16 := hI.fi o 3 3 (mdl_k hm) hm.1
  have hat0 : 0 ≤ S.1 189 3 ∧ S.1 189 3 ≤ 1000000000 := hI.fi 189 3 4 (by decide) rfl
  refine lv_iconst (v := iv 1) hx hb dX1_holdTrees_0 (by decide) ?_
  refine lv_istore_n (lv' := [(2, .int (iv 1)), (0, .ref (G.2.2.1 + 188)), (1, .int (iv hv))]) hx hb dX1_holdTrees_1 rfl hl (by decide) rfl (fun ls hl => ?_)
  have loop_2 : ∀ (fuel : Nat) (S2 : sS) (tr : Int) (H : Heap) (locs : List Loc) (ls : Array Slot), (3001 - tr).toNat < fuel → (cX G S2 0 0 0) → (Fr S S2 pHT) → (Fr S S2 pHT) → (1 ≤ tr ∧ tr ≤ 3001) → (S2.1 188 16 = 0) → (S2.2.2.2 188 15 = .ref (G.2.2.1 + o)) → (Hd (∃ c R w2 wr2 wk2 wv2, RWv S2 n c R ∧ WTv S2 w2 wr2 wk2 wv2 ∧ HS n A wh hv vt vb kp vp (S.1 189 3) cc RR w wr wk wv (3001 - tr).toNat (S2.1 189 3) c R w2 wr2 wk2 wv2)) → (CQ G T kp vp S2) → sW G 294 S2 H → sL G locs → lv_has ls 6 [(2, .int (iv tr)), (0, .ref (G.2.2.1 + 188)), (1, .int (iv hv))] → W p l e (rmk 7 0 0) s m args below meth c H locs 0 0 (MQ below (sQi G 294 (fun r u => cX G u 0 0 0 ∧ Fr S u pHT ∧ (CQ G T kp vp u ∧ (0 ≤ r ∧ r ≤ 1) ∧ Hd (HT n (wct wh n.toNat) wh hv vt vb kp vp 3000 (S.1 189 3) cc RR w wr wk wv (u.1 188 16))))) args s 0 0 (sF G)) (F0 m 2 ls []) := by
    intro fuel
    induction fuel with
    | zero => intro S2 tr H locs ls hmeas hI2 hFm2 hL2_ htr hfl hmr2 hst hCR2 hW hL hl; exact absurd hmeas (Nat.not_lt_zero _)
    | succ fuel ih_2 =>
      intro S2 tr H locs ls hmeas hI2 hFm2 hL2_ htr hfl hmr2 hst hCR2 hW hL hl
      obtain ⟨c1, R1, w1, wr1, wk1, wv1, hR1, hW1, hS1⟩ := hst
      have hok := hS1.1
      have hok0 := hok.1; have hok1 := hok.2.1; have hok2 := hok.2.2.1; have hok3 : Hd _ := hok.2.2.2
      clear hok
      have hRc1 := hR1.2.1; have hRn1 := hR1.1; have hWt1 := hW1.1
      have hk1 : Hd _ := hS1.k
      have hkn0 : kp (S2.1 189 3) ≠ 0 := by rcases hk1 with z | z <;> omega
      have hT0 := (hKT _ hkn0).2
      have hkr : 12 ≤ kp (S2.1 189 3) ∧ kp (S2.1 189 3) ≤ 15 := by rcases hk1 with z | z <;> omega
      have hk11 : kp (S2.1 189 3 + 1) = 2 := by rcases hk1 with z | z; (exact z.2.1); (exact z.2.1)
      have hT1 := (hKT (S2.1 189 3 + 1) (by omega)).2
      have hat2 : 0 ≤ S2.1 189 3 ∧ S2.1 189 3 ≤ 1000000000 := hI2.fi 189 3 4 (by decide) rfl
      refine lv_iload_n hx hb dX1_holdTrees_2 rfl (lv_at hl 0 rfl) ?_
      refine lv_sipush (v := iv 3000) hx hb dX1_holdTrees_3 (by decide) ?_
      refine r_icmp_gt (tgt := 99) hx hb ⟨(by omega), (by omega)⟩ ⟨(by omega), (by omega)⟩ dX1_holdTrees_6 (by decide) (fun c_1 => ?_) (fun c_1 => ?_)
      · refine lv_aload_n hx hb dX1_holdTrees_99 rfl (lv_at hl 1 rfl) ?_
        refine lv_bipush (v := iv 6) hx hb dX1_holdTrees_100 (by decide) ?_
        refine lv_aload_n hx hb dX1_holdTrees_102 rfl (lv_at hl 1 rfl) ?_
        refine g_X1_12 Cx hW (k := 188) (by decide) rfl (v := .ref (G.2.2.1 + 189)) (rf_188_0 hI2) dX1_holdTrees_103 ?_
        have q_2 : 0 ≤ S2.1 189 3 ∧ S2.1 189 3 ≤ 1000000000 := hI2.fi 189 3 4 (by decide) rfl
        have q_3 : 0 ≤ S2.1 189 2 ∧ S2.1 189 2 ≤ 30001 := hI2.fi 189 2 4 (by decide) rfl
        refine sBi (sV (As := []) (rest := [.int (iv 6), .ref (G.2.2.1 + 188)]) (k := 189) Cx (s_X4_start l G S2  hI2) (c_X1_91 Cx rfl rfl (rmk_ok (by omega) (by decide))) hW (by decide) rfl rfl rfl hl.1 rfl (Nat.le_of_ble_eq_true rfl) dX1_holdTrees_106 ⟨Nat.le_of_ble_eq_true rfl, Nat.le_of_ble_eq_true rfl⟩) hL (fun r_6 u_4 H locs k_5 hW hL => ?_)
        obtain ⟨eu_4, xu_4⟩ := k_5
        rw [eu_4] at hW
        have q_7 : 0 ≤ S2.1 188 14 ∧ S2.1 188 14 ≤ 40 := hI2.fi 188 14 1 (by decide) rfl
        refine sBi (sV (As := [.int (iv 6), .int (iv r_6)]) (rest := []) (k := 188) Cx (b_X1_fail l G S2 (kn := 6) (wz := r_6) hI2 (by omega) (by omega)) (c_X1_95 Cx rfl rfl (rmk_ok (by omega) (by decide))) hW (by decide) rfl rfl rfl hl.1 rfl (Nat.le_of_ble_eq_true rfl) dX1_holdTrees_109 ⟨Nat.le_of_ble_eq_true rfl, Nat.le_of_ble_eq_true rfl⟩) hL (fun r_10 u_8 H locs k_9 hW hL => ?_)
        obtain ⟨iu_8, fu_8, xu_8⟩ := k_9
        have F_11 := hFm2.trans (fu_8.to (p1_sub rfl))
        have F_12 := hL2_.trans (fu_8.to (p1_sub rfl))
        have cr_13 : CQ G T kp vp u_8 := hCR2.fr fu_8 rfl rfl rfl rfl
        have q_14 : (-2147483648) ≤ u_8.1 188 16 ∧ u_8.1 188 16 ≤ 2147483647 := iu_8.fi 188 16 1 (by decide) rfl
        exact sZret Cx hr hlk hW hL (by omega) ⟨iu_8, F_11, ⟨cr_13, (by omega), (by rw [(show u_8.1 188 16 = _ from xu_8.2.1)]; have h := hS1; rw [show (3001 - tr).toNat = 0 by omega] at h; exact h.end)⟩⟩ dX1_holdTrees_112
      · obtain ⟨F1, hF1⟩ : ∃ F, (3001 - tr).toNat = F + 1 := ⟨(3000 - tr).toNat, by omega⟩
        rw [hF1] at hS1
        refine lv_aload_n hx hb dX1_holdTrees_9 rfl (lv_at hl 1 rfl) ?_
        refine g_X1_12 Cx hW (k := 188) (by decide) rfl (v := .ref (G.2.2.1 + 189)) (rf_188_0 hI2) dX1_holdTrees_10 ?_
        have q_15 : 0 ≤ S2.1 189 3 ∧ S2.1 189 3 ≤ 1000000000 := hI2.fi 189 3 4 (by decide) rfl
        have q_16 : 0 ≤ S2.1 189 2 ∧ S2.1 189 2 ≤ 30001 := hI2.fi 189 2 4 (by decide) rfl
        refine sBi (sV (As := []) (rest := []) (k := 189) Cx (s_X4_kind l G S2  hI2) (c_X1_109 Cx rfl rfl (rmk_ok (by omega) (by decide))) hW (by decide) rfl rfl rfl hl.1 rfl (Nat.le_of_ble_eq_true rfl) dX1_holdTrees_13 ⟨Nat.le_of_ble_eq_true rfl, Nat.le_of_ble_eq_true rfl⟩) hL (fun r_19 u_17 H locs k_18 hW hL => ?_)
        obtain ⟨eu_17, xu_17⟩ := k_18
        rw [eu_17] at hW
        have hkd : r_19 = kp (S2.1 189 3) := hCR2.k hat2.1 hT0 xu_17.2.1 xu_17.2.2
        refine lv_istore_n (lv' := [(3, .int (iv r_19)), (2, .int (iv tr)), (0, .ref (G.2.2.1 + 188)), (1, .int (iv hv))]) hx hb dX1_holdTrees_16 rfl hl (by decide) rfl (fun ls hl => ?_)
        refine lv_aload_n hx hb dX1_holdTrees_17 rfl (lv_at hl 2 rfl) ?_
        refine g_X1_12 Cx hW (k := 188) (by decide) rfl (v := .ref (G.2.2.1 + 189)) (rf_188_0 hI2) dX1_holdTrees_18 ?_
        refine sBi (sV (As := []) (rest := []) (k := 189) Cx (s_X4_start l G S2  hI2) (c_X1_91 Cx rfl rfl (rmk_ok (by omega) (by decide))) hW (by decide) rfl rfl rfl hl.1 rfl (Nat.le_of_ble_eq_true rfl) dX1_holdTrees_21 ⟨Nat.le_of_ble_eq_true rfl, Nat.le_of_ble_eq_true rfl⟩) hL (fun r_22 u_20 H locs k_21 hW hL => ?_)
        obtain ⟨eu_20, xu_20⟩ := k_21
        rw [eu_20] at hW
        refine lv_istore (lv' := [(4, .int (iv r_22)), (3, .int (iv r_19)), (2, .int (iv tr)), (0, .ref (G.2.2.1 + 188)), (1, .int (iv hv))]) hx hb dX1_holdTrees_24 hl (by decide) rfl (fun ls hl => ?_)
        refine lv_aload_n hx hb dX1_holdTrees_26 rfl (lv_at hl 3 rfl) ?_
        refine g_X1_12 Cx hW (k := 188) (by decide) rfl (v := .ref (G.2.2.1 + 189)) (rf_188_0 hI2) dX1_holdTrees_27 ?_
        refine sBv (sV (As := []) (rest := []) (k := 189) Cx (s_X4_advance l G S2  hI2 (by omega)) (c_X1_119 Cx rfl rfl (rmk_ok (by omega) (by decide))) hW (by decide) rfl rfl rfl hl.1 rfl (Nat.le_of_ble_eq_true rfl) dX1_holdTrees_30 ⟨Nat.le_of_ble_eq_true rfl, Nat.le_of_ble_eq_true rfl⟩) hL (fun u_23 H locs k_24 hW hL => ?_)
        obtain ⟨iu_23, fu_23, xu_23⟩ := k_24
        have F_25 := hFm2.trans (fu_23.to (p1_sub rfl))
        have F_26 := hL2_.trans (fu_23.to (p1_sub rfl))
        have at_u_23 : u_23.1 189 3 = S2.1 189 3 + 1 := by rw [xu_23]; exact uF_on
        have cr_27 : CQ G T kp vp u_23 := by rw [xu_23]; exact hCR2.F (by decide)
        refine lv_iload_n hx hb dX1_holdTrees_33 rfl (lv_at hl 1 rfl) ?_
        refine lv_bipush (v := iv 12) hx hb dX1_holdTrees_34 (by decide) ?_
        refine r_icmp_ne (tgt := 46) hx hb ⟨(by omega), (by omega)⟩ ⟨(by omega), (by omega)⟩ dX1_holdTrees_36 (by decide) (fun c_28 => ?_) (fun c_28 => ?_)
        · have hn12 : kp (S2.1 189 3) ≠ 12 := by omega
          have hpx : 0 < vp (S2.1 189 3 + 1) ∧ ∃ x, gPr kp 30001 (S2.1 189 3 + 2) = some x := by rcases hk1 with z | z; (exfalso; omega); (exact z.2.2)
          have hpx0 := hpx.1; have hpx1 : Hd _ := hpx.2; clear hpx
          refine lv_aload_n hx hb dX1_holdTrees_46 rfl (lv_at hl 3 rfl) ?_
          refine lv_iload_n hx hb dX1_holdTrees_47 rfl (lv_at hl 1 rfl) ?_
          refine lv_iload_n hx hb dX1_holdTrees_48 rfl (lv_at hl 4 rfl) ?_
          have q_29 : 0 ≤ u_23.1 189 3 ∧ u_23.1 189 3 ≤ 1000000000 := iu_23.fi 189 3 4 (by decide) rfl
          refine sBi (sV (As := [.int (iv r_19), .int (iv hv)]) (rest := []) (k := 188) Cx (b0_X1_pairTree l G u_23 (wd := r_19) (hv := hv) (o := o) (n := n) (mm := mm) (mx := mx) (A := A) (wh := wh) (T := T) (kp := kp) (vp := vp) (cc := c1) (RR := R1) (vt := vt) (vb := vb) iu_23 (by omega) (by omega) cr_27 (by omega) hm (((fu_23 188 rfl).2.2.2 15).trans hmr2) (MDv.of hMD (show u_23.1 o 2 = S.1 o 2 from ((fu_23 o (p1_no (tau_ne hm.1 (rfl : tau 189 = .inl 4) (fun h => by cases h)))).1 2).trans ((hL2_ o (mo_pHT hm).1).1 2)) (show u_23.1 o 3 = S.1 o 3 from ((fu_23 o (p1_no (tau_ne hm.1 (rfl : tau 189 = .inl 4) (fun h => by cases h)))).1 3).trans ((hL2_ o (mo_pHT hm).1).1 3)) (show u_23.1 o 4 = S.1 o 4 from ((fu_23 o (p1_no (tau_ne hm.1 (rfl : tau 189 = .inl 4) (fun h => by cases h)))).1 4).trans ((hL2_ o (mo_pHT hm).1).1 4)) (show u_23.2.1 (o + 1) = S.2.1 (o + 1) from funext fun x => ((fu_23 (o + 1) (p1_no (tau_ne hm.2.1 (rfl : tau 189 = .inl 4) (fun h => by cases h)))).2.1 x).trans ((hL2_ (o + 1) (mo_pHT hm).2.1).2.1 x)) (show u_23.2.1 (o + 2) = S.2.1 (o + 2) from funext fun x => ((fu_23 (o + 2) (p1_no (tau_ne hm.2.2.1 (rfl : tau 189 = .inl 4) (fun h => by cases h)))).2.1 x).trans ((hL2_ (o + 2) (mo_pHT hm).2.2).2.1 x))) (RWv.of hR1 (show u_23.1 193 8 = S2.1 193 8 from (fu_23 193 rfl).1 8) (show u_23.1 193 9 = S2.1 193 9 from (fu_23 193 rfl).1 9) (show u_23.2.1 194 = S2.2.1 194 from funext fun x => (fu_23 194 rfl).2.1 x)) (by omega) hKT (hS1.2.1) (by rw [show u_23.1 189 3 = S2.1 189 3 + 1 by omega]; exact ⟨⟨hk11, hT1⟩, hpx0⟩) (by rw [show u_23.1 189 3 + 1 = S2.1 189 3 + 2 by omega]; exact hpx1)) (c_X1_196 Cx rfl rfl (rmk_ok (by omega) (by decide))) hW (by decide) rfl rfl rfl hl.1 rfl (Nat.le_of_ble_eq_true rfl) dX1_holdTrees_49 ⟨Nat.le_of_ble_eq_true rfl, Nat.le_of_ble_eq_true rfl⟩) hL (fun r_32 u_30 H locs k_31 hW hL => ?_)
          obtain ⟨iu_30, fu_30, xu_30⟩ := k_31
          have F_33 := F_25.trans (fu_30.to pPT_HT)
          have F_34 := F_26.trans (fu_30.to pPT_HT)
          have hptr : Hd (PTR n wh hv vt vb kp vp (S2.1 189 3) c1 R1 u_30 (u_30.1 189 3) r_32) := by have h1 := (show _ → _ from xu_30.2.2.2.1); have h2 := (show ∀ ff e, _ → _ from xu_30.2.2.2.2); rw [show u_23.1 189 3 = S2.1 189 3 + 1 by omega, show S2.1 189 3 + 1 + 1 = S2.1 189 3 + 2 by omega] at h1 h2; rw [hkd] at h2; exact ⟨h1, h2⟩
          have cr_35 : CQ G T kp vp u_30 := xu_30.1
          refine lv_istore (lv' := [(5, .int (iv r_32)), (4, .int (iv r_22)), (3, .int (iv r_19)), (2, .int (iv tr)), (0, .ref (G.2.2.1 + 188)), (1, .int (iv hv))]) hx hb dX1_holdTrees_52 hl (by decide) rfl (fun ls hl => ?_)
          refine lv_iload hx hb dX1_holdTrees_54 (lv_at hl 0 rfl) ?_
          refine r_if_eq (tgt := 68) hx hb ⟨(by omega), (by omega)⟩ dX1_holdTrees_56 (by decide) (fun c_36 => ?_) (fun c_36 => ?_)
          · have hp0 : r_32 = 0 := by omega
            have hptr0 : Hd (PTR n wh hv vt vb kp vp (S2.1 189 3) c1 R1 u_30 (u_30.1 189 3) 0) := by have h := hptr; rw [hp0] at h; exact h
            refine lv_iload_n hx hb dX1_holdTrees_68 rfl (lv_at hl 2 rfl) ?_
            refine lv_bipush (v := iv 14) hx hb dX1_holdTrees_69 (by decide) ?_
            refine r_icmp_eq (tgt := 80) hx hb ⟨(by omega), (by omega)⟩ ⟨(by omega), (by omega)⟩ dX1_holdTrees_71 (by decide) (fun c_37 => ?_) (fun c_37 => ?_)
            · have hpl : Hd _ := hS1.pl hn12 (by omega) hptr0
              refine lv_aload_n hx hb dX1_holdTrees_80 rfl (lv_at hl 4 rfl) ?_
              have q_38 : 0 ≤ S2.1 188 14 ∧ S2.1 188 14 ≤ 40 := hI2.fi 188 14 1 (by decide) rfl
              refine g_X1_103 Cx hW (k := 188) (by decide) rfl (v := S2.1 188 14) (((fu_30 188 rfl).1 14).trans ((fu_23 188 rfl).1 14)) dX1_holdTrees_81 ?_
              refine r_if_ne (tgt := 89) hx hb ⟨(by omega), (by omega)⟩ dX1_holdTrees_84 (by decide) (fun c_39 => ?_) (fun c_39 => ?_)
              · refine lv_aload_n hx hb dX1_holdTrees_89 rfl (lv_at hl 4 rfl) ?_
                have q_40 : 0 ≤ u_30.1 189 3 ∧ u_30.1 189 3 ≤ 1000000000 := iu_30.fi 189 3 4 (by decide) rfl
                have q_41 : (-2147483648) ≤ S2.1 188 16 ∧ S2.1 188 16 ≤ 2147483647 := hI2.fi 188 16 1 (by decide) rfl
                have lk_42 : u_30.1 188 16 = S2.1 188 16 := ((fu_30 188 rfl).1 16).trans ((fu_23 188 rfl).1 16)
                refine sBv (sV (As := []) (rest := []) (k := 188) Cx (b_X1_beginSecondTree l G u_30 (o := o) (n := n) (mm := mm) (mx := mx) (A := A) (wh := wh) (T := T) (kp := kp) (vp := vp) (cc := c1) (RR := R1) (w := w1) (wr := wr1) (wk := wk1) (wv := wv1) iu_30 cr_35 hm ((((fu_30 188 rfl).2.2.2 15).trans ((fu_23 188 rfl).2.2.2 15)).trans hmr2) (MDv.of hMD (show u_30.1 o 2 = S.1 o 2 from ((fu_30 o (mo_pPT hm).1).1 2).trans (((fu_23 o (p1_no (tau_ne hm.1 (rfl : tau 189 = .inl 4) (fun h => by cases h)))).1 2).trans ((hL2_ o (mo_pHT hm).1).1 2))) (show u_30.1 o 3 = S.1 o 3 from ((fu_30 o (mo_pPT hm).1).1 3).trans (((fu_23 o (p1_no (tau_ne hm.1 (rfl : tau 189 = .inl 4) (fun h => by cases h)))).1 3).trans ((hL2_ o (mo_pHT hm).1).1 3))) (show u_30.1 o 4 = S.1 o 4 from ((fu_30 o (mo_pPT hm).1).1 4).trans (((fu_23 o (p1_no (tau_ne hm.1 (rfl : tau 189 = .inl 4) (fun h => by cases h)))).1 4).trans ((hL2_ o (mo_pHT hm).1).1 4))) (show u_30.2.1 (o + 1) = S.2.1 (o + 1) from funext fun x => ((fu_30 (o + 1) (mo_pPT hm).2.1).2.1 x).trans (((fu_23 (o + 1) (p1_no (tau_ne hm.2.1 (rfl : tau 189 = .inl 4) (fun h => by cases h)))).2.1 x).trans ((hL2_ (o + 1) (mo_pHT hm).2.1).2.1 x))) (show u_30.2.1 (o + 2) = S.2.1 (o + 2) from funext fun x => ((fu_30 (o + 2) (mo_pPT hm).2.2).2.1 x).trans (((fu_23 (o + 2) (p1_no (tau_ne hm.2.2.1 (rfl : tau 189 = .inl 4) (fun h => by cases h)))).2.1 x).trans ((hL2_ (o + 2) (mo_pHT hm).2.2).2.1 x)))) hpl.1 (WTv.of hW1 (show u_30.1 188 14 = S2.1 188 14 from ((fu_30 188 rfl).1 14).trans ((fu_23 188 rfl).1 14)) (show u_30.2.1 225 = S2.2.1 225 from funext fun x => ((fu_30 225 rfl).2.1 x).trans ((fu_23 225 rfl).2.1 x)) (show u_30.2.1 226 = S2.2.1 226 from funext fun x => ((fu_30 226 rfl).2.1 x).trans ((fu_23 226 rfl).2.1 x)) (show u_30.2.1 227 = S2.2.1 227 from funext fun x => ((fu_30 227 rfl).2.1 x).trans ((fu_23 227 rfl).2.1 x))) (by omega) (by have h := hok3 (w1 - 1) (by omega) (by omega); exact ⟨by omega, h.2.1, h.2.2.1⟩)) (c_X1_200 Cx rfl rfl (rmk_ok (by omega) (by decide))) hW (by decide) rfl rfl rfl hl.1 rfl (Nat.le_of_ble_eq_true rfl) dX1_holdTrees_90 ⟨Nat.le_of_ble_eq_true rfl, Nat.le_of_ble_eq_true rfl⟩) hL (fun u_43 H locs k_44 hW hL => ?_)
                obtain ⟨iu_43, fu_43, xu_43⟩ := k_44
                have F_45 := F_33.trans (fu_43.to pBr_HT)
                have F_46 := F_34.trans (fu_43.to pBr_HT)
                have cr_47 : CQ G T kp vp u_43 := xu_43.1
                refine lv_iinc (v := iv (tr + 1)) (lv' := [(2, .int (iv (tr + 1))), (5, .int (iv r_32)), (4, .int (iv r_22)), (3, .int (iv r_19)), (0, .ref (G.2.2.1 + 188)), (1, .int (iv hv))]) hx hb dX1_holdTrees_93 hl (k := 3) rfl ((Int32.ofInt_add _ _).symm) (by decide) rfl (fun ls hl => ?_)
                refine lv_goto (tgt := 2) hx hb dX1_holdTrees_96 (by decide) ?_
                have q_48 : (-2147483648) ≤ u_43.1 188 16 ∧ u_43.1 188 16 ≤ 2147483647 := iu_43.fi 188 16 1 (by decide) rfl
                have q_49 : 0 ≤ u_43.1 189 3 ∧ u_43.1 189 3 ≤ 1000000000 := iu_43.fi 189 3 4 (by decide) rfl
                exact ih_2 u_43 (tr + 1) _ _ _ (by omega) iu_43 F_45 F_46 (by omega) (by omega) (xu_43.2.2.1.trans ((((fu_30 188 rfl).2.2.2 15).trans ((fu_23 188 rfl).2.2.2 15)).trans hmr2)) (show ∃ c R w2 wr2 wk2 wv2, _ ∧ _ ∧ _ from ⟨_, _, _, _, _, _, xu_43.2.2.2.2.1, xu_43.2.2.2.2.2, by rw [show u_43.1 189 3 = u_30.1 189 3 by omega, ← (show F1 = (3001 - (tr + 1)).toNat by omega)]; exact hpl.2.2 (by omega)⟩) cr_47 hW hL (lv_sub hl [0, 4, 5] rfl)
              · refine lv_iconst (v := iv 1) hx hb dX1_holdTrees_87 (by decide) ?_
                have q_50 : (-2147483648) ≤ S2.1 188 16 ∧ S2.1 188 16 ≤ 2147483647 := hI2.fi 188 16 1 (by decide) rfl
                have lk_51 : u_30.1 188 16 = S2.1 188 16 := ((fu_30 188 rfl).1 16).trans ((fu_23 188 rfl).1 16)
                exact sZret Cx hr hlk hW hL (by omega) ⟨iu_30, F_33, ⟨cr_35, (by omega), (by rw [show u_30.1 188 16 = 0 by omega]; exact hpl.2.1 (by omega))⟩⟩ dX1_holdTrees_88
            · refine lv_iload_n hx hb dX1_holdTrees_74 rfl (lv_at hl 2 rfl) ?_
              refine lv_bipush (v := iv 15) hx hb dX1_holdTrees_75 (by decide) ?_
              refine r_icmp_ne (tgt := 93) hx hb ⟨(by omega), (by omega)⟩ ⟨(by omega), (by omega)⟩ dX1_holdTrees_77 (by decide) (fun c_52 => ?_) (fun c_52 => ?_)
              · refine lv_iinc (v := iv (tr + 1)) (lv' := [(2, .int (iv (tr + 1))), (5, .int (iv r_32)), (4, .int (iv r_22)), (3, .int (iv r_19)), (0, .ref (G.2.2.1 + 188)), (1, .int (iv hv))]) hx hb dX1_holdTrees_93 hl (k := 3) rfl ((Int32.ofInt_add _ _).symm) (by decide) rfl (fun ls hl => ?_)
                refine lv_goto (tgt := 2) hx hb dX1_holdTrees_96 (by decide) ?_
                have q_53 : (-2147483648) ≤ S2.1 188 16 ∧ S2.1 188 16 ≤ 2147483647 := hI2.fi 188 16 1 (by decide) rfl
                have lk_54 : u_30.1 188 16 = S2.1 188 16 := ((fu_30 188 rfl).1 16).trans ((fu_23 188 rfl).1 16)
                have q_55 : 0 ≤ u_30.1 189 3 ∧ u_30.1 189 3 ≤ 1000000000 := iu_30.fi 189 3 4 (by decide) rfl
                exact ih_2 u_30 (tr + 1) _ _ _ (by omega) iu_30 F_33 F_34 (by omega) (by omega) ((((fu_30 188 rfl).2.2.2 15).trans ((fu_23 188 rfl).2.2.2 15)).trans hmr2) (show ∃ c R w2 wr2 wk2 wv2, _ ∧ _ ∧ _ from by obtain ⟨R2, y1, y2⟩ := hS1.pc (by omega) hptr0; exact ⟨_, _, _, _, _, _, y1, (WTv.of hW1 (show u_30.1 188 14 = S2.1 188 14 from ((fu_30 188 rfl).1 14).trans ((fu_23 188 rfl).1 14)) (show u_30.2.1 225 = S2.2.1 225 from funext fun x => ((fu_30 225 rfl).2.1 x).trans ((fu_23 225 rfl).2.1 x)) (show u_30.2.1 226 = S2.2.1 226 from funext fun x => ((fu_30 226 rfl).2.1 x).trans ((fu_23 226 rfl).2.1 x)) (show u_30.2.1 227 = S2.2.1 227 from funext fun x => ((fu_30 227 rfl).2.1 x).trans ((fu_23 227 rfl).2.1 x))), by rw [← (show F1 = (3001 - (tr + 1)).toNat by omega)]; exact y2⟩) cr_35 hW hL (lv_sub hl [0, 4, 5] rfl)
              · have hpl : Hd _ := hS1.pl hn12 (by omega) hptr0
                refine lv_aload_n hx hb dX1_holdTrees_80 rfl (lv_at hl 4 rfl) ?_
                have q_56 : 0 ≤ S2.1 188 14 ∧ S2.1 188 14 ≤ 40 := hI2.fi 188 14 1 (by decide) rfl
                refine g_X1_103 Cx hW (k := 188) (by decide) rfl (v := S2.1 188 14) (((fu_30 188 rfl).1 14).trans ((fu_23 188 rfl).1 14)) dX1_holdTrees_81 ?_
                refine r_if_ne (tgt := 89) hx hb ⟨(by omega), (by omega)⟩ dX1_holdTrees_84 (by decide) (fun c_57 => ?_) (fun c_57 => ?_)
                · refine lv_aload_n hx hb dX1_holdTrees_89 rfl (lv_at hl 4 rfl) ?_
                  have q_58 : 0 ≤ u_30.1 189 3 ∧ u_30.1 189 3 ≤ 1000000000 := iu_30.fi 189 3 4 (by decide) rfl
                  have q_59 : (-2147483648) ≤ S2.1 188 16 ∧ S2.1 188 16 ≤ 2147483647 := hI2.fi 188 16 1 (by decide) rfl
                  have lk_60 : u_30.1 188 16 = S2.1 188 16 := ((fu_30 188 rfl).1 16).trans ((fu_23 188 rfl).1 16)
                  refine sBv (sV (As := []) (rest := []) (k := 188) Cx (b_X1_beginSecondTree l G u_30 (o := o) (n := n) (mm := mm) (mx := mx) (A := A) (wh := wh) (T := T) (kp := kp) (vp := vp) (cc := c1) (RR := R1) (w := w1) (wr := wr1) (wk := wk1) (wv := wv1) iu_30 cr_35 hm ((((fu_30 188 rfl).2.2.2 15).trans ((fu_23 188 rfl).2.2.2 15)).trans hmr2) (MDv.of hMD (show u_30.1 o 2 = S.1 o 2 from ((fu_30 o (mo_pPT hm).1).1 2).trans (((fu_23 o (p1_no (tau_ne hm.1 (rfl : tau 189 = .inl 4) (fun h => by cases h)))).1 2).trans ((hL2_ o (mo_pHT hm).1).1 2))) (show u_30.1 o 3 = S.1 o 3 from ((fu_30 o (mo_pPT hm).1).1 3).trans (((fu_23 o (p1_no (tau_ne hm.1 (rfl : tau 189 = .inl 4) (fun h => by cases h)))).1 3).trans ((hL2_ o (mo_pHT hm).1).1 3))) (show u_30.1 o 4 = S.1 o 4 from ((fu_30 o (mo_pPT hm).1).1 4).trans (((fu_23 o (p1_no (tau_ne hm.1 (rfl : tau 189 = .inl 4) (fun h => by cases h)))).1 4).trans ((hL2_ o (mo_pHT hm).1).1 4))) (show u_30.2.1 (o + 1) = S.2.1 (o + 1) from funext fun x => ((fu_30 (o + 1) (mo_pPT hm).2.1).2.1 x).trans (((fu_23 (o + 1) (p1_no (tau_ne hm.2.1 (rfl : tau 189 = .inl 4) (fun h => by cases h)))).2.1 x).trans ((hL2_ (o + 1) (mo_pHT hm).2.1).2.1 x))) (show u_30.2.1 (o + 2) = S.2.1 (o + 2) from funext fun x => ((fu_30 (o + 2) (mo_pPT hm).2.2).2.1 x).trans (((fu_23 (o + 2) (p1_no (tau_ne hm.2.2.1 (rfl : tau 189 = .inl 4) (fun h => by cases h)))).2.1 x).trans ((hL2_ (o + 2) (mo_pHT hm).2.2).2.1 x)))) hpl.1 (WTv.of hW1 (show u_30.1 188 14 = S2.1 188 14 from ((fu_30 188 rfl).1 14).trans ((fu_23 188 rfl).1 14)) (show u_30.2.1 225 = S2.2.1 225 from funext fun x => ((fu_30 225 rfl).2.1 x).trans ((fu_23 225 rfl).2.1 x)) (show u_30.2.1 226 = S2.2.1 226 from funext fun x => ((fu_30 226 rfl).2.1 x).trans ((fu_23 226 rfl).2.1 x)) (show u_30.2.1 227 = S2.2.1 227 from funext fun x => ((fu_30 227 rfl).2.1 x).trans ((fu_23 227 rfl).2.1 x))) (by omega) (by have h := hok3 (w1 - 1) (by omega) (by omega); exact ⟨by omega, h.2.1, h.2.2.1⟩)) (c_X1_200 Cx rfl rfl (rmk_ok (by omega) (by decide))) hW (by decide) rfl rfl rfl hl.1 rfl (Nat.le_of_ble_eq_true rfl) dX1_holdTrees_90 ⟨Nat.le_of_ble_eq_true rfl, Nat.le_of_ble_eq_true rfl⟩) hL (fun u_61 H locs k_62 hW hL => ?_)
                  obtain ⟨iu_61, fu_61, xu_61⟩ := k_62
                  have F_63 := F_33.trans (fu_61.to pBr_HT)
                  have F_64 := F_34.trans (fu_61.to pBr_HT)
                  have cr_65 : CQ G T kp vp u_61 := xu_61.1
                  refine lv_iinc (v := iv (tr + 1)) (lv' := [(2, .int (iv (tr + 1))), (5, .int (iv r_32)), (4, .int (iv r_22)), (3, .int (iv r_19)), (0, .ref (G.2.2.1 + 188)), (1, .int (iv hv))]) hx hb dX1_holdTrees_93 hl (k := 3) rfl ((Int32.ofInt_add _ _).symm) (by decide) rfl (fun ls hl => ?_)
                  refine lv_goto (tgt := 2) hx hb dX1_holdTrees_96 (by decide) ?_
                  have q_66 : (-2147483648) ≤ u_61.1 188 16 ∧ u_61.1 188 16 ≤ 2147483647 := iu_61.fi 188 16 1 (by decide) rfl
                  have q_67 : 0 ≤ u_61.1 189 3 ∧ u_61.1 189 3 ≤ 1000000000 := iu_61.fi 189 3 4 (by decide) rfl
                  exact ih_2 u_61 (tr + 1) _ _ _ (by omega) iu_61 F_63 F_64 (by omega) (by omega) (xu_61.2.2.1.trans ((((fu_30 188 rfl).2.2.2 15).trans ((fu_23 188 rfl).2.2.2 15)).trans hmr2)) (show ∃ c R w2 wr2 wk2 wv2, _ ∧ _ ∧ _ from ⟨_, _, _, _, _, _, xu_61.2.2.2.2.1, xu_61.2.2.2.2.2, by rw [show u_61.1 189 3 = u_30.1 189 3 by omega, ← (show F1 = (3001 - (tr + 1)).toNat by omega)]; exact hpl.2.2 (by omega)⟩) cr_65 hW hL (lv_sub hl [0, 4, 5] rfl)
                · refine lv_iconst (v := iv 1) hx hb dX1_holdTrees_87 (by decide) ?_
                  have q_68 : (-2147483648) ≤ S2.1 188 16 ∧ S2.1 188 16 ≤ 2147483647 := hI2.fi 188 16 1 (by decide) rfl
                  have lk_69 : u_30.1 188 16 = S2.1 188 16 := ((fu_30 188 rfl).1 16).trans ((fu_23 188 rfl).1 16)
                  exact sZret Cx hr hlk hW hL (by omega) ⟨iu_30, F_33, ⟨cr_35, (by omega), (by rw [show u_30.1 188 16 = 0 by omega]; exact hpl.2.1 (by omega))⟩⟩ dX1_holdTrees_88
          · refine lv_aload_n hx hb dX1_holdTrees_59 rfl (lv_at hl 4 rfl) ?_
            refine lv_iload hx hb dX1_holdTrees_60 (lv_at hl 0 rfl) ?_
            refine lv_iload hx hb dX1_holdTrees_62 (lv_at hl 1 rfl) ?_
            have q_70 : 0 ≤ S2.1 188 14 ∧ S2.1 188 14 ≤ 40 := hI2.fi 188 14 1 (by decide) rfl
            have lk_71 : u_30.1 188 14 = S2.1 188 14 := ((fu_30 188 rfl).1 14).trans ((fu_23 188 rfl).1 14)
            refine sBi (sV (As := [.int (iv r_32), .int (iv r_22)]) (rest := []) (k := 188) Cx (b_X1_fail l G u_30 (kn := r_32) (wz := r_22) iu_30 (by omega) (by omega)) (c_X1_95 Cx rfl rfl (rmk_ok (by omega) (by decide))) hW (by decide) rfl rfl rfl hl.1 rfl (Nat.le_of_ble_eq_true rfl) dX1_holdTrees_64 ⟨Nat.le_of_ble_eq_true rfl, Nat.le_of_ble_eq_true rfl⟩) hL (fun r_74 u_72 H locs k_73 hW hL => ?_)
            obtain ⟨iu_72, fu_72, xu_72⟩ := k_73
            have F_75 := F_33.trans (fu_72.to (p1_sub rfl))
            have F_76 := F_34.trans (fu_72.to (p1_sub rfl))
            have cr_77 : CQ G T kp vp u_72 := cr_35.fr fu_72 rfl rfl rfl rfl
            have q_78 : (-2147483648) ≤ u_72.1 188 16 ∧ u_72.1 188 16 ≤ 2147483647 := iu_72.fi 188 16 1 (by decide) rfl
            exact sZret Cx hr hlk hW hL (by omega) ⟨iu_72, F_75, ⟨cr_77, (by omega), (by rw [(show u_72.1 188 16 = _ from xu_72.2.1)]; exact hS1.px hn12 hptr (by omega))⟩⟩ dX1_holdTrees_67
        · have hk12 : kp (S2.1 189 3) = 12 := by omega
          have hk22 : kp (S2.1 189 3 + 2) = 2 := by rcases hk1 with z | z; (exact z.2.2); (exfalso; omega)
          have hT2 := (hKT (S2.1 189 3 + 2) (by omega)).2
          refine lv_aload_n hx hb dX1_holdTrees_39 rfl (lv_at hl 3 rfl) ?_
          have q_79 : 0 ≤ u_23.1 189 3 ∧ u_23.1 189 3 ≤ 1000000000 := iu_23.fi 189 3 4 (by decide) rfl
          have q_80 : (-2147483648) ≤ S2.1 188 16 ∧ S2.1 188 16 ≤ 2147483647 := hI2.fi 188 16 1 (by decide) rfl
          have lk_81 : u_23.1 188 16 = S2.1 188 16 := (fu_23 188 rfl).1 16
          refine sBi (sV (As := []) (rest := []) (k := 188) Cx (b_X1_branch l G u_23 (o := o) (n := n) (mm := mm) (mx := mx) (A := A) (wh := wh) (T := T) (kp := kp) (vp := vp) (cc := c1) (RR := R1) (w := w1) (wr := wr1) (wk := wk1) (wv := wv1) iu_23 cr_27 (by omega) hm (((fu_23 188 rfl).2.2.2 15).trans hmr2) (MDv.of hMD (show u_23.1 o 2 = S.1 o 2 from ((fu_23 o (p1_no (tau_ne hm.1 (rfl : tau 189 = .inl 4) (fun h => by cases h)))).1 2).trans ((hL2_ o (mo_pHT hm).1).1 2)) (show u_23.1 o 3 = S.1 o 3 from ((fu_23 o (p1_no (tau_ne hm.1 (rfl : tau 189 = .inl 4) (fun h => by cases h)))).1 3).trans ((hL2_ o (mo_pHT hm).1).1 3)) (show u_23.1 o 4 = S.1 o 4 from ((fu_23 o (p1_no (tau_ne hm.1 (rfl : tau 189 = .inl 4) (fun h => by cases h)))).1 4).trans ((hL2_ o (mo_pHT hm).1).1 4)) (show u_23.2.1 (o + 1) = S.2.1 (o + 1) from funext fun x => ((fu_23 (o + 1) (p1_no (tau_ne hm.2.1 (rfl : tau 189 = .inl 4) (fun h => by cases h)))).2.1 x).trans ((hL2_ (o + 1) (mo_pHT hm).2.1).2.1 x)) (show u_23.2.1 (o + 2) = S.2.1 (o + 2) from funext fun x => ((fu_23 (o + 2) (p1_no (tau_ne hm.2.2.1 (rfl : tau 189 = .inl 4) (fun h => by cases h)))).2.1 x).trans ((hL2_ (o + 2) (mo_pHT hm).2.2).2.1 x))) (RWv.of hR1 (show u_23.1 193 8 = S2.1 193 8 from (fu_23 193 rfl).1 8) (show u_23.1 193 9 = S2.1 193 9 from (fu_23 193 rfl).1 9) (show u_23.2.1 194 = S2.2.1 194 from funext fun x => (fu_23 194 rfl).2.1 x)) (WTv.of hW1 (show u_23.1 188 14 = S2.1 188 14 from (fu_23 188 rfl).1 14) (show u_23.2.1 225 = S2.2.1 225 from funext fun x => (fu_23 225 rfl).2.1 x) (show u_23.2.1 226 = S2.2.1 226 from funext fun x => (fu_23 226 rfl).2.1 x) (show u_23.2.1 227 = S2.2.1 227 from funext fun x => (fu_23 227 rfl).2.1 x)) (by omega) (by rw [show u_23.1 189 3 = S2.1 189 3 + 1 by omega, show S2.1 189 3 + 1 + 1 = S2.1 189 3 + 2 by omega]; exact ⟨⟨hk11, hk22⟩, hT2⟩)) (c_X1_193 Cx rfl rfl (rmk_ok (by omega) (by decide))) hW (by decide) rfl rfl rfl hl.1 rfl (Nat.le_of_ble_eq_true rfl) dX1_holdTrees_40 ⟨Nat.le_of_ble_eq_true rfl, Nat.le_of_ble_eq_true rfl⟩) hL (fun r_84 u_82 H locs k_83 hW hL => ?_)
          obtain ⟨iu_82, fu_82, xu_82⟩ := k_83
          have F_85 := F_25.trans (fu_82.to pBr_HT)
          have F_86 := F_26.trans (fu_82.to pBr_HT)
          have hb4 : Hd (¬ okx n wh (vp (S2.1 189 3 + 1)) → r_84 = 4) := by have h := (show _ → _ from xu_82.2.2.2.2.2.1); rw [show u_23.1 189 3 = S2.1 189 3 + 1 by omega] at h; exact h
          have hb5 : Hd (okx n wh (vp (S2.1 189 3 + 1)) → (40 ≤ c1 → r_84 = 6) ∧ (c1 < 40 → r_84 = 0 ∧ u_82.1 189 3 = S2.1 189 3 + 3 ∧ RWv u_82 n (c1 + 1) (upR R1 (c1 + 1) (limr (vp (S2.1 189 3 + 1)) (vp (S2.1 189 3 + 2)) 0)) ∧ WTv u_82 (w1 + 1) (upf wr1 w1 c1) (upf wk1 w1 (vp (S2.1 189 3 + 1))) (upf wv1 w1 (vp (S2.1 189 3 + 2))))) := by have h := (show _ → _ from xu_82.2.2.2.2.2.2); rw [show u_23.1 189 3 = S2.1 189 3 + 1 by omega, show S2.1 189 3 + 1 + 1 = S2.1 189 3 + 2 by omega, show S2.1 189 3 + 1 + 2 = S2.1 189 3 + 3 by omega] at h; exact h
          have cr_87 : CQ G T kp vp u_82 := xu_82.1
          refine lv_goto (tgt := 52) hx hb dX1_holdTrees_43 (by decide) ?_
          refine lv_istore (lv' := [(5, .int (iv r_84)), (4, .int (iv r_22)), (3, .int (iv r_19)), (2, .int (iv tr)), (0, .ref (G.2.2.1 + 188)), (1, .int (iv hv))]) hx hb dX1_holdTrees_52 hl (by decide) rfl (fun ls hl => ?_)
          refine lv_iload hx hb dX1_holdTrees_54 (lv_at hl 0 rfl) ?_
          refine r_if_eq (tgt := 68) hx hb ⟨(by omega), (by omega)⟩ dX1_holdTrees_56 (by decide) (fun c_88 => ?_) (fun c_88 => ?_)
          · have hxx : okx n wh (vp (S2.1 189 3 + 1)) ∧ c1 < 40 := by by_cases q : okx n wh (vp (S2.1 189 3 + 1)); (refine ⟨q, ?_⟩; by_cases z : c1 < 40; (exact z); (have := (hb5 q).1 (by omega); exfalso; omega)); (have := hb4 q; exfalso; omega)
            have hx2 := (hb5 hxx.1).2 hxx.2
            have hx21 := hx2.2.1; have hx22 : Hd _ := hx2.2.2; clear hx2
            have hS2 : Hd _ := hS1.br hk12 hxx.1 hxx.2
            refine lv_iload_n hx hb dX1_holdTrees_68 rfl (lv_at hl 2 rfl) ?_
            refine lv_bipush (v := iv 14) hx hb dX1_holdTrees_69 (by decide) ?_
            refine r_icmp_eq (tgt := 80) hx hb ⟨(by omega), (by omega)⟩ ⟨(by omega), (by omega)⟩ dX1_holdTrees_71 (by decide) (fun c_89 => ?_) (fun c_89 => ?_)
            · exfalso; omega
            · refine lv_iload_n hx hb dX1_holdTrees_74 rfl (lv_at hl 2 rfl) ?_
              refine lv_bipush (v := iv 15) hx hb dX1_holdTrees_75 (by decide) ?_
              refine r_icmp_ne (tgt := 93) hx hb ⟨(by omega), (by omega)⟩ ⟨(by omega), (by omega)⟩ dX1_holdTrees_77 (by decide) (fun c_90 => ?_) (fun c_90 => ?_)
              · refine lv_iinc (v := iv (tr + 1)) (lv' := [(2, .int (iv (tr + 1))), (5, .int (iv r_84)), (4, .int (iv r_22)), (3, .int (iv r_19)), (0, .ref (G.2.2.1 + 188)), (1, .int (iv hv))]) hx hb dX1_holdTrees_93 hl (k := 3) rfl ((Int32.ofInt_add _ _).symm) (by decide) rfl (fun ls hl => ?_)
                refine lv_goto (tgt := 2) hx hb dX1_holdTrees_96 (by decide) ?_
                have q_91 : (-2147483648) ≤ u_82.1 188 16 ∧ u_82.1 188 16 ≤ 2147483647 := iu_82.fi 188 16 1 (by decide) rfl
                have q_92 : 0 ≤ u_82.1 189 3 ∧ u_82.1 189 3 ≤ 1000000000 := iu_82.fi 189 3 4 (by decide) rfl
                exact ih_2 u_82 (tr + 1) _ _ _ (by omega) iu_82 F_85 F_86 (by omega) (by omega) (xu_82.2.2.2.1.trans (((fu_23 188 rfl).2.2.2 15).trans hmr2)) (show ∃ c R w2 wr2 wk2 wv2, _ ∧ _ ∧ _ from ⟨_, _, _, _, _, _, hx22.1, hx22.2, by rw [hx21, ← (show F1 = (3001 - (tr + 1)).toNat by omega)]; exact hS2⟩) cr_87 hW hL (lv_sub hl [0, 4, 5] rfl)
              · exfalso; omega
          · refine lv_aload_n hx hb dX1_holdTrees_59 rfl (lv_at hl 4 rfl) ?_
            refine lv_iload hx hb dX1_holdTrees_60 (lv_at hl 0 rfl) ?_
            refine lv_iload hx hb dX1_holdTrees_62 (lv_at hl 1 rfl) ?_
            have q_93 : 0 ≤ u_82.1 188 14 ∧ u_82.1 188 14 ≤ 40 := iu_82.fi 188 14 1 (by decide) rfl
            refine sBi (sV (As := [.int (iv r_84), .int (iv r_22)]) (rest := []) (k := 188) Cx (b_X1_fail l G u_82 (kn := r_84) (wz := r_22) iu_82 (by omega) (by omega)) (c_X1_95 Cx rfl rfl (rmk_ok (by omega) (by decide))) hW (by decide) rfl rfl rfl hl.1 rfl (Nat.le_of_ble_eq_true rfl) dX1_holdTrees_64 ⟨Nat.le_of_ble_eq_true rfl, Nat.le_of_ble_eq_true rfl⟩) hL (fun r_96 u_94 H locs k_95 hW hL => ?_)
            obtain ⟨iu_94, fu_94, xu_94⟩ := k_95
            have F_97 := F_85.trans (fu_94.to (p1_sub rfl))
            have F_98 := F_86.trans (fu_94.to (p1_sub rfl))
            have cr_99 : CQ G T kp vp u_94 := cr_87.fr fu_94 rfl rfl rfl rfl
            have q_100 : (-2147483648) ≤ u_94.1 188 16 ∧ u_94.1 188 16 ≤ 2147483647 := iu_94.fi 188 16 1 (by decide) rfl
            exact sZret Cx hr hlk hW hL (by omega) ⟨iu_94, F_97, ⟨cr_99, (by omega), (by rw [(show u_94.1 188 16 = _ from xu_94.2.1)]; exact hS1.brx hk12 hb4 (fun q z => (hb5 q).1 z) (fun q => by have := ((hb5 q.1).2 q.2).1; omega))⟩⟩ dX1_holdTrees_67
  have q_101 : (-2147483648) ≤ S.1 188 16 ∧ S.1 188 16 ≤ 2147483647 := hI.fi 188 16 1 (by decide) rfl
  have q_102 : 0 ≤ S.1 189 3 ∧ S.1 189 3 ≤ 1000000000 := hI.fi 189 3 4 (by decide) rfl
  exact loop_2 (_ + 1) S 1 _ _ _ (Nat.lt_succ_self _) hI (Fr.rf : Fr S S pHT) Fr.rf (by omega) (by omega) hmr (show ∃ c R w2 wr2 wk2 wv2, _ ∧ _ ∧ _ from ⟨_, _, _, _, _, _, hR, hWT, hwok, hRA, hgt, fun x z => z⟩) hCR hW hL (lv_sub hl [0, 1, 2] rfl)

set_option maxRecDepth 100000 in
set_option maxHeartbeats 4000000 in
theorem b_X1_hold (l : Launch) (G : sG) (S : sS) {o : Nat} {n mm mx : Int} {A : Int → Int → Int} {wh : Int → Int} (hI : cX G S 0 0 0) (hm : mdl o) (hMD : Hd (MDv S o n mm mx A wh)) : Met l yX1_hold (.code yX1_hold cX1_hold 4 (some .int) :: tb) (rmk 9 0 0) (sPc G 294 S [.ref (G.2.2.1 + 188), .ref (G.2.2.1 + 1), .ref (G.2.2.1 + o)]) (sQi G 294 (fun r u => cX G u 0 0 0 ∧ Fr S u pE ∧ (Hd (HOLDB n mm mx A wh (bt S 1) (S.1 1 1) r)))) 0 0 (sF G) := by
  refine sEnter (by decide) (Nat.le_of_ble_eq_true rfl) ?_
  intro p e s m args below meth c Cx hr hlk hnm hW ls hl
  have Cx : sC G p m c cX1_hold 4 s args RX1 := Cx
  obtain ⟨hx, hb, hml, hown, hts⟩ := id Cx.1
  have hL : sL G [] := sL_nil
  have hl : lv_has ls 4 [(0, .ref (G.2.2.1 + 188)), (1, .ref (G.2.2.1 + 1)), (2, .ref (G.2.2.1 + o))] := hl
  have hW0 := hW
  have hMn := hMD.1; have hMm := hMD.2.1; have hMx := hMD.2.2.1; have hn12 : 0 ≤ S.1 o 2 ∧ S.1 o 2 ≤ 12 := hI.fi o 2 3 (mdl_k hm) hm.1; have hm16 : 0 ≤ S.1 o 3 ∧ S.1 o 3 ≤ 16 := hI.fi o 3 3 (mdl_k hm) hm.1
  refine lv_aload_n hx hb dX1_hold_0 rfl (lv_at hl 0 rfl) ?_
  refine lv_aload_n hx hb dX1_hold_1 rfl (lv_at hl 2 rfl) ?_
  refine p_X1_69 Cx hW hL (k := 188) (by decide) rfl dX1_hold_2 (fun H locs hW hL => ?_)
  have F_1 : Fr S (uR S 188 15 (.ref (G.2.2.1 + o))) pE := (Fr.rf : Fr S S pE).R rfl
  have i_2 : cX G (uR S 188 15 (.ref (G.2.2.1 + o))) 0 0 0 := hI.mod188 hm
  refine lv_aload_n hx hb dX1_hold_5 rfl (lv_at hl 0 rfl) ?_
  refine lv_iconst (v := iv 0) hx hb dX1_hold_6 (by decide) ?_
  refine p_X1_77 Cx hW hL (k := 188) (by decide) rfl dX1_hold_7 (fun H locs hW hL => ?_)
  have F_3 : Fr S (uF (uR S 188 15 (.ref (G.2.2.1 + o))) 188 16 0) pE := F_1.F rfl
  have i_4 : cX G (uF (uR S 188 15 (.ref (G.2.2.1 + o))) 188 16 0) 0 0 0 := i_2.F rfl rfl (show (-2147483648) ≤ 0 ∧ 0 ≤ 2147483647 from ⟨by omega, by omega⟩)
  refine lv_aload_n hx hb dX1_hold_10 rfl (lv_at hl 0 rfl) ?_
  refine lv_iconst (v := iv (-1)) hx hb dX1_hold_11 (by decide) ?_
  refine p_X1_73 Cx hW hL (k := 188) (by decide) rfl dX1_hold_12 (fun H locs hW hL => ?_)
  have F_5 : Fr S (uF (uF (uR S 188 15 (.ref (G.2.2.1 + o))) 188 16 0) 188 17 ((-1))) pE := F_3.F rfl
  have i_6 : cX G (uF (uF (uR S 188 15 (.ref (G.2.2.1 + o))) 188 16 0) 188 17 ((-1))) 0 0 0 := i_4.F rfl rfl (show (-2147483648) ≤ (-1) ∧ (-1) ≤ 2147483647 from ⟨by omega, by omega⟩)
  refine lv_aload_n hx hb dX1_hold_15 rfl (lv_at hl 0 rfl) ?_
  refine g_X1_12 Cx hW (k := 188) (by decide) rfl (v := .ref (G.2.2.1 + 189)) (rf_188_0 i_6) dX1_hold_16 ?_
  refine lv_aload_n hx hb dX1_hold_19 rfl (lv_at hl 1 rfl) ?_
  have q_7 : 0 ≤ S.1 1 1 ∧ S.1 1 1 ≤ 30000 := hI.fi 1 1 10 (by decide) rfl
  have lk_8 : (uF (uF (uR S 188 15 (.ref (G.2.2.1 + o))) 188 16 0) 188 17 ((-1))).1 1 1 = S.1 1 1 := (uF_ne (fun h => absurd h.2 (by decide))).trans ((uF_ne (fun h => absurd h.2 (by decide))).trans (uR_f))
  refine sBv (sV (As := [.ref (G.2.2.1 + 1)]) (rest := []) (k := 189) Cx (b_X4_open l G (uF (uF (uR S 188 15 (.ref (G.2.2.1 + o))) 188 16 0) 188 17 ((-1)))  i_6) (c_X1_80 Cx rfl rfl (rmk_ok (by omega) (by decide))) hW (by decide) rfl rfl rfl hl.1 rfl (Nat.le_of_ble_eq_true rfl) dX1_hold_20 ⟨Nat.le_of_ble_eq_true rfl, Nat.le_of_ble_eq_true rfl⟩) hL (fun u_9 H locs k_10 hW hL => ?_)
  obtain ⟨iu_9, fu_9, xu_9⟩ := k_10
  have F_11 := F_5.trans (fu_9.to pRd_E)
  have hps0 : PS u_9 := ⟨by rw [xu_9.2.2.1]; exact (iu_9.fi 189 2 4 (by decide) rfl).1, fun k a b => absurd b (by rw [xu_9.2.2.1]; omega)⟩
  obtain ⟨T, kp, vp, hTQ, hPT⟩ := (show ∃ T kp vp, _ ∧ _ from xu_9.2.2.2)
  have hKS : Hd _ := hTQ.ks; have hKT : Hd _ := hTQ.kt; have hT1 := hTQ.1
  have hT3 : T ≤ 30001 := by have q : 0 ≤ u_9.1 189 2 ∧ u_9.1 189 2 ≤ 30001 := iu_9.fi 189 2 4 (by decide) rfl; have := hPT.1; omega
  have hat9 := xu_9.2.2.1
  refine lv_aload_n hx hb dX1_hold_23 rfl (lv_at hl 0 rfl) ?_
  refine g_X1_12 Cx hW (k := 188) (by decide) rfl (v := .ref (G.2.2.1 + 189)) (rf_188_0 iu_9) dX1_hold_24 ?_
  refine lv_aload_n hx hb dX1_hold_27 rfl (lv_at hl 0 rfl) ?_
  refine g_X1_69 Cx hW (k := 188) (by decide) rfl (v := .ref (G.2.2.1 + o)) (((fu_9 188 rfl).2.2.2 15).trans ((uF_r).trans ((uF_r).trans (uR_on)))) dX1_hold_28 ?_
  have q_12 : 0 ≤ S.1 o 2 ∧ S.1 o 2 ≤ 12 := hI.fi o 2 3 (mdl_k hm) hm.1
  refine g_X1_84 Cx hW (k := o) (mdl_l hm) hm.1 (v := S.1 o 2) (((fu_9 o (mo_pRd hm).1).1 2).trans ((uF_ne (fun h => absurd h.2 (by decide))).trans ((uF_ne (fun h => absurd h.2 (by decide))).trans (uR_f)))) dX1_hold_31 ?_
  have q_13 : 0 ≤ u_9.1 189 3 ∧ u_9.1 189 3 ≤ 1000000000 := iu_9.fi 189 3 4 (by decide) rfl
  refine sBi (sV (As := [.int (iv (S.1 o 2))]) (rest := []) (k := 189) Cx (b_X4_isProof l G u_9 (vs := S.1 o 2) (T := T) (kp := kp) (vp := vp) iu_9 (by omega) xu_9.1 (PR.rf hps0).2.2 hPT hKS (by omega) xu_9.2.1 (by omega)) (c_X1_87 Cx rfl rfl (rmk_ok (by omega) (by decide))) hW (by decide) rfl rfl rfl hl.1 rfl (Nat.le_of_ble_eq_true rfl) dX1_hold_34 ⟨Nat.le_of_ble_eq_true rfl, Nat.le_of_ble_eq_true rfl⟩) hL (fun r_16 u_14 H locs k_15 hW hL => ?_)
  obtain ⟨iu_14, fu_14, xu_14⟩ := k_15
  have F_17 := F_11.trans (fu_14.to (fun k h => pRd_E k (p189_Rd k h)))
  have hisP : Hd (r_16 = 1 ↔ isP kp vp n) := by have h := (show _ ↔ _ from xu_14.2.2.2); rw [show S.1 o 2 = n by omega] at h; exact h
  refine r_if_ne (tgt := 58) hx hb ⟨(by omega), (by omega)⟩ dX1_hold_37 (by decide) (fun c_18 => ?_) (fun c_18 => ?_)
  · have cr_0 : CQ G T kp vp u_14 := ⟨rt_pr xu_14.2.1 xu_9.1, xu_14.2.2.1 (by omega), PT.pr hPT xu_14.2.1 ((fu_14 1 rfl).1 1)⟩
    have hP : Hd (isP kp vp n) := hisP.mp (by omega)
    refine lv_aload_n hx hb dX1_hold_58 rfl (lv_at hl 0 rfl) ?_
    refine g_X1_21 Cx hW (k := 188) (by decide) rfl (v := .ref (G.2.2.1 + 193)) (rf_188_1 iu_14) dX1_hold_59 ?_
    refine lv_aload_n hx hb dX1_hold_62 rfl (lv_at hl 0 rfl) ?_
    refine g_X1_69 Cx hW (k := 188) (by decide) rfl (v := .ref (G.2.2.1 + o)) (((fu_14 188 rfl).2.2.2 15).trans (((fu_9 188 rfl).2.2.2 15).trans ((uF_r).trans ((uF_r).trans (uR_on))))) dX1_hold_63 ?_
    have lk_19 : u_14.1 o 2 = S.1 o 2 := ((fu_14 o (mo_p1_189 hm).1).1 2).trans (((fu_9 o (mo_pRd hm).1).1 2).trans ((uF_ne (fun h => absurd h.2 (by decide))).trans ((uF_ne (fun h => absurd h.2 (by decide))).trans (uR_f))))
    have q_20 : 0 ≤ S.1 o 3 ∧ S.1 o 3 ≤ 16 := hI.fi o 3 3 (mdl_k hm) hm.1
    have lk_21 : u_14.1 o 3 = S.1 o 3 := ((fu_14 o (mo_p1_189 hm).1).1 3).trans (((fu_9 o (mo_pRd hm).1).1 3).trans ((uF_ne (fun h => absurd h.2 (by decide))).trans ((uF_ne (fun h => absurd h.2 (by decide))).trans (uR_f))))
    refine sBv (sV (As := [.ref (G.2.2.1 + o)]) (rest := []) (k := 193) Cx (b_X6_take_193 l G u_14 (md := o) iu_14 hm) (c_X1_99 Cx rfl rfl (rmk_ok (by omega) (by decide))) hW (by decide) rfl rfl rfl hl.1 rfl (Nat.le_of_ble_eq_true rfl) dX1_hold_66 ⟨Nat.le_of_ble_eq_true rfl, Nat.le_of_ble_eq_true rfl⟩) hL (fun u_22 H locs k_23 hW hL => ?_)
    obtain ⟨iu_22, fu_22, xu_22⟩ := k_23
    have F_24 := F_17.trans (fu_22.to (fun k h => pHT_E k ((fun k h => pPT_HT k (pRw_PT k h)) k h)))
    have hRm : Hd (RWv u_22 n mm A) := RWv.md xu_22.1 (MDv.of hMD (show u_14.1 o 2 = S.1 o 2 from ((fu_14 o (mo_p1_189 hm).1).1 2).trans (((fu_9 o (mo_pRd hm).1).1 2).trans ((uF_ne (fun h => absurd h.2 (by decide))).trans ((uF_ne (fun h => absurd h.2 (by decide))).trans (uR_f))))) (show u_14.1 o 3 = S.1 o 3 from ((fu_14 o (mo_p1_189 hm).1).1 3).trans (((fu_9 o (mo_pRd hm).1).1 3).trans ((uF_ne (fun h => absurd h.2 (by decide))).trans ((uF_ne (fun h => absurd h.2 (by decide))).trans (uR_f))))) (show u_14.1 o 4 = S.1 o 4 from ((fu_14 o (mo_p1_189 hm).1).1 4).trans (((fu_9 o (mo_pRd hm).1).1 4).trans ((uF_ne (fun h => absurd h.2 (by decide))).trans ((uF_ne (fun h => absurd h.2 (by decide))).trans (uR_f))))) (show u_14.2.1 (o + 1) = S.2.1 (o + 1) from funext fun x => ((fu_14 (o + 1) (mo_p1_189 hm).2.1).2.1 x).trans (((fu_9 (o + 1) (mo_pRd hm).2.1).2.1 x).trans ((uF_a).trans ((uF_a).trans (uR_a))))) (show u_14.2.1 (o + 2) = S.2.1 (o + 2) from funext fun x => ((fu_14 (o + 2) (mo_p1_189 hm).2.2).2.1 x).trans (((fu_9 (o + 2) (mo_pRd hm).2.2).2.1 x).trans ((uF_a).trans ((uF_a).trans (uR_a))))))
    have cr_25 : CQ G T kp vp u_22 := cr_0.fr fu_22 rfl rfl rfl rfl
    refine lv_aload_n hx hb dX1_hold_69 rfl (lv_at hl 0 rfl) ?_
    refine lv_iconst (v := iv 0) hx hb dX1_hold_70 (by decide) ?_
    refine p_X1_103 Cx hW hL (k := 188) (by decide) rfl dX1_hold_71 (fun H locs hW hL => ?_)
    have F_26 : Fr S (uF u_22 188 14 0) pE := F_24.F rfl
    have i_27 : cX G (uF u_22 188 14 0) 0 0 0 := iu_22.F rfl rfl (show 0 ≤ 0 ∧ 0 ≤ 40 from ⟨by omega, by omega⟩)
    have cr_28 : CQ G T kp vp (uF u_22 188 14 0) := cr_25.F (by decide)
    refine lv_aload_n hx hb dX1_hold_74 rfl (lv_at hl 0 rfl) ?_
    refine g_X1_12 Cx hW (k := 188) (by decide) rfl (v := .ref (G.2.2.1 + 189)) (rf_188_0 i_27) dX1_hold_75 ?_
    refine sBv (sV (As := []) (rest := []) (k := 189) Cx (s_X4_rewind l G (uF u_22 188 14 0)  i_27) (c_X1_106 Cx rfl rfl (rmk_ok (by omega) (by decide))) hW (by decide) rfl rfl rfl hl.1 rfl (Nat.le_of_ble_eq_true rfl) dX1_hold_78 ⟨Nat.le_of_ble_eq_true rfl, Nat.le_of_ble_eq_true rfl⟩) hL (fun u_29 H locs k_30 hW hL => ?_)
    obtain ⟨iu_29, fu_29, xu_29⟩ := k_30
    have F_31 := F_26.trans (fu_29.to (fun k h => pRd_E k (p189_Rd k h)))
    have at_u_29 : u_29.1 189 3 = 0 := by rw [xu_29]; exact uF_on
    have cr_32 : CQ G T kp vp u_29 := by rw [xu_29]; exact cr_28.F (by decide)
    refine lv_aload_n hx hb dX1_hold_81 rfl (lv_at hl 0 rfl) ?_
    refine g_X1_12 Cx hW (k := 188) (by decide) rfl (v := .ref (G.2.2.1 + 189)) (rf_188_0 iu_29) dX1_hold_82 ?_
    have q_33 : 0 ≤ u_29.1 189 3 ∧ u_29.1 189 3 ≤ 1000000000 := iu_29.fi 189 3 4 (by decide) rfl
    have q_34 : 0 ≤ u_29.1 189 2 ∧ u_29.1 189 2 ≤ 30001 := iu_29.fi 189 2 4 (by decide) rfl
    refine sBi (sV (As := []) (rest := []) (k := 189) Cx (s_X4_kind l G u_29  iu_29) (c_X1_109 Cx rfl rfl (rmk_ok (by omega) (by decide))) hW (by decide) rfl rfl rfl hl.1 rfl (Nat.le_of_ble_eq_true rfl) dX1_hold_85 ⟨Nat.le_of_ble_eq_true rfl, Nat.le_of_ble_eq_true rfl⟩) hL (fun r_37 u_35 H locs k_36 hW hL => ?_)
    obtain ⟨eu_35, xu_35⟩ := k_36
    rw [eu_35] at hW
    have hk0 : r_37 = kp 0 := by have h := cr_32.k (by omega) (by omega) xu_35.2.1 xu_35.2.2; rw [show u_29.1 189 3 = 0 by omega] at h; exact h
    refine lv_istore_n (lv' := [(3, .int (iv r_37)), (0, .ref (G.2.2.1 + 188)), (1, .ref (G.2.2.1 + 1)), (2, .ref (G.2.2.1 + o))]) hx hb dX1_hold_88 rfl hl (by decide) rfl (fun ls hl => ?_)
    refine lv_iload_n hx hb dX1_hold_89 rfl (lv_at hl 0 rfl) ?_
    refine lv_bipush (v := iv 9) hx hb dX1_hold_90 (by decide) ?_
    refine r_icmp_ne (tgt := 105) hx hb ⟨(by omega), (by omega)⟩ ⟨(by omega), (by omega)⟩ dX1_hold_92 (by decide) (fun c_38 => ?_) (fun c_38 => ?_)
    · refine lv_iload_n hx hb dX1_hold_105 rfl (lv_at hl 0 rfl) ?_
      refine lv_bipush (v := iv 7) hx hb dX1_hold_106 (by decide) ?_
      refine r_icmp_ne (tgt := 119) hx hb ⟨(by omega), (by omega)⟩ ⟨(by omega), (by omega)⟩ dX1_hold_108 (by decide) (fun c_39 => ?_) (fun c_39 => ?_)
      · have hi3 : Hd _ := hP.i (by have := hP.k; omega)
        refine lv_aload_n hx hb dX1_hold_119 rfl (lv_at hl 1 rfl) ?_
        refine g_X1_12 Cx hW (k := 188) (by decide) rfl (v := .ref (G.2.2.1 + 189)) (rf_188_0 iu_29) dX1_hold_120 ?_
        refine sBv (sV (As := []) (rest := []) (k := 189) Cx (s_X4_advance l G u_29  iu_29 (by omega)) (c_X1_119 Cx rfl rfl (rmk_ok (by omega) (by decide))) hW (by decide) rfl rfl rfl hl.1 rfl (Nat.le_of_ble_eq_true rfl) dX1_hold_123 ⟨Nat.le_of_ble_eq_true rfl, Nat.le_of_ble_eq_true rfl⟩) hL (fun u_40 H locs k_41 hW hL => ?_)
        obtain ⟨iu_40, fu_40, xu_40⟩ := k_41
        have F_42 := F_31.trans (fu_40.to (fun k h => pRd_E k (p189_Rd k h)))
        have at_u_40 : u_40.1 189 3 = u_29.1 189 3 + 1 := by rw [xu_40]; exact uF_on
        have cr_43 : CQ G T kp vp u_40 := by rw [xu_40]; exact cr_32.F (by decide)
        refine lv_aload_n hx hb dX1_hold_126 rfl (lv_at hl 1 rfl) ?_
        refine g_X1_77 Cx hW (k := 188) (by decide) rfl (v := 0) (((fu_40 188 rfl).1 16).trans (((fu_29 188 rfl).1 16).trans ((uF_ne (fun h => absurd h.2 (by decide))).trans (((fu_22 188 rfl).1 16).trans (((fu_14 188 rfl).1 16).trans (((fu_9 188 rfl).1 16).trans ((uF_ne (fun h => absurd h.2 (by decide))).trans (uF_on)))))))) dX1_hold_127 ?_
        refine r_if_ne (tgt := 149) hx hb ⟨(by omega), (by omega)⟩ dX1_hold_130 (by decide) (fun c => absurd (by omega) c) (fun _ => ?_)
        refine lv_aload_n hx hb dX1_hold_133 rfl (lv_at hl 1 rfl) ?_
        refine lv_iload_n hx hb dX1_hold_134 rfl (lv_at hl 0 rfl) ?_
        refine lv_bipush (v := iv 7) hx hb dX1_hold_135 (by decide) ?_
        refine r_icmp_ne (tgt := 144) hx hb ⟨(by omega), (by omega)⟩ ⟨(by omega), (by omega)⟩ dX1_hold_137 (by decide) (fun c_44 => ?_) (fun c_44 => ?_)
        · refine lv_iconst (v := iv 0) hx hb dX1_hold_144 (by decide) ?_
          have q_45 : 0 ≤ u_40.1 189 3 ∧ u_40.1 189 3 ≤ 1000000000 := iu_40.fi 189 3 4 (by decide) rfl
          have lk_46 : u_40.1 188 16 = 0 := ((fu_40 188 rfl).1 16).trans (((fu_29 188 rfl).1 16).trans ((uF_ne (fun h => absurd h.2 (by decide))).trans (((fu_22 188 rfl).1 16).trans (((fu_14 188 rfl).1 16).trans (((fu_9 188 rfl).1 16).trans ((uF_ne (fun h => absurd h.2 (by decide))).trans (uF_on)))))))
          refine sBi (sV (As := [.int (iv 0)]) (rest := []) (k := 188) Cx (b0_X1_holdTrees l G u_40 (hv := 0) (o := o) (n := n) (mm := mm) (mx := mx) (A := A) (wh := wh) (T := T) (kp := kp) (vp := vp) (cc := mm) (RR := A) (w := (0 : Int)) (wr := (fun _ => (0 : Int))) (wk := (fun _ => (0 : Int))) (wv := (fun _ => (0 : Int))) (vt := (0 : Int)) (vb := (0 : Int)) iu_40 (by omega) cr_43 (by omega) hm (((fu_40 188 rfl).2.2.2 15).trans (((fu_29 188 rfl).2.2.2 15).trans ((uF_r).trans (((fu_22 188 rfl).2.2.2 15).trans (((fu_14 188 rfl).2.2.2 15).trans (((fu_9 188 rfl).2.2.2 15).trans ((uF_r).trans ((uF_r).trans (uR_on))))))))) (MDv.of hMD (show u_40.1 o 2 = S.1 o 2 from ((fu_40 o (mo_p1_189 hm).1).1 2).trans (((fu_29 o (mo_p1_189 hm).1).1 2).trans ((uF_ne (fun h => absurd h.2 (by decide))).trans (((fu_22 o (mo_pRw hm).1).1 2).trans (((fu_14 o (mo_p1_189 hm).1).1 2).trans (((fu_9 o (mo_pRd hm).1).1 2).trans ((uF_ne (fun h => absurd h.2 (by decide))).trans ((uF_ne (fun h => absurd h.2 (by decide))).trans (uR_f))))))))) (show u_40.1 o 3 = S.1 o 3 from ((fu_40 o (mo_p1_189 hm).1).1 3).trans (((fu_29 o (mo_p1_189 hm).1).1 3).trans ((uF_ne (fun h => absurd h.2 (by decide))).trans (((fu_22 o (mo_pRw hm).1).1 3).trans (((fu_14 o (mo_p1_189 hm).1).1 3).trans (((fu_9 o (mo_pRd hm).1).1 3).trans ((uF_ne (fun h => absurd h.2 (by decide))).trans ((uF_ne (fun h => absurd h.2 (by decide))).trans (uR_f))))))))) (show u_40.1 o 4 = S.1 o 4 from ((fu_40 o (mo_p1_189 hm).1).1 4).trans (((fu_29 o (mo_p1_189 hm).1).1 4).trans ((uF_ne (fun h => absurd h.2 (by decide))).trans (((fu_22 o (mo_pRw hm).1).1 4).trans (((fu_14 o (mo_p1_189 hm).1).1 4).trans (((fu_9 o (mo_pRd hm).1).1 4).trans ((uF_ne (fun h => absurd h.2 (by decide))).trans ((uF_ne (fun h => absurd h.2 (by decide))).trans (uR_f))))))))) (show u_40.2.1 (o + 1) = S.2.1 (o + 1) from funext fun x => ((fu_40 (o + 1) (mo_p1_189 hm).2.1).2.1 x).trans (((fu_29 (o + 1) (mo_p1_189 hm).2.1).2.1 x).trans ((uF_a).trans (((fu_22 (o + 1) (mo_pRw hm).2.1).2.1 x).trans (((fu_14 (o + 1) (mo_p1_189 hm).2.1).2.1 x).trans (((fu_9 (o + 1) (mo_pRd hm).2.1).2.1 x).trans ((uF_a).trans ((uF_a).trans (uR_a))))))))) (show u_40.2.1 (o + 2) = S.2.1 (o + 2) from funext fun x => ((fu_40 (o + 2) (mo_p1_189 hm).2.2).2.1 x).trans (((fu_29 (o + 2) (mo_p1_189 hm).2.2).2.1 x).trans ((uF_a).trans (((fu_22 (o + 2) (mo_pRw hm).2.2).2.1 x).trans (((fu_14 (o + 2) (mo_p1_189 hm).2.2).2.1 x).trans (((fu_9 (o + 2) (mo_pRd hm).2.2).2.1 x).trans ((uF_a).trans ((uF_a).trans (uR_a)))))))))) (RWv.of hRm (show u_40.1 193 8 = u_22.1 193 8 from ((fu_40 193 rfl).1 8).trans (((fu_29 193 rfl).1 8).trans (uF_ne (fun h => absurd h.2 (by decide))))) (show u_40.1 193 9 = u_22.1 193 9 from ((fu_40 193 rfl).1 9).trans (((fu_29 193 rfl).1 9).trans (uF_ne (fun h => absurd h.2 (by decide))))) (show u_40.2.1 194 = u_22.2.1 194 from funext fun x => ((fu_40 194 rfl).2.1 x).trans (((fu_29 194 rfl).2.1 x).trans (uF_a)))) (WTv.of ⟨uF_on, fun i a b => absurd b (by omega)⟩ (show u_40.1 188 14 = (uF u_22 188 14 0).1 188 14 from ((fu_40 188 rfl).1 14).trans ((fu_29 188 rfl).1 14)) (show u_40.2.1 225 = (uF u_22 188 14 0).2.1 225 from funext fun x => ((fu_40 225 rfl).2.1 x).trans ((fu_29 225 rfl).2.1 x)) (show u_40.2.1 226 = (uF u_22 188 14 0).2.1 226 from funext fun x => ((fu_40 226 rfl).2.1 x).trans ((fu_29 226 rfl).2.1 x)) (show u_40.2.1 227 = (uF u_22 188 14 0).2.1 227 from funext fun x => ((fu_40 227 rfl).2.1 x).trans ((fu_29 227 rfl).2.1 x))) hKT (fun j _ _ => rfl) ⟨by omega, by omega, by omega, fun i a b => absurd b (by omega)⟩ (by rw [show u_40.1 189 3 = 1 by omega]; exact hi3) (by omega)) (c_X1_122 Cx rfl rfl (rmk_ok (by omega) (by decide))) hW (by decide) rfl rfl rfl hl.1 rfl (Nat.le_of_ble_eq_true rfl) dX1_hold_145 ⟨Nat.le_of_ble_eq_true rfl, Nat.le_of_ble_eq_true rfl⟩) hL (fun r_49 u_47 H locs k_48 hW hL => ?_)
          obtain ⟨iu_47, fu_47, xu_47⟩ := k_48
          have F_50 := F_42.trans (fu_47.to pHT_E)
          have cr_51 : CQ G T kp vp u_47 := xu_47.1
          refine lv_pop hx hb dX1_hold_148 rfl ?_
          refine lv_aload_n hx hb dX1_hold_149 rfl (lv_at hl 1 rfl) ?_
          have q_52 : (-2147483648) ≤ u_47.1 188 16 ∧ u_47.1 188 16 ≤ 2147483647 := iu_47.fi 188 16 1 (by decide) rfl
          refine g_X1_77 Cx hW (k := 188) (by decide) rfl (v := u_47.1 188 16) rfl dX1_hold_150 ?_
          exact sIret Cx hr hlk hW hL ⟨iu_47, F_50, (show ∃ T kp vp, _ ∧ _ from ⟨T, kp, vp, hTQ, ⟨fun q => absurd hP q, fun _ => ⟨fun q => absurd q (by omega), fun q => absurd q (by omega), fun _ => HT.cg xu_47.2.2 (by omega) rfl⟩⟩⟩)⟩ dX1_hold_153
        · exfalso; omega
      · have ho1 := (hP.o (by omega)).1; have ho2 : Hd _ := (hP.o (by omega)).2.1; have ho3 : Hd _ := (hP.o (by omega)).2.2
        refine lv_aload_n hx hb dX1_hold_111 rfl (lv_at hl 1 rfl) ?_
        have lk_53 : u_29.1 188 16 = 0 := ((fu_29 188 rfl).1 16).trans ((uF_ne (fun h => absurd h.2 (by decide))).trans (((fu_22 188 rfl).1 16).trans (((fu_14 188 rfl).1 16).trans (((fu_9 188 rfl).1 16).trans ((uF_ne (fun h => absurd h.2 (by decide))).trans (uF_on))))))
        have lk_54 : u_29.1 188 14 = 0 := ((fu_29 188 rfl).1 14).trans (uF_on)
        refine sBi (sV (As := []) (rest := []) (k := 188) Cx (b_X1_holdOptimal l G u_29 (o := o) (n := n) (mm := mm) (mx := mx) (A := A) (wh := wh) (T := T) (kp := kp) (vp := vp) (cc := mm) (RR := A) iu_29 cr_32 (by omega) hm (((fu_29 188 rfl).2.2.2 15).trans ((uF_r).trans (((fu_22 188 rfl).2.2.2 15).trans (((fu_14 188 rfl).2.2.2 15).trans (((fu_9 188 rfl).2.2.2 15).trans ((uF_r).trans ((uF_r).trans (uR_on)))))))) (MDv.of hMD (show u_29.1 o 2 = S.1 o 2 from ((fu_29 o (mo_p1_189 hm).1).1 2).trans ((uF_ne (fun h => absurd h.2 (by decide))).trans (((fu_22 o (mo_pRw hm).1).1 2).trans (((fu_14 o (mo_p1_189 hm).1).1 2).trans (((fu_9 o (mo_pRd hm).1).1 2).trans ((uF_ne (fun h => absurd h.2 (by decide))).trans ((uF_ne (fun h => absurd h.2 (by decide))).trans (uR_f)))))))) (show u_29.1 o 3 = S.1 o 3 from ((fu_29 o (mo_p1_189 hm).1).1 3).trans ((uF_ne (fun h => absurd h.2 (by decide))).trans (((fu_22 o (mo_pRw hm).1).1 3).trans (((fu_14 o (mo_p1_189 hm).1).1 3).trans (((fu_9 o (mo_pRd hm).1).1 3).trans ((uF_ne (fun h => absurd h.2 (by decide))).trans ((uF_ne (fun h => absurd h.2 (by decide))).trans (uR_f)))))))) (show u_29.1 o 4 = S.1 o 4 from ((fu_29 o (mo_p1_189 hm).1).1 4).trans ((uF_ne (fun h => absurd h.2 (by decide))).trans (((fu_22 o (mo_pRw hm).1).1 4).trans (((fu_14 o (mo_p1_189 hm).1).1 4).trans (((fu_9 o (mo_pRd hm).1).1 4).trans ((uF_ne (fun h => absurd h.2 (by decide))).trans ((uF_ne (fun h => absurd h.2 (by decide))).trans (uR_f)))))))) (show u_29.2.1 (o + 1) = S.2.1 (o + 1) from funext fun x => ((fu_29 (o + 1) (mo_p1_189 hm).2.1).2.1 x).trans ((uF_a).trans (((fu_22 (o + 1) (mo_pRw hm).2.1).2.1 x).trans (((fu_14 (o + 1) (mo_p1_189 hm).2.1).2.1 x).trans (((fu_9 (o + 1) (mo_pRd hm).2.1).2.1 x).trans ((uF_a).trans ((uF_a).trans (uR_a)))))))) (show u_29.2.1 (o + 2) = S.2.1 (o + 2) from funext fun x => ((fu_29 (o + 2) (mo_p1_189 hm).2.2).2.1 x).trans ((uF_a).trans (((fu_22 (o + 2) (mo_pRw hm).2.2).2.1 x).trans (((fu_14 (o + 2) (mo_p1_189 hm).2.2).2.1 x).trans (((fu_9 (o + 2) (mo_pRd hm).2.2).2.1 x).trans ((uF_a).trans ((uF_a).trans (uR_a))))))))) (RWv.of hRm (show u_29.1 193 8 = u_22.1 193 8 from ((fu_29 193 rfl).1 8).trans (uF_ne (fun h => absurd h.2 (by decide)))) (show u_29.1 193 9 = u_22.1 193 9 from ((fu_29 193 rfl).1 9).trans (uF_ne (fun h => absurd h.2 (by decide)))) (show u_29.2.1 194 = u_22.2.1 194 from funext fun x => ((fu_29 194 rfl).2.1 x).trans (uF_a))) (by omega) hKT ho2 ho1 (by omega)) (c_X1_116 Cx rfl rfl (rmk_ok (by omega) (by decide))) hW (by decide) rfl rfl rfl hl.1 rfl (Nat.le_of_ble_eq_true rfl) dX1_hold_112 ⟨Nat.le_of_ble_eq_true rfl, Nat.le_of_ble_eq_true rfl⟩) hL (fun r_57 u_55 H locs k_56 hW hL => ?_)
        obtain ⟨iu_55, fu_55, xu_55⟩ := k_56
        have F_58 := F_31.trans (fu_55.to pHO_E)
        have hat7 := xu_55.2.2.2.2.2.1; have hV7 := (show VTv u_55 (vtf mx (vp 1)) (vp 3) from xu_55.2.2.2.2.2.2.1).2.2.2.2
        have bv_59 : bv u_55 209 = vtf mx (vp 1) := (show VTv u_55 (vtf mx (vp 1)) (vp 3) from xu_55.2.2.2.2.2.2.1).1
        have bv_60 : bv u_55 211 = vp 3 := (show VTv u_55 (vtf mx (vp 1)) (vp 3) from xu_55.2.2.2.2.2.2.1).2.1
        have hopt : Hd _ := xu_55.2.2.2.2.2.2.2
        have hw14 : u_55.1 188 14 = 0 := xu_55.2.2.2.2.1.trans (((fu_29 188 rfl).1 14).trans (uF_on))
        have cr_61 : CQ G T kp vp u_55 := xu_55.1
        refine lv_pop hx hb dX1_hold_115 rfl ?_
        refine lv_goto (tgt := 126) hx hb dX1_hold_116 (by decide) ?_
        refine lv_aload_n hx hb dX1_hold_126 rfl (lv_at hl 1 rfl) ?_
        have q_62 : (-2147483648) ≤ u_55.1 188 16 ∧ u_55.1 188 16 ≤ 2147483647 := iu_55.fi 188 16 1 (by decide) rfl
        refine g_X1_77 Cx hW (k := 188) (by decide) rfl (v := u_55.1 188 16) rfl dX1_hold_127 ?_
        refine r_if_ne (tgt := 149) hx hb ⟨(by omega), (by omega)⟩ dX1_hold_130 (by decide) (fun c_63 => ?_) (fun c_63 => ?_)
        · refine lv_aload_n hx hb dX1_hold_149 rfl (lv_at hl 1 rfl) ?_
          refine g_X1_77 Cx hW (k := 188) (by decide) rfl (v := u_55.1 188 16) rfl dX1_hold_150 ?_
          exact sIret Cx hr hlk hW hL ⟨iu_55, F_58, (show ∃ T kp vp, _ ∧ _ from ⟨T, kp, vp, hTQ, ⟨fun q => absurd hP q, fun _ => ⟨fun q => absurd q (by omega), fun _ => ⟨fun q => hopt.1 q, fun q => ⟨fun z => (hopt.2 q).1 z, fun z => absurd ((hopt.2 q).2 z) (by omega)⟩⟩, fun q => absurd q (by omega)⟩⟩⟩)⟩ dX1_hold_153
        · refine lv_aload_n hx hb dX1_hold_133 rfl (lv_at hl 1 rfl) ?_
          refine lv_iload_n hx hb dX1_hold_134 rfl (lv_at hl 0 rfl) ?_
          refine lv_bipush (v := iv 7) hx hb dX1_hold_135 (by decide) ?_
          refine r_icmp_ne (tgt := 144) hx hb ⟨(by omega), (by omega)⟩ ⟨(by omega), (by omega)⟩ dX1_hold_137 (by decide) (fun c_64 => ?_) (fun c_64 => ?_)
          · exfalso; omega
          · refine lv_iconst (v := iv 1) hx hb dX1_hold_140 (by decide) ?_
            refine lv_goto (tgt := 145) hx hb dX1_hold_141 (by decide) ?_
            have q_65 : 0 ≤ u_55.1 209 1 ∧ u_55.1 209 1 ≤ 32 := iu_55.fi 209 1 0 (by decide) rfl
            have q_66 : 0 ≤ u_55.1 211 1 ∧ u_55.1 211 1 ≤ 32 := iu_55.fi 211 1 0 (by decide) rfl
            have q_67 : 0 ≤ u_55.1 189 3 ∧ u_55.1 189 3 ≤ 1000000000 := iu_55.fi 189 3 4 (by decide) rfl
            refine sBi (sV (As := [.int (iv 1)]) (rest := []) (k := 188) Cx (b_X1_holdTrees l G u_55 (hv := 1) (o := o) (n := n) (mm := mm) (mx := mx) (A := A) (wh := wh) (T := T) (kp := kp) (vp := vp) (cc := mm) (RR := A) (w := (0 : Int)) (wr := (fun _ => (0 : Int))) (wk := (fun _ => (0 : Int))) (wv := (fun _ => (0 : Int))) (vt := (vtf mx (vp 1))) (vb := (vp 3)) iu_55 (by omega) cr_61 (by omega) hm (xu_55.2.2.2.1.trans (((fu_29 188 rfl).2.2.2 15).trans ((uF_r).trans (((fu_22 188 rfl).2.2.2 15).trans (((fu_14 188 rfl).2.2.2 15).trans (((fu_9 188 rfl).2.2.2 15).trans ((uF_r).trans ((uF_r).trans (uR_on))))))))) (MDv.of hMD (show u_55.1 o 2 = S.1 o 2 from ((fu_55 o (mo_pHO hm).1).1 2).trans (((fu_29 o (mo_p1_189 hm).1).1 2).trans ((uF_ne (fun h => absurd h.2 (by decide))).trans (((fu_22 o (mo_pRw hm).1).1 2).trans (((fu_14 o (mo_p1_189 hm).1).1 2).trans (((fu_9 o (mo_pRd hm).1).1 2).trans ((uF_ne (fun h => absurd h.2 (by decide))).trans ((uF_ne (fun h => absurd h.2 (by decide))).trans (uR_f))))))))) (show u_55.1 o 3 = S.1 o 3 from ((fu_55 o (mo_pHO hm).1).1 3).trans (((fu_29 o (mo_p1_189 hm).1).1 3).trans ((uF_ne (fun h => absurd h.2 (by decide))).trans (((fu_22 o (mo_pRw hm).1).1 3).trans (((fu_14 o (mo_p1_189 hm).1).1 3).trans (((fu_9 o (mo_pRd hm).1).1 3).trans ((uF_ne (fun h => absurd h.2 (by decide))).trans ((uF_ne (fun h => absurd h.2 (by decide))).trans (uR_f))))))))) (show u_55.1 o 4 = S.1 o 4 from ((fu_55 o (mo_pHO hm).1).1 4).trans (((fu_29 o (mo_p1_189 hm).1).1 4).trans ((uF_ne (fun h => absurd h.2 (by decide))).trans (((fu_22 o (mo_pRw hm).1).1 4).trans (((fu_14 o (mo_p1_189 hm).1).1 4).trans (((fu_9 o (mo_pRd hm).1).1 4).trans ((uF_ne (fun h => absurd h.2 (by decide))).trans ((uF_ne (fun h => absurd h.2 (by decide))).trans (uR_f))))))))) (show u_55.2.1 (o + 1) = S.2.1 (o + 1) from funext fun x => ((fu_55 (o + 1) (mo_pHO hm).2.1).2.1 x).trans (((fu_29 (o + 1) (mo_p1_189 hm).2.1).2.1 x).trans ((uF_a).trans (((fu_22 (o + 1) (mo_pRw hm).2.1).2.1 x).trans (((fu_14 (o + 1) (mo_p1_189 hm).2.1).2.1 x).trans (((fu_9 (o + 1) (mo_pRd hm).2.1).2.1 x).trans ((uF_a).trans ((uF_a).trans (uR_a))))))))) (show u_55.2.1 (o + 2) = S.2.1 (o + 2) from funext fun x => ((fu_55 (o + 2) (mo_pHO hm).2.2).2.1 x).trans (((fu_29 (o + 2) (mo_p1_189 hm).2.2).2.1 x).trans ((uF_a).trans (((fu_22 (o + 2) (mo_pRw hm).2.2).2.1 x).trans (((fu_14 (o + 2) (mo_p1_189 hm).2.2).2.1 x).trans (((fu_9 (o + 2) (mo_pRd hm).2.2).2.1 x).trans ((uF_a).trans ((uF_a).trans (uR_a)))))))))) (RWv.of hRm (show u_55.1 193 8 = u_22.1 193 8 from ((fu_55 193 rfl).1 8).trans (((fu_29 193 rfl).1 8).trans (uF_ne (fun h => absurd h.2 (by decide))))) (show u_55.1 193 9 = u_22.1 193 9 from ((fu_55 193 rfl).1 9).trans (((fu_29 193 rfl).1 9).trans (uF_ne (fun h => absurd h.2 (by decide))))) (show u_55.2.1 194 = u_22.2.1 194 from funext fun x => ((fu_55 194 rfl).2.1 x).trans (((fu_29 194 rfl).2.1 x).trans (uF_a)))) ⟨hw14, fun i a b => absurd b (by omega)⟩ hKT (fun j _ _ => rfl) (show bv u_55 209 = vtf mx (vp 1) from bv_59) (show bv u_55 211 = vp 3 from bv_60) (show Hd (bs u_55 209) from (show VTv u_55 (vtf mx (vp 1)) (vp 3) from xu_55.2.2.2.2.2.2.1).2.2.1) (show Hd (bs u_55 211) from (show VTv u_55 (vtf mx (vp 1)) (vp 3) from xu_55.2.2.2.2.2.2.1).2.2.2.1) (by omega) ⟨by omega, by omega, by omega, fun i a b => absurd b (by omega)⟩ (by rw [show u_55.1 189 3 = n + 7 by omega]; exact ho3) (by omega)) (c_X1_122 Cx rfl rfl (rmk_ok (by omega) (by decide))) hW (by decide) rfl rfl rfl hl.1 rfl (Nat.le_of_ble_eq_true rfl) dX1_hold_145 ⟨Nat.le_of_ble_eq_true rfl, Nat.le_of_ble_eq_true rfl⟩) hL (fun r_70 u_68 H locs k_69 hW hL => ?_)
            obtain ⟨iu_68, fu_68, xu_68⟩ := k_69
            have F_71 := F_58.trans (fu_68.to pHT_E)
            have cr_72 : CQ G T kp vp u_68 := xu_68.1
            refine lv_pop hx hb dX1_hold_148 rfl ?_
            refine lv_aload_n hx hb dX1_hold_149 rfl (lv_at hl 1 rfl) ?_
            have q_73 : (-2147483648) ≤ u_68.1 188 16 ∧ u_68.1 188 16 ≤ 2147483647 := iu_68.fi 188 16 1 (by decide) rfl
            refine g_X1_77 Cx hW (k := 188) (by decide) rfl (v := u_68.1 188 16) rfl dX1_hold_150 ?_
            exact sIret Cx hr hlk hW hL ⟨iu_68, F_71, (show ∃ T kp vp, _ ∧ _ from ⟨T, kp, vp, hTQ, ⟨fun q => absurd hP q, fun _ => ⟨fun q => absurd q (by omega), fun _ => ⟨fun q => absurd (hopt.1 q) (by omega), fun q => ⟨fun z => absurd ((hopt.2 q).1 z) (by omega), fun z => HT.cg xu_68.2.2 (by omega) rfl⟩⟩, fun q => absurd q (by omega)⟩⟩⟩)⟩ dX1_hold_153
    · have hu1 : Hd _ := (hP.u (by omega)).1; have hu2 : Hd _ := (hP.u (by omega)).2
      refine lv_aload_n hx hb dX1_hold_95 rfl (lv_at hl 1 rfl) ?_
      have lk_74 : u_29.1 188 16 = 0 := ((fu_29 188 rfl).1 16).trans ((uF_ne (fun h => absurd h.2 (by decide))).trans (((fu_22 188 rfl).1 16).trans (((fu_14 188 rfl).1 16).trans (((fu_9 188 rfl).1 16).trans ((uF_ne (fun h => absurd h.2 (by decide))).trans (uF_on))))))
      have lk_75 : u_29.1 188 14 = 0 := ((fu_29 188 rfl).1 14).trans (uF_on)
      refine sBi (sV (As := []) (rest := []) (k := 188) Cx (b_X1_holdUnbounded l G u_29 (o := o) (n := n) (mm := mm) (mx := mx) (A := A) (wh := wh) (T := T) (kp := kp) (vp := vp) (cc := mm) (RR := A) iu_29 cr_32 (by omega) hm (((fu_29 188 rfl).2.2.2 15).trans ((uF_r).trans (((fu_22 188 rfl).2.2.2 15).trans (((fu_14 188 rfl).2.2.2 15).trans (((fu_9 188 rfl).2.2.2 15).trans ((uF_r).trans ((uF_r).trans (uR_on)))))))) (MDv.of hMD (show u_29.1 o 2 = S.1 o 2 from ((fu_29 o (mo_p1_189 hm).1).1 2).trans ((uF_ne (fun h => absurd h.2 (by decide))).trans (((fu_22 o (mo_pRw hm).1).1 2).trans (((fu_14 o (mo_p1_189 hm).1).1 2).trans (((fu_9 o (mo_pRd hm).1).1 2).trans ((uF_ne (fun h => absurd h.2 (by decide))).trans ((uF_ne (fun h => absurd h.2 (by decide))).trans (uR_f)))))))) (show u_29.1 o 3 = S.1 o 3 from ((fu_29 o (mo_p1_189 hm).1).1 3).trans ((uF_ne (fun h => absurd h.2 (by decide))).trans (((fu_22 o (mo_pRw hm).1).1 3).trans (((fu_14 o (mo_p1_189 hm).1).1 3).trans (((fu_9 o (mo_pRd hm).1).1 3).trans ((uF_ne (fun h => absurd h.2 (by decide))).trans ((uF_ne (fun h => absurd h.2 (by decide))).trans (uR_f)))))))) (show u_29.1 o 4 = S.1 o 4 from ((fu_29 o (mo_p1_189 hm).1).1 4).trans ((uF_ne (fun h => absurd h.2 (by decide))).trans (((fu_22 o (mo_pRw hm).1).1 4).trans (((fu_14 o (mo_p1_189 hm).1).1 4).trans (((fu_9 o (mo_pRd hm).1).1 4).trans ((uF_ne (fun h => absurd h.2 (by decide))).trans ((uF_ne (fun h => absurd h.2 (by decide))).trans (uR_f)))))))) (show u_29.2.1 (o + 1) = S.2.1 (o + 1) from funext fun x => ((fu_29 (o + 1) (mo_p1_189 hm).2.1).2.1 x).trans ((uF_a).trans (((fu_22 (o + 1) (mo_pRw hm).2.1).2.1 x).trans (((fu_14 (o + 1) (mo_p1_189 hm).2.1).2.1 x).trans (((fu_9 (o + 1) (mo_pRd hm).2.1).2.1 x).trans ((uF_a).trans ((uF_a).trans (uR_a)))))))) (show u_29.2.1 (o + 2) = S.2.1 (o + 2) from funext fun x => ((fu_29 (o + 2) (mo_p1_189 hm).2.2).2.1 x).trans ((uF_a).trans (((fu_22 (o + 2) (mo_pRw hm).2.2).2.1 x).trans (((fu_14 (o + 2) (mo_p1_189 hm).2.2).2.1 x).trans (((fu_9 (o + 2) (mo_pRd hm).2.2).2.1 x).trans ((uF_a).trans ((uF_a).trans (uR_a))))))))) (RWv.of hRm (show u_29.1 193 8 = u_22.1 193 8 from ((fu_29 193 rfl).1 8).trans (uF_ne (fun h => absurd h.2 (by decide)))) (show u_29.1 193 9 = u_22.1 193 9 from ((fu_29 193 rfl).1 9).trans (uF_ne (fun h => absurd h.2 (by decide)))) (show u_29.2.1 194 = u_22.2.1 194 from funext fun x => ((fu_29 194 rfl).2.1 x).trans (uF_a))) (by omega) hKT hu1 hu2 (by omega)) (c_X1_112 Cx rfl rfl (rmk_ok (by omega) (by decide))) hW (by decide) rfl rfl rfl hl.1 rfl (Nat.le_of_ble_eq_true rfl) dX1_hold_96 ⟨Nat.le_of_ble_eq_true rfl, Nat.le_of_ble_eq_true rfl⟩) hL (fun r_78 u_76 H locs k_77 hW hL => ?_)
      obtain ⟨iu_76, fu_76, xu_76⟩ := k_77
      have F_79 := F_31.trans (fu_76.to pHO_E)
      have cr_80 : CQ G T kp vp u_76 := xu_76.1
      refine lv_pop hx hb dX1_hold_99 rfl ?_
      refine lv_aload_n hx hb dX1_hold_100 rfl (lv_at hl 1 rfl) ?_
      have q_81 : (-2147483648) ≤ u_76.1 188 16 ∧ u_76.1 188 16 ≤ 2147483647 := iu_76.fi 188 16 1 (by decide) rfl
      refine g_X1_77 Cx hW (k := 188) (by decide) rfl (v := u_76.1 188 16) rfl dX1_hold_101 ?_
      exact sIret Cx hr hlk hW hL ⟨iu_76, F_79, (show ∃ T kp vp, _ ∧ _ from ⟨T, kp, vp, hTQ, ⟨fun q => absurd hP q, fun _ => ⟨fun _ => xu_76.2.2.2.2.2, fun q => absurd q (by omega), fun q => absurd q (by omega)⟩⟩⟩)⟩ dX1_hold_104
  · refine lv_aload_n hx hb dX1_hold_40 rfl (lv_at hl 0 rfl) ?_
    refine lv_iconst (v := iv 1) hx hb dX1_hold_41 (by decide) ?_
    refine lv_aload_n hx hb dX1_hold_42 rfl (lv_at hl 0 rfl) ?_
    refine g_X1_12 Cx hW (k := 188) (by decide) rfl (v := .ref (G.2.2.1 + 189)) (rf_188_0 iu_14) dX1_hold_43 ?_
    have q_82 : 0 ≤ u_14.1 189 3 ∧ u_14.1 189 3 ≤ 1000000000 := iu_14.fi 189 3 4 (by decide) rfl
    have q_83 : 0 ≤ u_14.1 189 2 ∧ u_14.1 189 2 ≤ 30001 := iu_14.fi 189 2 4 (by decide) rfl
    refine sBi (sV (As := []) (rest := [.int (iv 1), .ref (G.2.2.1 + 188)]) (k := 189) Cx (s_X4_start l G u_14  iu_14) (c_X1_91 Cx rfl rfl (rmk_ok (by omega) (by decide))) hW (by decide) rfl rfl rfl hl.1 rfl (Nat.le_of_ble_eq_true rfl) dX1_hold_46 ⟨Nat.le_of_ble_eq_true rfl, Nat.le_of_ble_eq_true rfl⟩) hL (fun r_86 u_84 H locs k_85 hW hL => ?_)
    obtain ⟨eu_84, xu_84⟩ := k_85
    rw [eu_84] at hW
    have q_87 : 0 ≤ S.1 188 14 ∧ S.1 188 14 ≤ 40 := hI.fi 188 14 1 (by decide) rfl
    have lk_88 : u_14.1 188 14 = S.1 188 14 := ((fu_14 188 rfl).1 14).trans (((fu_9 188 rfl).1 14).trans ((uF_ne (fun h => absurd h.2 (by decide))).trans ((uF_ne (fun h => absurd h.2 (by decide))).trans (uR_f))))
    refine sBi (sV (As := [.int (iv 1), .int (iv r_86)]) (rest := []) (k := 188) Cx (b_X1_fail l G u_14 (kn := 1) (wz := r_86) iu_14 (by omega) (by omega)) (c_X1_95 Cx rfl rfl (rmk_ok (by omega) (by decide))) hW (by decide) rfl rfl rfl hl.1 rfl (Nat.le_of_ble_eq_true rfl) dX1_hold_49 ⟨Nat.le_of_ble_eq_true rfl, Nat.le_of_ble_eq_true rfl⟩) hL (fun r_91 u_89 H locs k_90 hW hL => ?_)
    obtain ⟨iu_89, fu_89, xu_89⟩ := k_90
    have F_92 := F_17.trans (fu_89.to (p1_sub rfl))
    refine lv_pop hx hb dX1_hold_52 rfl ?_
    refine lv_aload_n hx hb dX1_hold_53 rfl (lv_at hl 0 rfl) ?_
    have q_93 : (-2147483648) ≤ u_89.1 188 16 ∧ u_89.1 188 16 ≤ 2147483647 := iu_89.fi 188 16 1 (by decide) rfl
    refine g_X1_77 Cx hW (k := 188) (by decide) rfl (v := u_89.1 188 16) rfl dX1_hold_54 ?_
    exact sIret Cx hr hlk hW hL ⟨iu_89, F_92, (show ∃ T kp vp, _ ∧ _ from ⟨T, kp, vp, hTQ, ⟨fun _ => by omega, fun q => absurd (hisP.mpr q) (by omega)⟩⟩)⟩ dX1_hold_57
