def spt (p r : Int → Int) : Nat → Int
  | 0 => 0
  | n + 1 => spt p r n + p ((n + 1 : Nat) : Int) * r ((n + 1 : Nat) : Int)
theorem spt_st {p r : Int → Int} {j : Int} (h : 1 ≤ j) : spt p r (j + 1 - 1).toNat = spt p r (j - 1).toNat + p j * r j := by
  rw [show (j + 1 - 1).toNat = (j - 1).toNat + 1 by omega]
  show spt p r (j - 1).toNat + p (((j - 1).toNat + 1 : Nat) : Int) * r (((j - 1).toNat + 1 : Nat) : Int) = _
  rw [show (((j - 1).toNat + 1 : Nat) : Int) = j by omega]
def PTv (S : sS) (n : Int) (p : Int → Int) : Prop := ∀ j, 0 ≤ j → j ≤ n → nv (S.2.1 208) (j * 8) = p j
theorem PTv.of {S u : sS} {n : Int} {p : Int → Int} (h : PTv S n p) (e : u.2.1 208 = S.2.1 208) : PTv u n p := by unfold PTv; rw [e]; exact h
theorem bsg {G : sG} {S : sS} {y : Nat} {b : Int} {o : Nat} (hI : cX G S 0 y b) (ho : tau o = .inl 0) (hb : bs S o) : (S.1 o 2 < 0 ↔ bv S o < 0) ∧ (0 < S.1 o 2 ↔ 0 < bv S o) ∧ (S.1 o 2 = 0 ↔ bv S o = 0) := by
  have hs : -1 ≤ S.1 o 2 ∧ S.1 o 2 ≤ 1 := hI.fi o 2 0 (big_lt ho) ho
  rcases (by omega : S.1 o 2 = -1 ∨ S.1 o 2 = 0 ∨ S.1 o 2 = 1) with q | q | q
  · have p := VR_p hI ho (hb.1 (by omega)); rw [bv_n (by omega) hs.1]; omega
  · have e : VR S o = 0 := by unfold VR; rw [hb.2 q]; rfl
    rw [bv_p (by omega) hs.2 hb, e]; omega
  · have p := VR_p hI ho (hb.1 (by omega)); rw [bv_p (by omega) hs.2 hb]; omega
/-- what holds of a POINT -/
def okP (n m : Int) (R : Int → Int → Int) (wh p : Int → Int) (mw : Int) : Prop := (∀ j, 1 ≤ j → j ≤ n → 0 ≤ p j ∧ (mw = 1 → wh j = 1 → p j % p 0 = 0)) ∧ ∀ k, 1 ≤ k → k ≤ m → spt p (R k) n.toNat ≤ p 0 * R k 0
def okV (n : Int) (R : Int → Int → Int) (p : Int → Int) (vt vb : Int) : Prop := (spt p (R 0) n.toNat + p 0 * R 0 0) * vb = p 0 * vt
def okL (n m : Int) (R : Int → Int → Int) (p : Int → Int) : Prop := (∀ j, 1 ≤ j → j ≤ n → 0 ≤ p j) ∧ (∀ k, 1 ≤ k → k ≤ m → spt p (R k) n.toNat ≤ 0) ∧ 0 < spt p (R 0) n.toNat
def okF (n c : Int) (R : Int → Int → Int) (ff : Int → Int) : Prop := (∀ j, 1 ≤ j → j ≤ n → 0 ≤ smf ff R j c.toNat) ∧ smf ff R 0 c.toNat < 0
def gwh (n : Int) (g wh : Int → Int) : Prop := ∀ i, 1 ≤ i → i ≤ n → g i ≠ 0 → wh i = 1
def okBd (n c : Int) (R : Int → Int → Int) (wh ff : Int → Int) (q vt vb : Int) : Prop := (∀ j, 1 ≤ j → j ≤ n → q * R 0 j ≤ smf ff R j c.toNat) ∧ (gwh n (R 0) wh → (smf ff R 0 c.toNat + q * R 0 0) / q * vb ≤ vt) ∧ (¬ gwh n (R 0) wh → (smf ff R 0 c.toNat + q * R 0 0) * vb ≤ vt * q)
theorem mo_pFk {o : Nat} (m : mdl o) : pFk o = false ∧ pFk (o + 1) = false ∧ pFk (o + 2) = false := by
  have a : ∀ o, o < 231 → tau o = .inl 3 → pFk o = false ∧ pFk (o + 1) = false ∧ pFk (o + 2) = false := by decide +kernel
  exact a o (mdl_k m) m.1
theorem mo_pPT {o : Nat} (m : mdl o) : pPT o = false ∧ pPT (o + 1) = false ∧ pPT (o + 2) = false := by
  have a : ∀ o, o < 231 → tau o = .inl 3 → pPT o = false ∧ pPT (o + 1) = false ∧ pPT (o + 2) = false := by decide +kernel
  exact a o (mdl_k m) m.1
theorem mo_pBr {o : Nat} (m : mdl o) : pBr o = false ∧ pBr (o + 1) = false ∧ pBr (o + 2) = false := by
  have a : ∀ o, o < 231 → tau o = .inl 3 → pBr o = false ∧ pBr (o + 1) = false ∧ pBr (o + 2) = false := by decide +kernel
  exact a o (mdl_k m) m.1
theorem mo_pHT {o : Nat} (m : mdl o) : pHT o = false ∧ pHT (o + 1) = false ∧ pHT (o + 2) = false := by
  have a : ∀ o, o < 231 → tau o = .inl 3 → pHT o = false ∧ pHT (o + 1) = false ∧ pHT (o + 2) = false := by decide +kernel
  exact a o (mdl_k m) m.1
theorem mo_pS8 {o : Nat} (m : mdl o) : pS8 o = false ∧ pS8 (o + 1) = false ∧ pS8 (o + 2) = false := by
  have a : ∀ o, o < 231 → tau o = .inl 3 → pS8 o = false ∧ pS8 (o + 1) = false ∧ pS8 (o + 2) = false := by decide +kernel
  exact a o (mdl_k m) m.1
theorem mo_pS6 {o : Nat} (m : mdl o) : pS6 o = false ∧ pS6 (o + 1) = false ∧ pS6 (o + 2) = false := by
  have a : ∀ o, o < 231 → tau o = .inl 3 → pS6 o = false ∧ pS6 (o + 1) = false ∧ pS6 (o + 2) = false := by decide +kernel
  exact a o (mdl_k m) m.1
theorem mo_pS12 {o : Nat} (m : mdl o) : pS12 o = false ∧ pS12 (o + 1) = false ∧ pS12 (o + 2) = false := by
  have a : ∀ o, o < 231 → tau o = .inl 3 → pS12 o = false ∧ pS12 (o + 1) = false ∧ pS12 (o + 2) = false := by decide +kernel
  exact a o (mdl_k m) m.1
theorem mo_pTp {o : Nat} (m : mdl o) : pTp o = false ∧ pTp (o + 1) = false ∧ pTp (o + 2) = false := by
  have a : ∀ o, o < 231 → tau o = .inl 3 → pTp o = false ∧ pTp (o + 1) = false ∧ pTp (o + 2) = false := by decide +kernel
  exact a o (mdl_k m) m.1
theorem mo_pTq {o : Nat} (m : mdl o) : pTq o = false ∧ pTq (o + 1) = false ∧ pTq (o + 2) = false := by
  have a : ∀ o, o < 231 → tau o = .inl 3 → pTq o = false ∧ pTq (o + 1) = false ∧ pTq (o + 2) = false := by decide +kernel
  exact a o (mdl_k m) m.1
theorem mo_pE {o : Nat} (m : mdl o) : pE o = false ∧ pE (o + 1) = false ∧ pE (o + 2) = false := by
  have a : ∀ o, o < 231 → tau o = .inl 3 → pE o = false ∧ pE (o + 1) = false ∧ pE (o + 2) = false := by decide +kernel
  exact a o (mdl_k m) m.1
theorem mo_pW {o : Nat} (m : mdl o) : pW o = false ∧ pW (o + 1) = false ∧ pW (o + 2) = false := by
  have a : ∀ o, o < 231 → tau o = .inl 3 → pW o = false ∧ pW (o + 1) = false ∧ pW (o + 2) = false := by decide +kernel
  exact a o (mdl_k m) m.1
theorem mo_pRd {o : Nat} (m : mdl o) : pRd o = false ∧ pRd (o + 1) = false ∧ pRd (o + 2) = false := by
  have a : ∀ o, o < 231 → tau o = .inl 3 → pRd o = false ∧ pRd (o + 1) = false ∧ pRd (o + 2) = false := by decide +kernel
  exact a o (mdl_k m) m.1
theorem mo_pRg_209 {o : Nat} (m : mdl o) : (pRg 209) o = false ∧ (pRg 209) (o + 1) = false ∧ (pRg 209) (o + 2) = false := by
  have a : ∀ o, o < 231 → tau o = .inl 3 → (pRg 209) o = false ∧ (pRg 209) (o + 1) = false ∧ (pRg 209) (o + 2) = false := by decide +kernel
  exact a o (mdl_k m) m.1
theorem mo_pRg_211 {o : Nat} (m : mdl o) : (pRg 211) o = false ∧ (pRg 211) (o + 1) = false ∧ (pRg 211) (o + 2) = false := by
  have a : ∀ o, o < 231 → tau o = .inl 3 → (pRg 211) o = false ∧ (pRg 211) (o + 1) = false ∧ (pRg 211) (o + 2) = false := by decide +kernel
  exact a o (mdl_k m) m.1
theorem mo_pRg_213 {o : Nat} (m : mdl o) : (pRg 213) o = false ∧ (pRg 213) (o + 1) = false ∧ (pRg 213) (o + 2) = false := by
  have a : ∀ o, o < 231 → tau o = .inl 3 → (pRg 213) o = false ∧ (pRg 213) (o + 1) = false ∧ (pRg 213) (o + 2) = false := by decide +kernel
  exact a o (mdl_k m) m.1
theorem mo_pRg_219 {o : Nat} (m : mdl o) : (pRg 219) o = false ∧ (pRg 219) (o + 1) = false ∧ (pRg 219) (o + 2) = false := by
  have a : ∀ o, o < 231 → tau o = .inl 3 → (pRg 219) o = false ∧ (pRg 219) (o + 1) = false ∧ (pRg 219) (o + 2) = false := by decide +kernel
  exact a o (mdl_k m) m.1
theorem mo_pK_193_202 {o : Nat} (m : mdl o) : (pK 193 202) o = false ∧ (pK 193 202) (o + 1) = false ∧ (pK 193 202) (o + 2) = false := by
  have a : ∀ o, o < 231 → tau o = .inl 3 → (pK 193 202) o = false ∧ (pK 193 202) (o + 1) = false ∧ (pK 193 202) (o + 2) = false := by decide +kernel
  exact a o (mdl_k m) m.1
theorem mo_pK_193_215 {o : Nat} (m : mdl o) : (pK 193 215) o = false ∧ (pK 193 215) (o + 1) = false ∧ (pK 193 215) (o + 2) = false := by
  have a : ∀ o, o < 231 → tau o = .inl 3 → (pK 193 215) o = false ∧ (pK 193 215) (o + 1) = false ∧ (pK 193 215) (o + 2) = false := by decide +kernel
  exact a o (mdl_k m) m.1
set_option maxRecDepth 100000 in
set_option maxHeartbeats 4000000 in
theorem b_X1_sumAt (l : Launch) (G : sG) (S : sS) {k : Int} {o : Nat} {n mm mx : Int} {A : Int → Int → Int} {wh : Int → Int} {cc : Int} {RR : Int → Int → Int} {pp : Int → Int} (hI : cX G S 0 0 0) (hk : 0 ≤ k ∧ k ≤ 40) (hkc : k ≤ cc) (hm : mdl o) (hmr : S.2.2.2 188 15 = .ref (G.2.2.1 + o)) (hMD : Hd (MDv S o n mm mx A wh)) (hR : Hd (RWv S n cc RR)) (hP : Hd (PTv S n pp)) : Met l yX1_sumAt (.code yX1_sumAt cX1_sumAt 3 none :: tb) (rmk 4 0 0) (sPc G 294 S [.ref (G.2.2.1 + 188), .int (iv k)]) (sQv G 294 (fun u => cX G u 0 0 0 ∧ Fr S u pS8 ∧ (u.1 215 1 ≤ 15 ∧ Hd (u.1 215 1 = 15 → u.2.1 216 14 ≤ 12) ∧ Hd (bv u 215 = spt pp (RR k) n.toNat) ∧ Hd (bs u 215)))) 0 0 (sF G) := by
  refine sEnter (by decide) (Nat.le_of_ble_eq_true rfl) ?_
  intro p e s m args below meth c Cx hr hlk hnm hW ls hl
  have Cx : sC G p m c cX1_sumAt 3 s args RX1 := Cx
  obtain ⟨hx, hb, hml, hown, hts⟩ := id Cx.1
  have hL : sL G [] := sL_nil
  have hl : lv_has ls 3 [(0, .ref (G.2.2.1 + 188)), (1, .int (iv k))] := hl
  have hW0 := hW
  have hMn := hMD.1; have hMm := hMD.2.1; have hMx := hMD.2.2.1; have hn12 : 0 ≤ S.1 o 2 ∧ S.1 o 2 ≤ 12 := hI.fi o 2 3 (mdl_k hm) hm.1; have hm16 : 0 ≤ S.1 o 3 ∧ S.1 o 3 ≤ 16 := hI.fi o 3 3 (mdl_k hm) hm.1
  refine lv_aload_n hx hb dX1_sumAt_0 rfl (lv_at hl 0 rfl) ?_
  refine g_X1_42 Cx hW (k := 188) (by decide) rfl (v := .ref (G.2.2.1 + 215)) (rf_188_6 hI) dX1_sumAt_1 ?_
  refine lv_lconst (v := jv 0) hx hb dX1_sumAt_4 (by decide) ?_
  refine sBv (sV (As := [.long (jv 0)]) (rest := []) (k := 215) Cx (b_X0_put l G S (o := 215) (v := 0) hI rfl (by omega)) (c_X1_153 Cx rfl rfl (rmk_ok (by omega) (by decide))) hW (by decide) rfl rfl rfl hl.1 rfl (Nat.le_of_ble_eq_true rfl) dX1_sumAt_5 ⟨Nat.le_of_ble_eq_true rfl, Nat.le_of_ble_eq_true rfl⟩) hL (fun u_1 H locs k_2 hW hL => ?_)
  obtain ⟨iu_1, fu_1, xu_1⟩ := k_2
  have F_3 := (Fr.rf : Fr S S pS8).trans (fu_1.to (pB_sub rfl rfl))
  have bv_4 : bv u_1 215 = 0 := (xu_1.2.2.2.2.2 (by decide) (by decide)).1
  refine lv_iconst (v := iv 1) hx hb dX1_sumAt_8 (by decide) ?_
  refine lv_istore_n (lv' := [(2, .int (iv 1)), (0, .ref (G.2.2.1 + 188)), (1, .int (iv k))]) hx hb dX1_sumAt_9 rfl hl (by decide) rfl (fun ls hl => ?_)
  have loop_10 : ∀ (fuel : Nat) (S10 : sS) (j : Int) (H : Heap) (locs : List Loc) (ls : Array Slot), (13 - j).toNat < fuel → (cX G S10 0 0 0) → (Fr S S10 pS8) → (Fr u_1 S10 pS8) → (1 ≤ j ∧ j ≤ 13) → (j ≤ n + 1) → (S10.1 215 1 ≤ 15) → (Hd (S10.1 215 1 = 15 → S10.2.1 216 14 ≤ j - 1)) → (Hd (bv S10 215 = spt pp (RR k) (j - 1).toNat)) → (Hd (bs S10 215)) → sW G 294 S10 H → sL G locs → lv_has ls 3 [(2, .int (iv j)), (0, .ref (G.2.2.1 + 188)), (1, .int (iv k))] → W p l e (rmk 4 0 0) s m args below meth c H locs 0 0 (MQ below (sQv G 294 (fun u => cX G u 0 0 0 ∧ Fr S u pS8 ∧ (u.1 215 1 ≤ 15 ∧ Hd (u.1 215 1 = 15 → u.2.1 216 14 ≤ 12) ∧ Hd (bv u 215 = spt pp (RR k) n.toNat) ∧ Hd (bs u 215)))) args s 0 0 (sF G)) (F0 m 10 ls []) := by
    intro fuel
    induction fuel with
    | zero => intro S10 j H locs ls hmeas hI10 hFm10 hL10_ hj hjn hc ht hbv hbs hW hL hl; exact absurd hmeas (Nat.not_lt_zero _)
    | succ fuel ih_10 =>
      intro S10 j H locs ls hmeas hI10 hFm10 hL10_ hj hjn hc ht hbv hbs hW hL hl
      refine lv_iload_n hx hb dX1_sumAt_10 rfl (lv_at hl 0 rfl) ?_
      refine lv_aload_n hx hb dX1_sumAt_11 rfl (lv_at hl 1 rfl) ?_
      refine g_X1_69 Cx hW (k := 188) (by decide) rfl (v := .ref (G.2.2.1 + o)) ((((hL10_ 188 rfl).2.2.2 15).trans ((fu_1 188 rfl).2.2.2 15)).trans hmr) dX1_sumAt_12 ?_
      have q_5 : 0 ≤ S.1 o 2 ∧ S.1 o 2 ≤ 12 := hI.fi o 2 3 (mdl_k hm) hm.1
      refine g_X1_84 Cx hW (k := o) (mdl_l hm) hm.1 (v := S.1 o 2) (((hL10_ o (mo_pS8 hm).1).1 2).trans ((fu_1 o (pB_no (tau_ne hm.1 (rfl : tau 215 = .inl 0) (fun h => by cases h)) (tau_ne hm.1 (rfl : tau 216 = .inr (.int, 32)) (fun h => by cases h)))).1 2)) dX1_sumAt_15 ?_
      refine r_icmp_gt (tgt := 82) hx hb ⟨(by omega), (by omega)⟩ ⟨(by omega), (by omega)⟩ dX1_sumAt_18 (by decide) (fun c_6 => ?_) (fun c_6 => ?_)
      · have q_7 : 0 ≤ S10.1 215 1 ∧ S10.1 215 1 ≤ 32 := hI10.fi 215 1 0 (by decide) rfl
        exact sVret Cx hr hlk hW hL ⟨hI10, hFm10, ⟨(by omega), (fun q => by have e := ht q; omega), (show _ = _ by rw [show n = j - 1 by omega]; exact hbv), hbs⟩⟩ dX1_sumAt_82
      · refine lv_aload_n hx hb dX1_sumAt_21 rfl (lv_at hl 1 rfl) ?_
        refine g_X1_48 Cx hW (k := 188) (by decide) rfl (v := .ref (G.2.2.1 + 219)) (rf_188_8 hI10) dX1_sumAt_22 ?_
        refine lv_aload_n hx hb dX1_sumAt_25 rfl (lv_at hl 1 rfl) ?_
        refine g_X1_27 Cx hW (k := 188) (by decide) rfl (v := .ref (G.2.2.1 + 208)) (rf_188_2 hI10) dX1_sumAt_26 ?_
        refine lv_iload_n hx hb dX1_sumAt_29 rfl (lv_at hl 0 rfl) ?_
        refine lv_bipush (v := iv 8) hx hb dX1_sumAt_30 (by decide) ?_
        refine r_imul hx hb dX1_sumAt_32 ?_
        refine sBv (sV (As := [.ref (G.2.2.1 + 208), .int (iv (j * 8))]) (rest := []) (k := 219) Cx (b_X0_load l G S10 (o := 219) (k := 208) (a := j * 8) (N := 104) hI10 rfl ⟨by decide, rfl, by decide, rfl, rfl, rfl⟩ (by omega)) (c_X1_157 Cx rfl rfl (rmk_ok (by omega) (by decide))) hW (by decide) rfl rfl rfl hl.1 rfl (Nat.le_of_ble_eq_true rfl) dX1_sumAt_33 ⟨Nat.le_of_ble_eq_true rfl, Nat.le_of_ble_eq_true rfl⟩) hL (fun u_8 H locs k_9 hW hL => ?_)
        obtain ⟨iu_8, fu_8, xu_8⟩ := k_9
        have F_10 := hFm10.trans (fu_8.to (pB_sub rfl rfl))
        have F_11 := hL10_.trans (fu_8.to (pB_sub rfl rfl))
        have yu_8 : u_8.1 219 1 ≤ 7 := xu_8.1
        have bv_12 : bv u_8 219 = nv (S10.2.1 208) (j * 8) := xu_8.2.2.2.2.2.2.2.1
        have bv_13 : bv u_8 219 = pp j := ((show bv u_8 219 = nv (S10.2.1 208) (j * 8) from bv_12)).trans ((PTv.of hP (show S10.2.1 208 = S.2.1 208 from funext fun x => ((hL10_ 208 rfl).2.1 x).trans ((fu_1 208 rfl).2.1 x))) j (by omega) (by omega))
        refine lv_aload_n hx hb dX1_sumAt_36 rfl (lv_at hl 1 rfl) ?_
        refine g_X1_21 Cx hW (k := 188) (by decide) rfl (v := .ref (G.2.2.1 + 193)) (rf_188_1 iu_8) dX1_sumAt_37 ?_
        refine lv_iload_n hx hb dX1_sumAt_40 rfl (lv_at hl 2 rfl) ?_
        refine lv_iload_n hx hb dX1_sumAt_41 rfl (lv_at hl 0 rfl) ?_
        refine lv_aload_n hx hb dX1_sumAt_42 rfl (lv_at hl 1 rfl) ?_
        refine g_X1_45 Cx hW (k := 188) (by decide) rfl (v := .ref (G.2.2.1 + 217)) (rf_188_7 iu_8) dX1_sumAt_43 ?_
        refine sBv (sV (As := [.int (iv k), .int (iv j), .ref (G.2.2.1 + 217)]) (rest := []) (k := 193) Cx (b_X6_number_193 l G u_8 (k := k) (j := j) (v := 217) (n := n) (cc := cc) (RR := RR) iu_8 rfl (by omega) (by omega) (RWv.of hR (show u_8.1 193 8 = S.1 193 8 from ((fu_8 193 rfl).1 8).trans (((hL10_ 193 rfl).1 8).trans ((fu_1 193 rfl).1 8))) (show u_8.1 193 9 = S.1 193 9 from ((fu_8 193 rfl).1 9).trans (((hL10_ 193 rfl).1 9).trans ((fu_1 193 rfl).1 9))) (show u_8.2.1 194 = S.2.1 194 from funext fun x => ((fu_8 194 rfl).2.1 x).trans (((hL10_ 194 rfl).2.1 x).trans ((fu_1 194 rfl).2.1 x)))) (by omega)) (c_X1_160 Cx rfl rfl (rmk_ok (by omega) (by decide))) hW (by decide) rfl rfl rfl hl.1 rfl (Nat.le_of_ble_eq_true rfl) dX1_sumAt_46 ⟨Nat.le_of_ble_eq_true rfl, Nat.le_of_ble_eq_true rfl⟩) hL (fun u_14 H locs k_15 hW hL => ?_)
        obtain ⟨iu_14, fu_14, xu_14⟩ := k_15
        have F_16 := F_10.trans (fu_14.to (pB_sub rfl rfl))
        have F_17 := F_11.trans (fu_14.to (pB_sub rfl rfl))
        have bv_18 : bv u_14 217 = RR k j := xu_14.2.1
        refine lv_aload_n hx hb dX1_sumAt_49 rfl (lv_at hl 1 rfl) ?_
        refine g_X1_51 Cx hW (k := 188) (by decide) rfl (v := .ref (G.2.2.1 + 221)) (rf_188_9 iu_14) dX1_sumAt_50 ?_
        refine lv_aload_n hx hb dX1_sumAt_53 rfl (lv_at hl 1 rfl) ?_
        refine g_X1_48 Cx hW (k := 188) (by decide) rfl (v := .ref (G.2.2.1 + 219)) (rf_188_8 iu_14) dX1_sumAt_54 ?_
        refine lv_aload_n hx hb dX1_sumAt_57 rfl (lv_at hl 1 rfl) ?_
        refine g_X1_45 Cx hW (k := 188) (by decide) rfl (v := .ref (G.2.2.1 + 217)) (rf_188_7 iu_14) dX1_sumAt_58 ?_
        have q_19 : 0 ≤ u_8.1 219 1 ∧ u_8.1 219 1 ≤ 32 := iu_8.fi 219 1 0 (by decide) rfl
        have lk_20 : u_14.1 219 1 = u_8.1 219 1 := (fu_14 219 rfl).1 1
        have q_21 : 0 ≤ u_14.1 217 1 ∧ u_14.1 217 1 ≤ 32 := iu_14.fi 217 1 0 (by decide) rfl
        refine sBv (sV (As := [.ref (G.2.2.1 + 219), .ref (G.2.2.1 + 217)]) (rest := []) (k := 221) Cx (b_X0_product l G u_14 (o := 221) (a := 219) (b := 217) iu_14 rfl rfl rfl (show (221 : Nat) ≠ 219 by decide) (show (221 : Nat) ≠ 217 by decide)) (c_X1_163 Cx rfl rfl (rmk_ok (by omega) (by decide))) hW (by decide) rfl rfl rfl hl.1 rfl (Nat.le_of_ble_eq_true rfl) dX1_sumAt_61 ⟨Nat.le_of_ble_eq_true rfl, Nat.le_of_ble_eq_true rfl⟩) hL (fun u_22 H locs k_23 hW hL => ?_)
        obtain ⟨iu_22, fu_22, xu_22⟩ := k_23
        have F_24 := F_16.trans (fu_22.to (pB_sub rfl rfl))
        have F_25 := F_17.trans (fu_22.to (pB_sub rfl rfl))
        have bv_26 : bv u_22 221 = (pp j) * (RR k j) := (by have e : bv u_22 221 = _ := xu_22.2.1 (by omega); rw [(show bv u_14 219 = pp j from (bv_fr fu_14 rfl rfl).trans (bv_13)), (show bv u_14 217 = RR k j from bv_18)] at e; exact e)
        refine lv_aload_n hx hb dX1_sumAt_64 rfl (lv_at hl 1 rfl) ?_
        refine g_X1_42 Cx hW (k := 188) (by decide) rfl (v := .ref (G.2.2.1 + 215)) (rf_188_6 iu_22) dX1_sumAt_65 ?_
        refine lv_aload_n hx hb dX1_sumAt_68 rfl (lv_at hl 1 rfl) ?_
        refine g_X1_51 Cx hW (k := 188) (by decide) rfl (v := .ref (G.2.2.1 + 221)) (rf_188_9 iu_22) dX1_sumAt_69 ?_
        refine lv_iconst (v := iv 1) hx hb dX1_sumAt_72 (by decide) ?_
        have q_27 : 0 ≤ u_22.1 221 1 ∧ u_22.1 221 1 ≤ 32 := iu_22.fi 221 1 0 (by decide) rfl
        have q_28 : 0 ≤ S10.1 215 1 ∧ S10.1 215 1 ≤ 32 := hI10.fi 215 1 0 (by decide) rfl
        have lk_29 : u_22.1 215 1 = S10.1 215 1 := ((fu_22 215 rfl).1 1).trans (((fu_14 215 rfl).1 1).trans ((fu_8 215 rfl).1 1))
        have q_30 : (-1) ≤ S10.1 215 2 ∧ S10.1 215 2 ≤ 1 := hI10.fi 215 2 0 (by decide) rfl
        have lk_31 : u_22.1 215 2 = S10.1 215 2 := ((fu_22 215 rfl).1 2).trans (((fu_14 215 rfl).1 2).trans ((fu_8 215 rfl).1 2))
        have q_32 : (-1) ≤ u_22.1 221 2 ∧ u_22.1 221 2 ≤ 1 := iu_22.fi 221 2 0 (by decide) rfl
        refine sBv (sV (As := [.ref (G.2.2.1 + 221), .int (iv 1)]) (rest := []) (k := 215) Cx (b_X0_add_p l G u_22 (o := 215) (a := 221) (n := 14) (t := j - 1) iu_22 rfl rfl (show (215 : Nat) ≠ 221 by decide) (by omega) (fun q => by have e : u_22.2.1 216 14 = S10.2.1 216 14 := ((fu_22 216 rfl).2.1 14).trans (((fu_14 216 rfl).2.1 14).trans ((fu_8 216 rfl).2.1 14)); rw [e]; exact ht (by omega)) (show Hd (bs u_22 215) from (bs_fr fu_22 rfl (bs_fr fu_14 rfl (bs_fr fu_8 rfl hbs)))) (show Hd (bs u_22 221) from xu_22.2.2)) (c_X1_166 Cx rfl rfl (rmk_ok (by omega) (by decide))) hW (by decide) rfl rfl rfl hl.1 rfl (Nat.le_of_ble_eq_true rfl) dX1_sumAt_73 ⟨Nat.le_of_ble_eq_true rfl, Nat.le_of_ble_eq_true rfl⟩) hL (fun u_33 H locs k_34 hW hL => ?_)
        obtain ⟨iu_33, fu_33, xu_33⟩ := k_34
        have F_35 := F_24.trans (fu_33.to (pB_sub rfl rfl))
        have F_36 := F_25.trans (fu_33.to (pB_sub rfl rfl))
        have bv_37 : bv u_33 215 = bv S10 215 + ((pp j) * (RR k j)) := (by have e : bv u_33 215 = _ := xu_33.2.2.2.2.1; rw [(show bv u_22 215 = bv S10 215 from (bv_fr fu_22 rfl rfl).trans ((bv_fr fu_14 rfl rfl).trans (bv_fr fu_8 rfl rfl))), (show bv u_22 221 = (pp j) * (RR k j) from bv_26)] at e; omega)
        refine lv_iinc (v := iv (j + 1)) (lv' := [(2, .int (iv (j + 1))), (0, .ref (G.2.2.1 + 188)), (1, .int (iv k))]) hx hb dX1_sumAt_76 hl (k := 0) rfl ((Int32.ofInt_add _ _).symm) (by decide) rfl (fun ls hl => ?_)
        refine lv_goto (tgt := 10) hx hb dX1_sumAt_79 (by decide) ?_
        have q_38 : 0 ≤ u_33.1 215 1 ∧ u_33.1 215 1 ≤ 32 := iu_33.fi 215 1 0 (by decide) rfl
        exact ih_10 u_33 (j + 1) _ _ _ (by omega) iu_33 F_35 F_36 (by omega) (by omega) (by omega) (fun q => by have e : u_33.2.1 216 14 ≤ j - 1 + 1 := xu_33.2.1 q; omega) (show _ = _ by rw [spt_st (by omega), ← (show bv S10 215 = _ from hbv)]; exact (show bv u_33 215 = bv S10 215 + ((pp j) * (RR k j)) from bv_37)) (show Hd (bs u_33 215) from xu_33.2.2.2.2.2) hW hL (lv_sub hl [0, 1, 2] rfl)
  have q_39 : 0 ≤ u_1.1 215 1 ∧ u_1.1 215 1 ≤ 32 := iu_1.fi 215 1 0 (by decide) rfl
  exact loop_10 (_ + 1) u_1 1 _ _ _ (Nat.lt_succ_self _) iu_1 F_3 Fr.rf (by omega) (by omega) (by omega) (fun q => absurd q (by omega)) (show _ = _ by rw [(show bv u_1 215 = 0 from bv_4)]; rfl) (show Hd (bs u_1 215) from (xu_1.2.2.2.2.2 (by decide) (by decide)).2) hW hL (lv_sub hl [0, 1, 2] rfl)

set_option maxRecDepth 100000 in
set_option maxHeartbeats 4000000 in
theorem b_X1_scaleBound (l : Launch) (G : sG) (S : sS) {k : Int} {o : Nat} {n mm mx : Int} {A : Int → Int → Int} {wh : Int → Int} {cc : Int} {RR : Int → Int → Int} {pp : Int → Int} (hI : cX G S 0 0 0) (hk : 0 ≤ k ∧ k ≤ 40) (hkc : k ≤ cc) (hm : mdl o) (hmr : S.2.2.2 188 15 = .ref (G.2.2.1 + o)) (hMD : Hd (MDv S o n mm mx A wh)) (hR : Hd (RWv S n cc RR)) (hP : Hd (PTv S n pp)) : Met l yX1_scaleBound (.code yX1_scaleBound cX1_scaleBound 2 none :: tb) (rmk 4 0 0) (sPc G 294 S [.ref (G.2.2.1 + 188), .int (iv k)]) (sQv G 294 (fun u => cX G u 0 0 0 ∧ Fr S u pS6 ∧ (u.1 221 1 ≤ 14 ∧ Hd (bv u 221 = pp 0 * RR k 0) ∧ Hd (bs u 221)))) 0 0 (sF G) := by
  refine sEnter (by decide) (Nat.le_of_ble_eq_true rfl) ?_
  intro p e s m args below meth c Cx hr hlk hnm hW ls hl
  have Cx : sC G p m c cX1_scaleBound 2 s args RX1 := Cx
  obtain ⟨hx, hb, hml, hown, hts⟩ := id Cx.1
  have hL : sL G [] := sL_nil
  have hl : lv_has ls 2 [(0, .ref (G.2.2.1 + 188)), (1, .int (iv k))] := hl
  have hW0 := hW
  have hMn := hMD.1; have hMm := hMD.2.1; have hMx := hMD.2.2.1; have hn12 : 0 ≤ S.1 o 2 ∧ S.1 o 2 ≤ 12 := hI.fi o 2 3 (mdl_k hm) hm.1; have hm16 : 0 ≤ S.1 o 3 ∧ S.1 o 3 ≤ 16 := hI.fi o 3 3 (mdl_k hm) hm.1
  refine lv_aload_n hx hb dX1_scaleBound_0 rfl (lv_at hl 0 rfl) ?_
  refine g_X1_48 Cx hW (k := 188) (by decide) rfl (v := .ref (G.2.2.1 + 219)) (rf_188_8 hI) dX1_scaleBound_1 ?_
  refine lv_aload_n hx hb dX1_scaleBound_4 rfl (lv_at hl 0 rfl) ?_
  refine g_X1_27 Cx hW (k := 188) (by decide) rfl (v := .ref (G.2.2.1 + 208)) (rf_188_2 hI) dX1_scaleBound_5 ?_
  refine lv_iconst (v := iv 0) hx hb dX1_scaleBound_8 (by decide) ?_
  refine sBv (sV (As := [.ref (G.2.2.1 + 208), .int (iv 0)]) (rest := []) (k := 219) Cx (b_X0_load l G S (o := 219) (k := 208) (a := 0) (N := 104) hI rfl ⟨by decide, rfl, by decide, rfl, rfl, rfl⟩ (by omega)) (c_X1_157 Cx rfl rfl (rmk_ok (by omega) (by decide))) hW (by decide) rfl rfl rfl hl.1 rfl (Nat.le_of_ble_eq_true rfl) dX1_scaleBound_9 ⟨Nat.le_of_ble_eq_true rfl, Nat.le_of_ble_eq_true rfl⟩) hL (fun u_1 H locs k_2 hW hL => ?_)
  obtain ⟨iu_1, fu_1, xu_1⟩ := k_2
  have F_3 := (Fr.rf : Fr S S pS6).trans (fu_1.to (pB_sub rfl rfl))
  have yu_1 : u_1.1 219 1 ≤ 7 := xu_1.1
  have bv_4 : bv u_1 219 = nv (S.2.1 208) 0 := xu_1.2.2.2.2.2.2.2.1
  have bv_5 : bv u_1 219 = pp 0 := ((show bv u_1 219 = nv (S.2.1 208) 0 from bv_4)).trans (hP 0 (by omega) (by omega))
  refine lv_aload_n hx hb dX1_scaleBound_12 rfl (lv_at hl 0 rfl) ?_
  refine g_X1_21 Cx hW (k := 188) (by decide) rfl (v := .ref (G.2.2.1 + 193)) (rf_188_1 iu_1) dX1_scaleBound_13 ?_
  refine lv_iload_n hx hb dX1_scaleBound_16 rfl (lv_at hl 1 rfl) ?_
  refine lv_iconst (v := iv 0) hx hb dX1_scaleBound_17 (by decide) ?_
  refine lv_aload_n hx hb dX1_scaleBound_18 rfl (lv_at hl 0 rfl) ?_
  refine g_X1_45 Cx hW (k := 188) (by decide) rfl (v := .ref (G.2.2.1 + 217)) (rf_188_7 iu_1) dX1_scaleBound_19 ?_
  refine sBv (sV (As := [.int (iv k), .int (iv 0), .ref (G.2.2.1 + 217)]) (rest := []) (k := 193) Cx (b_X6_number_193 l G u_1 (k := k) (j := 0) (v := 217) (n := n) (cc := cc) (RR := RR) iu_1 rfl (by omega) (by omega) (RWv.of hR (show u_1.1 193 8 = S.1 193 8 from (fu_1 193 rfl).1 8) (show u_1.1 193 9 = S.1 193 9 from (fu_1 193 rfl).1 9) (show u_1.2.1 194 = S.2.1 194 from funext fun x => (fu_1 194 rfl).2.1 x)) (by omega)) (c_X1_160 Cx rfl rfl (rmk_ok (by omega) (by decide))) hW (by decide) rfl rfl rfl hl.1 rfl (Nat.le_of_ble_eq_true rfl) dX1_scaleBound_22 ⟨Nat.le_of_ble_eq_true rfl, Nat.le_of_ble_eq_true rfl⟩) hL (fun u_6 H locs k_7 hW hL => ?_)
  obtain ⟨iu_6, fu_6, xu_6⟩ := k_7
  have F_8 := F_3.trans (fu_6.to (pB_sub rfl rfl))
  have bv_9 : bv u_6 217 = RR k 0 := xu_6.2.1
  refine lv_aload_n hx hb dX1_scaleBound_25 rfl (lv_at hl 0 rfl) ?_
  refine g_X1_51 Cx hW (k := 188) (by decide) rfl (v := .ref (G.2.2.1 + 221)) (rf_188_9 iu_6) dX1_scaleBound_26 ?_
  refine lv_aload_n hx hb dX1_scaleBound_29 rfl (lv_at hl 0 rfl) ?_
  refine g_X1_48 Cx hW (k := 188) (by decide) rfl (v := .ref (G.2.2.1 + 219)) (rf_188_8 iu_6) dX1_scaleBound_30 ?_
  refine lv_aload_n hx hb dX1_scaleBound_33 rfl (lv_at hl 0 rfl) ?_
  refine g_X1_45 Cx hW (k := 188) (by decide) rfl (v := .ref (G.2.2.1 + 217)) (rf_188_7 iu_6) dX1_scaleBound_34 ?_
  have q_10 : 0 ≤ u_1.1 219 1 ∧ u_1.1 219 1 ≤ 32 := iu_1.fi 219 1 0 (by decide) rfl
  have lk_11 : u_6.1 219 1 = u_1.1 219 1 := (fu_6 219 rfl).1 1
  have q_12 : 0 ≤ u_6.1 217 1 ∧ u_6.1 217 1 ≤ 32 := iu_6.fi 217 1 0 (by decide) rfl
  refine sBv (sV (As := [.ref (G.2.2.1 + 219), .ref (G.2.2.1 + 217)]) (rest := []) (k := 221) Cx (b_X0_product l G u_6 (o := 221) (a := 219) (b := 217) iu_6 rfl rfl rfl (show (221 : Nat) ≠ 219 by decide) (show (221 : Nat) ≠ 217 by decide)) (c_X1_163 Cx rfl rfl (rmk_ok (by omega) (by decide))) hW (by decide) rfl rfl rfl hl.1 rfl (Nat.le_of_ble_eq_true rfl) dX1_scaleBound_37 ⟨Nat.le_of_ble_eq_true rfl, Nat.le_of_ble_eq_true rfl⟩) hL (fun u_13 H locs k_14 hW hL => ?_)
  obtain ⟨iu_13, fu_13, xu_13⟩ := k_14
  have F_15 := F_8.trans (fu_13.to (pB_sub rfl rfl))
  have bv_16 : bv u_13 221 = (pp 0) * (RR k 0) := (by have e : bv u_13 221 = _ := xu_13.2.1 (by omega); rw [(show bv u_6 219 = pp 0 from (bv_fr fu_6 rfl rfl).trans (bv_5)), (show bv u_6 217 = RR k 0 from bv_9)] at e; exact e)
  have q_17 : 0 ≤ u_13.1 221 1 ∧ u_13.1 221 1 ≤ 32 := iu_13.fi 221 1 0 (by decide) rfl
  exact sVret Cx hr hlk hW hL ⟨iu_13, F_15, ⟨(by omega), (show bv u_13 221 = (pp 0) * (RR k 0) from bv_16), (show Hd (bs u_13 221) from xu_13.2.2)⟩⟩ dX1_scaleBound_40

set_option maxRecDepth 100000 in
set_option maxHeartbeats 4000000 in
theorem b_X1_isValue (l : Launch) (G : sG) (S : sS) {o : Nat} {n mm mx : Int} {A : Int → Int → Int} {wh : Int → Int} {cc : Int} {RR : Int → Int → Int} {pp : Int → Int} {vt vb : Int} (hI : cX G S 0 0 0) (hm : mdl o) (hmr : S.2.2.2 188 15 = .ref (G.2.2.1 + o)) (hMD : Hd (MDv S o n mm mx A wh)) (hR : Hd (RWv S n cc RR)) (hP : Hd (PTv S n pp)) (hc0 : 0 ≤ cc) (hvt : bv S 209 = vt) (hvb : bv S 211 = vb) (hb9 : Hd (bs S 209)) (hb11 : Hd (bs S 211)) (h7 : S.1 209 1 ≤ 7 ∧ S.1 211 1 ≤ 7) : Met l yX1_isValue (.code yX1_isValue cX1_isValue 1 (some .boolean) :: tb) (rmk 5 0 0) (sPc G 294 S [.ref (G.2.2.1 + 188)]) (sQi G 294 (fun r u => cX G u 0 0 0 ∧ Fr S u pS8 ∧ (0 ≤ r ∧ r ≤ 1 ∧ Hd (r = 1 ↔ okV n RR pp vt vb)))) 0 0 (sF G) := by
  refine sEnter (by decide) (Nat.le_of_ble_eq_true rfl) ?_
  intro p e s m args below meth c Cx hr hlk hnm hW ls hl
  have Cx : sC G p m c cX1_isValue 1 s args RX1 := Cx
  obtain ⟨hx, hb, hml, hown, hts⟩ := id Cx.1
  have hL : sL G [] := sL_nil
  have hl : lv_has ls 1 [(0, .ref (G.2.2.1 + 188))] := hl
  have hW0 := hW
  have hMn := hMD.1; have hMm := hMD.2.1; have hMx := hMD.2.2.1; have hn12 : 0 ≤ S.1 o 2 ∧ S.1 o 2 ≤ 12 := hI.fi o 2 3 (mdl_k hm) hm.1; have hm16 : 0 ≤ S.1 o 3 ∧ S.1 o 3 ≤ 16 := hI.fi o 3 3 (mdl_k hm) hm.1
  refine lv_aload_n hx hb dX1_isValue_0 rfl (lv_at hl 0 rfl) ?_
  refine lv_iconst (v := iv 0) hx hb dX1_isValue_1 (by decide) ?_
  refine sBv (sV (As := [.int (iv 0)]) (rest := []) (k := 188) Cx (b_X1_sumAt l G S (k := 0) (o := o) (n := n) (mm := mm) (mx := mx) (A := A) (wh := wh) (cc := cc) (RR := RR) (pp := pp) hI (by omega) (by omega) hm hmr hMD hR hP) (c_X1_170 Cx rfl rfl (rmk_ok (by omega) (by decide))) hW (by decide) rfl rfl rfl hl.1 rfl (Nat.le_of_ble_eq_true rfl) dX1_isValue_2 ⟨Nat.le_of_ble_eq_true rfl, Nat.le_of_ble_eq_true rfl⟩) hL (fun u_1 H locs k_2 hW hL => ?_)
  obtain ⟨iu_1, fu_1, xu_1⟩ := k_2
  have F_3 := (Fr.rf : Fr S S pS8).trans fu_1
  have bv_4 : bv u_1 215 = spt pp (RR 0) n.toNat := xu_1.2.2.1
  refine lv_aload_n hx hb dX1_isValue_5 rfl (lv_at hl 0 rfl) ?_
  refine lv_iconst (v := iv 0) hx hb dX1_isValue_6 (by decide) ?_
  refine sBv (sV (As := [.int (iv 0)]) (rest := []) (k := 188) Cx (b_X1_scaleBound l G u_1 (k := 0) (o := o) (n := n) (mm := mm) (mx := mx) (A := A) (wh := wh) (cc := cc) (RR := RR) (pp := pp) iu_1 (by omega) (by omega) hm (((fu_1 188 rfl).2.2.2 15).trans hmr) (MDv.of hMD (show u_1.1 o 2 = S.1 o 2 from (fu_1 o (mo_pS8 hm).1).1 2) (show u_1.1 o 3 = S.1 o 3 from (fu_1 o (mo_pS8 hm).1).1 3) (show u_1.1 o 4 = S.1 o 4 from (fu_1 o (mo_pS8 hm).1).1 4) (show u_1.2.1 (o + 1) = S.2.1 (o + 1) from funext fun x => (fu_1 (o + 1) (mo_pS8 hm).2.1).2.1 x) (show u_1.2.1 (o + 2) = S.2.1 (o + 2) from funext fun x => (fu_1 (o + 2) (mo_pS8 hm).2.2).2.1 x)) (RWv.of hR (show u_1.1 193 8 = S.1 193 8 from (fu_1 193 rfl).1 8) (show u_1.1 193 9 = S.1 193 9 from (fu_1 193 rfl).1 9) (show u_1.2.1 194 = S.2.1 194 from funext fun x => (fu_1 194 rfl).2.1 x)) (PTv.of hP (show u_1.2.1 208 = S.2.1 208 from funext fun x => (fu_1 208 rfl).2.1 x))) (c_X1_174 Cx rfl rfl (rmk_ok (by omega) (by decide))) hW (by decide) rfl rfl rfl hl.1 rfl (Nat.le_of_ble_eq_true rfl) dX1_isValue_7 ⟨Nat.le_of_ble_eq_true rfl, Nat.le_of_ble_eq_true rfl⟩) hL (fun u_5 H locs k_6 hW hL => ?_)
  obtain ⟨iu_5, fu_5, xu_5⟩ := k_6
  have F_7 := F_3.trans (fu_5.to pS6_8)
  have bv_8 : bv u_5 221 = pp 0 * RR 0 0 := xu_5.2.1
  refine lv_aload_n hx hb dX1_isValue_10 rfl (lv_at hl 0 rfl) ?_
  refine g_X1_42 Cx hW (k := 188) (by decide) rfl (v := .ref (G.2.2.1 + 215)) (rf_188_6 iu_5) dX1_isValue_11 ?_
  refine lv_aload_n hx hb dX1_isValue_14 rfl (lv_at hl 0 rfl) ?_
  refine g_X1_51 Cx hW (k := 188) (by decide) rfl (v := .ref (G.2.2.1 + 221)) (rf_188_9 iu_5) dX1_isValue_15 ?_
  refine lv_iconst (v := iv 1) hx hb dX1_isValue_18 (by decide) ?_
  have q_9 : 0 ≤ u_5.1 221 1 ∧ u_5.1 221 1 ≤ 32 := iu_5.fi 221 1 0 (by decide) rfl
  have q_10 : 0 ≤ u_1.1 215 1 ∧ u_1.1 215 1 ≤ 32 := iu_1.fi 215 1 0 (by decide) rfl
  have lk_11 : u_5.1 215 1 = u_1.1 215 1 := (fu_5 215 rfl).1 1
  have q_12 : (-1) ≤ u_1.1 215 2 ∧ u_1.1 215 2 ≤ 1 := iu_1.fi 215 2 0 (by decide) rfl
  have lk_13 : u_5.1 215 2 = u_1.1 215 2 := (fu_5 215 rfl).1 2
  have q_14 : (-1) ≤ u_5.1 221 2 ∧ u_5.1 221 2 ≤ 1 := iu_5.fi 221 2 0 (by decide) rfl
  refine sBv (sV (As := [.ref (G.2.2.1 + 221), .int (iv 1)]) (rest := []) (k := 215) Cx (b_X0_add_p l G u_5 (o := 215) (a := 221) (n := 14) (t := 12) iu_5 rfl rfl (show (215 : Nat) ≠ 221 by decide) (by omega) (fun q => by have e : u_5.2.1 216 14 = u_1.2.1 216 14 := (fu_5 216 rfl).2.1 14; rw [e]; exact xu_1.2.1 (by omega)) (show Hd (bs u_5 215) from (bs_fr fu_5 rfl xu_1.2.2.2)) (show Hd (bs u_5 221) from xu_5.2.2)) (c_X1_166 Cx rfl rfl (rmk_ok (by omega) (by decide))) hW (by decide) rfl rfl rfl hl.1 rfl (Nat.le_of_ble_eq_true rfl) dX1_isValue_19 ⟨Nat.le_of_ble_eq_true rfl, Nat.le_of_ble_eq_true rfl⟩) hL (fun u_15 H locs k_16 hW hL => ?_)
  obtain ⟨iu_15, fu_15, xu_15⟩ := k_16
  have F_17 := F_7.trans (fu_15.to (pB_sub rfl rfl))
  have bv_18 : bv u_15 215 = spt pp (RR 0) n.toNat + (pp 0 * RR 0 0) := (by have e : bv u_15 215 = _ := xu_15.2.2.2.2.1; rw [(show bv u_5 215 = spt pp (RR 0) n.toNat from (bv_fr fu_5 rfl rfl).trans (bv_4)), (show bv u_5 221 = pp 0 * RR 0 0 from bv_8)] at e; omega)
  refine lv_aload_n hx hb dX1_isValue_22 rfl (lv_at hl 0 rfl) ?_
  refine g_X1_51 Cx hW (k := 188) (by decide) rfl (v := .ref (G.2.2.1 + 221)) (rf_188_9 iu_15) dX1_isValue_23 ?_
  refine lv_aload_n hx hb dX1_isValue_26 rfl (lv_at hl 0 rfl) ?_
  refine g_X1_42 Cx hW (k := 188) (by decide) rfl (v := .ref (G.2.2.1 + 215)) (rf_188_6 iu_15) dX1_isValue_27 ?_
  refine lv_aload_n hx hb dX1_isValue_30 rfl (lv_at hl 0 rfl) ?_
  refine g_X1_36 Cx hW (k := 188) (by decide) rfl (v := .ref (G.2.2.1 + 211)) (rf_188_4 iu_15) dX1_isValue_31 ?_
  have q_19 : 0 ≤ u_15.1 215 1 ∧ u_15.1 215 1 ≤ 32 := iu_15.fi 215 1 0 (by decide) rfl
  have q_20 : 0 ≤ S.1 211 1 ∧ S.1 211 1 ≤ 32 := hI.fi 211 1 0 (by decide) rfl
  have lk_21 : u_15.1 211 1 = S.1 211 1 := ((fu_15 211 rfl).1 1).trans (((fu_5 211 rfl).1 1).trans ((fu_1 211 rfl).1 1))
  refine sBv (sV (As := [.ref (G.2.2.1 + 215), .ref (G.2.2.1 + 211)]) (rest := []) (k := 221) Cx (b_X0_product l G u_15 (o := 221) (a := 215) (b := 211) iu_15 rfl rfl rfl (show (221 : Nat) ≠ 215 by decide) (show (221 : Nat) ≠ 211 by decide)) (c_X1_163 Cx rfl rfl (rmk_ok (by omega) (by decide))) hW (by decide) rfl rfl rfl hl.1 rfl (Nat.le_of_ble_eq_true rfl) dX1_isValue_34 ⟨Nat.le_of_ble_eq_true rfl, Nat.le_of_ble_eq_true rfl⟩) hL (fun u_22 H locs k_23 hW hL => ?_)
  obtain ⟨iu_22, fu_22, xu_22⟩ := k_23
  have F_24 := F_17.trans (fu_22.to (pB_sub rfl rfl))
  have bv_25 : bv u_22 221 = (spt pp (RR 0) n.toNat + (pp 0 * RR 0 0)) * vb := (by have e : bv u_22 221 = _ := xu_22.2.1 (by omega); rw [(show bv u_15 215 = spt pp (RR 0) n.toNat + (pp 0 * RR 0 0) from bv_18), (show bv u_15 211 = vb from (bv_fr fu_15 rfl rfl).trans ((bv_fr fu_5 rfl rfl).trans ((bv_fr fu_1 rfl rfl).trans (hvb))))] at e; exact e)
  refine lv_aload_n hx hb dX1_isValue_37 rfl (lv_at hl 0 rfl) ?_
  refine g_X1_48 Cx hW (k := 188) (by decide) rfl (v := .ref (G.2.2.1 + 219)) (rf_188_8 iu_22) dX1_isValue_38 ?_
  refine lv_aload_n hx hb dX1_isValue_41 rfl (lv_at hl 0 rfl) ?_
  refine g_X1_27 Cx hW (k := 188) (by decide) rfl (v := .ref (G.2.2.1 + 208)) (rf_188_2 iu_22) dX1_isValue_42 ?_
  refine lv_iconst (v := iv 0) hx hb dX1_isValue_45 (by decide) ?_
  refine sBv (sV (As := [.ref (G.2.2.1 + 208), .int (iv 0)]) (rest := []) (k := 219) Cx (b_X0_load l G u_22 (o := 219) (k := 208) (a := 0) (N := 104) iu_22 rfl ⟨by decide, rfl, by decide, rfl, rfl, rfl⟩ (by omega)) (c_X1_157 Cx rfl rfl (rmk_ok (by omega) (by decide))) hW (by decide) rfl rfl rfl hl.1 rfl (Nat.le_of_ble_eq_true rfl) dX1_isValue_46 ⟨Nat.le_of_ble_eq_true rfl, Nat.le_of_ble_eq_true rfl⟩) hL (fun u_26 H locs k_27 hW hL => ?_)
  obtain ⟨iu_26, fu_26, xu_26⟩ := k_27
  have F_28 := F_24.trans (fu_26.to (pB_sub rfl rfl))
  have yu_26 : u_26.1 219 1 ≤ 7 := xu_26.1
  have bv_29 : bv u_26 219 = nv (u_22.2.1 208) 0 := xu_26.2.2.2.2.2.2.2.1
  have bv_30 : bv u_26 219 = pp 0 := ((show bv u_26 219 = nv (u_22.2.1 208) 0 from bv_29)).trans ((PTv.of hP (show u_22.2.1 208 = S.2.1 208 from funext fun x => ((fu_22 208 rfl).2.1 x).trans (((fu_15 208 rfl).2.1 x).trans (((fu_5 208 rfl).2.1 x).trans ((fu_1 208 rfl).2.1 x))))) 0 (by omega) (by omega))
  refine lv_aload_n hx hb dX1_isValue_49 rfl (lv_at hl 0 rfl) ?_
  refine g_X1_45 Cx hW (k := 188) (by decide) rfl (v := .ref (G.2.2.1 + 217)) (rf_188_7 iu_26) dX1_isValue_50 ?_
  refine lv_aload_n hx hb dX1_isValue_53 rfl (lv_at hl 0 rfl) ?_
  refine g_X1_48 Cx hW (k := 188) (by decide) rfl (v := .ref (G.2.2.1 + 219)) (rf_188_8 iu_26) dX1_isValue_54 ?_
  refine lv_aload_n hx hb dX1_isValue_57 rfl (lv_at hl 0 rfl) ?_
  refine g_X1_32 Cx hW (k := 188) (by decide) rfl (v := .ref (G.2.2.1 + 209)) (rf_188_3 iu_26) dX1_isValue_58 ?_
  have q_31 : 0 ≤ u_26.1 219 1 ∧ u_26.1 219 1 ≤ 32 := iu_26.fi 219 1 0 (by decide) rfl
  have q_32 : 0 ≤ S.1 209 1 ∧ S.1 209 1 ≤ 32 := hI.fi 209 1 0 (by decide) rfl
  have lk_33 : u_26.1 209 1 = S.1 209 1 := ((fu_26 209 rfl).1 1).trans (((fu_22 209 rfl).1 1).trans (((fu_15 209 rfl).1 1).trans (((fu_5 209 rfl).1 1).trans ((fu_1 209 rfl).1 1))))
  refine sBv (sV (As := [.ref (G.2.2.1 + 219), .ref (G.2.2.1 + 209)]) (rest := []) (k := 217) Cx (b_X0_product l G u_26 (o := 217) (a := 219) (b := 209) iu_26 rfl rfl rfl (show (217 : Nat) ≠ 219 by decide) (show (217 : Nat) ≠ 209 by decide)) (c_X1_163 Cx rfl rfl (rmk_ok (by omega) (by decide))) hW (by decide) rfl rfl rfl hl.1 rfl (Nat.le_of_ble_eq_true rfl) dX1_isValue_61 ⟨Nat.le_of_ble_eq_true rfl, Nat.le_of_ble_eq_true rfl⟩) hL (fun u_34 H locs k_35 hW hL => ?_)
  obtain ⟨iu_34, fu_34, xu_34⟩ := k_35
  have F_36 := F_28.trans (fu_34.to (pB_sub rfl rfl))
  have bv_37 : bv u_34 217 = (pp 0) * vt := (by have e : bv u_34 217 = _ := xu_34.2.1 (by omega); rw [(show bv u_26 219 = pp 0 from bv_30), (show bv u_26 209 = vt from (bv_fr fu_26 rfl rfl).trans ((bv_fr fu_22 rfl rfl).trans ((bv_fr fu_15 rfl rfl).trans ((bv_fr fu_5 rfl rfl).trans ((bv_fr fu_1 rfl rfl).trans (hvt))))))] at e; exact e)
  refine lv_aload_n hx hb dX1_isValue_64 rfl (lv_at hl 0 rfl) ?_
  refine g_X1_51 Cx hW (k := 188) (by decide) rfl (v := .ref (G.2.2.1 + 221)) (rf_188_9 iu_34) dX1_isValue_65 ?_
  refine lv_aload_n hx hb dX1_isValue_68 rfl (lv_at hl 0 rfl) ?_
  refine g_X1_45 Cx hW (k := 188) (by decide) rfl (v := .ref (G.2.2.1 + 217)) (rf_188_7 iu_34) dX1_isValue_69 ?_
  refine sBi (sV (As := [.ref (G.2.2.1 + 217)]) (rest := []) (k := 221) Cx (b_X0_compareWith l G u_34 (o := 221) (a := 217) iu_34 rfl rfl (show Hd (bs u_34 221) from (bs_fr fu_34 rfl (bs_fr fu_26 rfl xu_22.2.2))) (show Hd (bs u_34 217) from xu_34.2.2)) (c_X1_177 Cx rfl rfl (rmk_ok (by omega) (by decide))) hW (by decide) rfl rfl rfl hl.1 rfl (Nat.le_of_ble_eq_true rfl) dX1_isValue_72 ⟨Nat.le_of_ble_eq_true rfl, Nat.le_of_ble_eq_true rfl⟩) hL (fun r_40 u_38 H locs k_39 hW hL => ?_)
  obtain ⟨eu_38, xu_38⟩ := k_39
  rw [eu_38] at hW
  have cf_41 := (show _ ∧ _ ∧ _ from xu_38.2)
  rw [(show bv u_34 221 = (spt pp (RR 0) n.toNat + (pp 0 * RR 0 0)) * vb from (bv_fr fu_34 rfl rfl).trans ((bv_fr fu_26 rfl rfl).trans (bv_25))), (show bv u_34 217 = (pp 0) * vt from bv_37)] at cf_41
  refine r_if_ne (tgt := 82) hx hb ⟨(by omega), (by omega)⟩ dX1_isValue_75 (by decide) (fun c_42 => ?_) (fun c_42 => ?_)
  · refine lv_iconst (v := iv 0) hx hb dX1_isValue_82 (by decide) ?_
    exact sZret Cx hr hlk hW hL (by omega) ⟨iu_34, F_36, ⟨(by omega), (by omega), (show _ ↔ _ by unfold okV; omega)⟩⟩ dX1_isValue_83
  · refine lv_iconst (v := iv 1) hx hb dX1_isValue_78 (by decide) ?_
    refine lv_goto (tgt := 83) hx hb dX1_isValue_79 (by decide) ?_
    exact sZret Cx hr hlk hW hL (by omega) ⟨iu_34, F_36, ⟨(by omega), (by omega), (show _ ↔ _ by unfold okV; omega)⟩⟩ dX1_isValue_83

set_option maxRecDepth 100000 in
set_option maxHeartbeats 4000000 in
theorem b_X1_isPoint (l : Launch) (G : sG) (S : sS) {mw : Int} {o : Nat} {n mm mx : Int} {A : Int → Int → Int} {wh : Int → Int} {cc : Int} {RR : Int → Int → Int} {pp : Int → Int} (hI : cX G S 0 0 0) (hmw : 0 ≤ mw ∧ mw ≤ 1) (hm : mdl o) (hmr : S.2.2.2 188 15 = .ref (G.2.2.1 + o)) (hMD : Hd (MDv S o n mm mx A wh)) (hR : Hd (RWv S n cc RR)) (hP : Hd (PTv S n pp)) (hcm : mm ≤ cc) (hp0 : 0 < pp 0) : Met l yX1_isPoint (.code yX1_isPoint cX1_isPoint 3 (some .boolean) :: tb) (rmk 5 0 0) (sPc G 294 S [.ref (G.2.2.1 + 188), .int (iv mw)]) (sQi G 294 (fun r u => cX G u 0 0 0 ∧ Fr S u pS12 ∧ (0 ≤ r ∧ r ≤ 1 ∧ Hd (r = 1 ↔ okP n mm RR wh pp mw)))) 0 0 (sF G) := by
  refine sEnter (by decide) (Nat.le_of_ble_eq_true rfl) ?_
  intro p e s m args below meth c Cx hr hlk hnm hW ls hl
  have Cx : sC G p m c cX1_isPoint 3 s args RX1 := Cx
  obtain ⟨hx, hb, hml, hown, hts⟩ := id Cx.1
  have hL : sL G [] := sL_nil
  have hl : lv_has ls 3 [(0, .ref (G.2.2.1 + 188)), (1, .int (iv mw))] := hl
  have hW0 := hW
  have hMn := hMD.1; have hMm := hMD.2.1; have hMx := hMD.2.2.1; have hn12 : 0 ≤ S.1 o 2 ∧ S.1 o 2 ≤ 12 := hI.fi o 2 3 (mdl_k hm) hm.1; have hm16 : 0 ≤ S.1 o 3 ∧ S.1 o 3 ≤ 16 := hI.fi o 3 3 (mdl_k hm) hm.1
  refine lv_aload_n hx hb dX1_isPoint_0 rfl (lv_at hl 0 rfl) ?_
  refine g_X1_39 Cx hW (k := 188) (by decide) rfl (v := .ref (G.2.2.1 + 213)) (rf_188_5 hI) dX1_isPoint_1 ?_
  refine lv_aload_n hx hb dX1_isPoint_4 rfl (lv_at hl 0 rfl) ?_
  refine g_X1_27 Cx hW (k := 188) (by decide) rfl (v := .ref (G.2.2.1 + 208)) (rf_188_2 hI) dX1_isPoint_5 ?_
  refine lv_iconst (v := iv 0) hx hb dX1_isPoint_8 (by decide) ?_
  refine sBv (sV (As := [.ref (G.2.2.1 + 208), .int (iv 0)]) (rest := []) (k := 213) Cx (b_X0_load l G S (o := 213) (k := 208) (a := 0) (N := 104) hI rfl ⟨by decide, rfl, by decide, rfl, rfl, rfl⟩ (by omega)) (c_X1_157 Cx rfl rfl (rmk_ok (by omega) (by decide))) hW (by decide) rfl rfl rfl hl.1 rfl (Nat.le_of_ble_eq_true rfl) dX1_isPoint_9 ⟨Nat.le_of_ble_eq_true rfl, Nat.le_of_ble_eq_true rfl⟩) hL (fun u_1 H locs k_2 hW hL => ?_)
  obtain ⟨iu_1, fu_1, xu_1⟩ := k_2
  have F_3 := (Fr.rf : Fr S S pS12).trans (fu_1.to (pB_sub rfl rfl))
  have yu_1 : u_1.1 213 1 ≤ 7 := xu_1.1
  have bv_4 : bv u_1 213 = nv (S.2.1 208) 0 := xu_1.2.2.2.2.2.2.2.1
  have bv_5 : bv u_1 213 = pp 0 := ((show bv u_1 213 = nv (S.2.1 208) 0 from bv_4)).trans (hP 0 (by omega) (by omega))
  refine lv_iconst (v := iv 1) hx hb dX1_isPoint_12 (by decide) ?_
  refine lv_istore_n (lv' := [(2, .int (iv 1)), (0, .ref (G.2.2.1 + 188)), (1, .int (iv mw))]) hx hb dX1_isPoint_13 rfl hl (by decide) rfl (fun ls hl => ?_)
  have loop_14 : ∀ (fuel : Nat) (S14 : sS) (j : Int) (H : Heap) (locs : List Loc) (ls : Array Slot), (13 - j).toNat < fuel → (cX G S14 0 0 0) → (Fr S S14 pS12) → (Fr u_1 S14 pS12) → (1 ≤ j ∧ j ≤ 13) → (j ≤ n + 1) → (S14.1 213 1 ≤ 7) → (Hd (bs S14 213)) → (bv S14 213 = pp 0) → (Hd (∀ i, 1 ≤ i → i < j → 0 ≤ pp i ∧ (mw = 1 → wh i = 1 → pp i % pp 0 = 0))) → sW G 294 S14 H → sL G locs → lv_has ls 3 [(2, .int (iv j)), (0, .ref (G.2.2.1 + 188)), (1, .int (iv mw))] → W p l e (rmk 5 0 0) s m args below meth c H locs 0 0 (MQ below (sQi G 294 (fun r u => cX G u 0 0 0 ∧ Fr S u pS12 ∧ (0 ≤ r ∧ r ≤ 1 ∧ Hd (r = 1 ↔ okP n mm RR wh pp mw)))) args s 0 0 (sF G)) (F0 m 14 ls []) := by
    intro fuel
    induction fuel with
    | zero => intro S14 j H locs ls hmeas hI14 hFm14 hL14_ hj hjn hq hbq hvq hpj2 hW hL hl; exact absurd hmeas (Nat.not_lt_zero _)
    | succ fuel ih_14 =>
      intro S14 j H locs ls hmeas hI14 hFm14 hL14_ hj hjn hq hbq hvq hpj2 hW hL hl
      refine lv_iload_n hx hb dX1_isPoint_14 rfl (lv_at hl 0 rfl) ?_
      refine lv_aload_n hx hb dX1_isPoint_15 rfl (lv_at hl 1 rfl) ?_
      refine g_X1_69 Cx hW (k := 188) (by decide) rfl (v := .ref (G.2.2.1 + o)) ((((hL14_ 188 rfl).2.2.2 15).trans ((fu_1 188 rfl).2.2.2 15)).trans hmr) dX1_isPoint_16 ?_
      have q_6 : 0 ≤ S.1 o 2 ∧ S.1 o 2 ≤ 12 := hI.fi o 2 3 (mdl_k hm) hm.1
      refine g_X1_84 Cx hW (k := o) (mdl_l hm) hm.1 (v := S.1 o 2) (((hL14_ o (mo_pS12 hm).1).1 2).trans ((fu_1 o (pB_no (tau_ne hm.1 (rfl : tau 213 = .inl 0) (fun h => by cases h)) (tau_ne hm.1 (rfl : tau 214 = .inr (.int, 32)) (fun h => by cases h)))).1 2)) dX1_isPoint_19 ?_
      refine r_icmp_gt (tgt := 104) hx hb ⟨(by omega), (by omega)⟩ ⟨(by omega), (by omega)⟩ dX1_isPoint_22 (by decide) (fun c_7 => ?_) (fun c_7 => ?_)
      · refine lv_iconst (v := iv 1) hx hb dX1_isPoint_104 (by decide) ?_
        refine lv_istore_n (lv' := [(2, .int (iv 1)), (0, .ref (G.2.2.1 + 188)), (1, .int (iv mw))]) hx hb dX1_isPoint_105 rfl hl (by decide) rfl (fun ls hl => ?_)
        have loop_106 : ∀ (fuel : Nat) (S106 : sS) (k : Int) (H : Heap) (locs : List Loc) (ls : Array Slot), (17 - k).toNat < fuel → (cX G S106 0 0 0) → (Fr S S106 pS12) → (Fr u_1 S106 pS12) → (Fr S14 S106 pS12) → (1 ≤ k ∧ k ≤ 17) → (k ≤ mm + 1) → (Hd (∀ i, 1 ≤ i → i < k → spt pp (RR i) n.toNat ≤ pp 0 * RR i 0)) → sW G 294 S106 H → sL G locs → lv_has ls 3 [(2, .int (iv k)), (0, .ref (G.2.2.1 + 188)), (1, .int (iv mw))] → W p l e (rmk 5 0 0) s m args below meth c H locs 0 0 (MQ below (sQi G 294 (fun r u => cX G u 0 0 0 ∧ Fr S u pS12 ∧ (0 ≤ r ∧ r ≤ 1 ∧ Hd (r = 1 ↔ okP n mm RR wh pp mw)))) args s 0 0 (sF G)) (F0 m 106 ls []) := by
          intro fuel
          induction fuel with
          | zero => intro S106 k H locs ls hmeas hI106 hFm106 hFL14106 hL106_ hk hkm hpk hW hL hl; exact absurd hmeas (Nat.not_lt_zero _)
          | succ fuel ih_106 =>
            intro S106 k H locs ls hmeas hI106 hFm106 hFL14106 hL106_ hk hkm hpk hW hL hl
            refine lv_iload_n hx hb dX1_isPoint_106 rfl (lv_at hl 0 rfl) ?_
            refine lv_aload_n hx hb dX1_isPoint_107 rfl (lv_at hl 1 rfl) ?_
            refine g_X1_69 Cx hW (k := 188) (by decide) rfl (v := .ref (G.2.2.1 + o)) ((((hL106_ 188 rfl).2.2.2 15).trans (((hL14_ 188 rfl).2.2.2 15).trans ((fu_1 188 rfl).2.2.2 15))).trans hmr) dX1_isPoint_108 ?_
            have q_8 : 0 ≤ S.1 o 3 ∧ S.1 o 3 ≤ 16 := hI.fi o 3 3 (mdl_k hm) hm.1
            refine g_X1_191 Cx hW (k := o) (mdl_l hm) hm.1 (v := S.1 o 3) (((hL106_ o (mo_pS12 hm).1).1 3).trans (((hL14_ o (mo_pS12 hm).1).1 3).trans ((fu_1 o (pB_no (tau_ne hm.1 (rfl : tau 213 = .inl 0) (fun h => by cases h)) (tau_ne hm.1 (rfl : tau 214 = .inr (.int, 32)) (fun h => by cases h)))).1 3))) dX1_isPoint_111 ?_
            refine r_icmp_gt (tgt := 149) hx hb ⟨(by omega), (by omega)⟩ ⟨(by omega), (by omega)⟩ dX1_isPoint_114 (by decide) (fun c_9 => ?_) (fun c_9 => ?_)
            · refine lv_iconst (v := iv 1) hx hb dX1_isPoint_149 (by decide) ?_
              exact sZret Cx hr hlk hW hL (by omega) ⟨hI106, hFm106, ⟨(by omega), (by omega), (show _ ↔ _ from ⟨fun _ => ⟨fun j a b => hpj2 j a (by omega), fun i a b => hpk i a (by omega)⟩, fun _ => rfl⟩)⟩⟩ dX1_isPoint_150
            · refine lv_aload_n hx hb dX1_isPoint_117 rfl (lv_at hl 1 rfl) ?_
              refine lv_iload_n hx hb dX1_isPoint_118 rfl (lv_at hl 0 rfl) ?_
              refine sBv (sV (As := [.int (iv k)]) (rest := []) (k := 188) Cx (b_X1_sumAt l G S106 (k := k) (o := o) (n := n) (mm := mm) (mx := mx) (A := A) (wh := wh) (cc := cc) (RR := RR) (pp := pp) hI106 (by omega) (by omega) hm ((((hL106_ 188 rfl).2.2.2 15).trans (((hL14_ 188 rfl).2.2.2 15).trans ((fu_1 188 rfl).2.2.2 15))).trans hmr) (MDv.of hMD (show S106.1 o 2 = S.1 o 2 from ((hL106_ o (mo_pS12 hm).1).1 2).trans (((hL14_ o (mo_pS12 hm).1).1 2).trans ((fu_1 o (pB_no (tau_ne hm.1 (rfl : tau 213 = .inl 0) (fun h => by cases h)) (tau_ne hm.1 (rfl : tau 214 = .inr (.int, 32)) (fun h => by cases h)))).1 2))) (show S106.1 o 3 = S.1 o 3 from ((hL106_ o (mo_pS12 hm).1).1 3).trans (((hL14_ o (mo_pS12 hm).1).1 3).trans ((fu_1 o (pB_no (tau_ne hm.1 (rfl : tau 213 = .inl 0) (fun h => by cases h)) (tau_ne hm.1 (rfl : tau 214 = .inr (.int, 32)) (fun h => by cases h)))).1 3))) (show S106.1 o 4 = S.1 o 4 from ((hL106_ o (mo_pS12 hm).1).1 4).trans (((hL14_ o (mo_pS12 hm).1).1 4).trans ((fu_1 o (pB_no (tau_ne hm.1 (rfl : tau 213 = .inl 0) (fun h => by cases h)) (tau_ne hm.1 (rfl : tau 214 = .inr (.int, 32)) (fun h => by cases h)))).1 4))) (show S106.2.1 (o + 1) = S.2.1 (o + 1) from funext fun x => ((hL106_ (o + 1) (mo_pS12 hm).2.1).2.1 x).trans (((hL14_ (o + 1) (mo_pS12 hm).2.1).2.1 x).trans ((fu_1 (o + 1) (pB_no (tau_ne hm.2.1 (rfl : tau 213 = .inl 0) (fun h => by cases h)) (tau_ne hm.2.1 (rfl : tau 214 = .inr (.int, 32)) (by decide)))).2.1 x))) (show S106.2.1 (o + 2) = S.2.1 (o + 2) from funext fun x => ((hL106_ (o + 2) (mo_pS12 hm).2.2).2.1 x).trans (((hL14_ (o + 2) (mo_pS12 hm).2.2).2.1 x).trans ((fu_1 (o + 2) (pB_no (tau_ne hm.2.2.1 (rfl : tau 213 = .inl 0) (fun h => by cases h)) (tau_ne hm.2.2.1 (rfl : tau 214 = .inr (.int, 32)) (fun h => by cases h)))).2.1 x)))) (RWv.of hR (show S106.1 193 8 = S.1 193 8 from ((hL106_ 193 rfl).1 8).trans (((hL14_ 193 rfl).1 8).trans ((fu_1 193 rfl).1 8))) (show S106.1 193 9 = S.1 193 9 from ((hL106_ 193 rfl).1 9).trans (((hL14_ 193 rfl).1 9).trans ((fu_1 193 rfl).1 9))) (show S106.2.1 194 = S.2.1 194 from funext fun x => ((hL106_ 194 rfl).2.1 x).trans (((hL14_ 194 rfl).2.1 x).trans ((fu_1 194 rfl).2.1 x)))) (PTv.of hP (show S106.2.1 208 = S.2.1 208 from funext fun x => ((hL106_ 208 rfl).2.1 x).trans (((hL14_ 208 rfl).2.1 x).trans ((fu_1 208 rfl).2.1 x))))) (c_X1_170 Cx rfl rfl (rmk_ok (by omega) (by decide))) hW (by decide) rfl rfl rfl hl.1 rfl (Nat.le_of_ble_eq_true rfl) dX1_isPoint_119 ⟨Nat.le_of_ble_eq_true rfl, Nat.le_of_ble_eq_true rfl⟩) hL (fun u_10 H locs k_11 hW hL => ?_)
              obtain ⟨iu_10, fu_10, xu_10⟩ := k_11
              have F_12 := hFm106.trans (fu_10.to pS8_12)
              have F_13 := hFL14106.trans (fu_10.to pS8_12)
              have F_14 := hL106_.trans (fu_10.to pS8_12)
              have bv_15 : bv u_10 215 = spt pp (RR k) n.toNat := xu_10.2.2.1
              refine lv_aload_n hx hb dX1_isPoint_122 rfl (lv_at hl 1 rfl) ?_
              refine lv_iload_n hx hb dX1_isPoint_123 rfl (lv_at hl 0 rfl) ?_
              refine sBv (sV (As := [.int (iv k)]) (rest := []) (k := 188) Cx (b_X1_scaleBound l G u_10 (k := k) (o := o) (n := n) (mm := mm) (mx := mx) (A := A) (wh := wh) (cc := cc) (RR := RR) (pp := pp) iu_10 (by omega) (by omega) hm ((((fu_10 188 rfl).2.2.2 15).trans (((hL106_ 188 rfl).2.2.2 15).trans (((hL14_ 188 rfl).2.2.2 15).trans ((fu_1 188 rfl).2.2.2 15)))).trans hmr) (MDv.of hMD (show u_10.1 o 2 = S.1 o 2 from ((fu_10 o (mo_pS8 hm).1).1 2).trans (((hL106_ o (mo_pS12 hm).1).1 2).trans (((hL14_ o (mo_pS12 hm).1).1 2).trans ((fu_1 o (pB_no (tau_ne hm.1 (rfl : tau 213 = .inl 0) (fun h => by cases h)) (tau_ne hm.1 (rfl : tau 214 = .inr (.int, 32)) (fun h => by cases h)))).1 2)))) (show u_10.1 o 3 = S.1 o 3 from ((fu_10 o (mo_pS8 hm).1).1 3).trans (((hL106_ o (mo_pS12 hm).1).1 3).trans (((hL14_ o (mo_pS12 hm).1).1 3).trans ((fu_1 o (pB_no (tau_ne hm.1 (rfl : tau 213 = .inl 0) (fun h => by cases h)) (tau_ne hm.1 (rfl : tau 214 = .inr (.int, 32)) (fun h => by cases h)))).1 3)))) (show u_10.1 o 4 = S.1 o 4 from ((fu_10 o (mo_pS8 hm).1).1 4).trans (((hL106_ o (mo_pS12 hm).1).1 4).trans (((hL14_ o (mo_pS12 hm).1).1 4).trans ((fu_1 o (pB_no (tau_ne hm.1 (rfl : tau 213 = .inl 0) (fun h => by cases h)) (tau_ne hm.1 (rfl : tau 214 = .inr (.int, 32)) (fun h => by cases h)))).1 4)))) (show u_10.2.1 (o + 1) = S.2.1 (o + 1) from funext fun x => ((fu_10 (o + 1) (mo_pS8 hm).2.1).2.1 x).trans (((hL106_ (o + 1) (mo_pS12 hm).2.1).2.1 x).trans (((hL14_ (o + 1) (mo_pS12 hm).2.1).2.1 x).trans ((fu_1 (o + 1) (pB_no (tau_ne hm.2.1 (rfl : tau 213 = .inl 0) (fun h => by cases h)) (tau_ne hm.2.1 (rfl : tau 214 = .inr (.int, 32)) (by decide)))).2.1 x)))) (show u_10.2.1 (o + 2) = S.2.1 (o + 2) from funext fun x => ((fu_10 (o + 2) (mo_pS8 hm).2.2).2.1 x).trans (((hL106_ (o + 2) (mo_pS12 hm).2.2).2.1 x).trans (((hL14_ (o + 2) (mo_pS12 hm).2.2).2.1 x).trans ((fu_1 (o + 2) (pB_no (tau_ne hm.2.2.1 (rfl : tau 213 = .inl 0) (fun h => by cases h)) (tau_ne hm.2.2.1 (rfl : tau 214 = .inr (.int, 32)) (fun h => by cases h)))).2.1 x))))) (RWv.of hR (show u_10.1 193 8 = S.1 193 8 from ((fu_10 193 rfl).1 8).trans (((hL106_ 193 rfl).1 8).trans (((hL14_ 193 rfl).1 8).trans ((fu_1 193 rfl).1 8)))) (show u_10.1 193 9 = S.1 193 9 from ((fu_10 193 rfl).1 9).trans (((hL106_ 193 rfl).1 9).trans (((hL14_ 193 rfl).1 9).trans ((fu_1 193 rfl).1 9)))) (show u_10.2.1 194 = S.2.1 194 from funext fun x => ((fu_10 194 rfl).2.1 x).trans (((hL106_ 194 rfl).2.1 x).trans (((hL14_ 194 rfl).2.1 x).trans ((fu_1 194 rfl).2.1 x))))) (PTv.of hP (show u_10.2.1 208 = S.2.1 208 from funext fun x => ((fu_10 208 rfl).2.1 x).trans (((hL106_ 208 rfl).2.1 x).trans (((hL14_ 208 rfl).2.1 x).trans ((fu_1 208 rfl).2.1 x)))))) (c_X1_174 Cx rfl rfl (rmk_ok (by omega) (by decide))) hW (by decide) rfl rfl rfl hl.1 rfl (Nat.le_of_ble_eq_true rfl) dX1_isPoint_124 ⟨Nat.le_of_ble_eq_true rfl, Nat.le_of_ble_eq_true rfl⟩) hL (fun u_16 H locs k_17 hW hL => ?_)
              obtain ⟨iu_16, fu_16, xu_16⟩ := k_17
              have F_18 := F_12.trans (fu_16.to (fun k h => pS8_12 k (pS6_8 k h)))
              have F_19 := F_13.trans (fu_16.to (fun k h => pS8_12 k (pS6_8 k h)))
              have F_20 := F_14.trans (fu_16.to (fun k h => pS8_12 k (pS6_8 k h)))
              have bv_21 : bv u_16 221 = pp 0 * RR k 0 := xu_16.2.1
              refine lv_aload_n hx hb dX1_isPoint_127 rfl (lv_at hl 1 rfl) ?_
              refine g_X1_42 Cx hW (k := 188) (by decide) rfl (v := .ref (G.2.2.1 + 215)) (rf_188_6 iu_16) dX1_isPoint_128 ?_
              refine lv_aload_n hx hb dX1_isPoint_131 rfl (lv_at hl 1 rfl) ?_
              refine g_X1_51 Cx hW (k := 188) (by decide) rfl (v := .ref (G.2.2.1 + 221)) (rf_188_9 iu_16) dX1_isPoint_132 ?_
              refine sBi (sV (As := [.ref (G.2.2.1 + 221)]) (rest := []) (k := 215) Cx (b_X0_compareWith l G u_16 (o := 215) (a := 221) iu_16 rfl rfl (show Hd (bs u_16 215) from (bs_fr fu_16 rfl xu_10.2.2.2)) (show Hd (bs u_16 221) from xu_16.2.2)) (c_X1_177 Cx rfl rfl (rmk_ok (by omega) (by decide))) hW (by decide) rfl rfl rfl hl.1 rfl (Nat.le_of_ble_eq_true rfl) dX1_isPoint_135 ⟨Nat.le_of_ble_eq_true rfl, Nat.le_of_ble_eq_true rfl⟩) hL (fun r_24 u_22 H locs k_23 hW hL => ?_)
              obtain ⟨eu_22, xu_22⟩ := k_23
              rw [eu_22] at hW
              have cf_25 := (show _ ∧ _ ∧ _ from xu_22.2)
              rw [(show bv u_16 215 = spt pp (RR k) n.toNat from (bv_fr fu_16 rfl rfl).trans (bv_15)), (show bv u_16 221 = pp 0 * RR k 0 from bv_21)] at cf_25
              refine r_if_le (tgt := 143) hx hb ⟨(by omega), (by omega)⟩ dX1_isPoint_138 (by decide) (fun c_26 => ?_) (fun c_26 => ?_)
              · refine lv_iinc (v := iv (k + 1)) (lv' := [(2, .int (iv (k + 1))), (0, .ref (G.2.2.1 + 188)), (1, .int (iv mw))]) hx hb dX1_isPoint_143 hl (k := 0) rfl ((Int32.ofInt_add _ _).symm) (by decide) rfl (fun ls hl => ?_)
                refine lv_goto (tgt := 106) hx hb dX1_isPoint_146 (by decide) ?_
                exact ih_106 u_16 (k + 1) _ _ _ (by omega) iu_16 F_18 F_19 F_20 (by omega) (by omega) (fun i a b => by by_cases q : i = k; (rw [q]; omega); exact hpk i a (by omega)) hW hL (lv_sub hl [0, 1, 2] rfl)
              · refine lv_iconst (v := iv 0) hx hb dX1_isPoint_141 (by decide) ?_
                exact sZret Cx hr hlk hW hL (by omega) ⟨iu_16, F_18, ⟨(by omega), (by omega), (show _ ↔ _ from ⟨fun q => absurd q (by omega), fun q => by have e := q.2 k (by omega) (by omega); exfalso; omega⟩)⟩⟩ dX1_isPoint_142
        exact loop_106 (_ + 1) S14 1 _ _ _ (Nat.lt_succ_self _) hI14 hFm14 hL14_ Fr.rf (by omega) (by omega) (fun i a b => absurd b (by omega)) hW hL (lv_sub hl [0, 1, 2] rfl)
      · refine lv_aload_n hx hb dX1_isPoint_25 rfl (lv_at hl 1 rfl) ?_
        refine g_X1_48 Cx hW (k := 188) (by decide) rfl (v := .ref (G.2.2.1 + 219)) (rf_188_8 hI14) dX1_isPoint_26 ?_
        refine lv_aload_n hx hb dX1_isPoint_29 rfl (lv_at hl 1 rfl) ?_
        refine g_X1_27 Cx hW (k := 188) (by decide) rfl (v := .ref (G.2.2.1 + 208)) (rf_188_2 hI14) dX1_isPoint_30 ?_
        refine lv_iload_n hx hb dX1_isPoint_33 rfl (lv_at hl 0 rfl) ?_
        refine lv_bipush (v := iv 8) hx hb dX1_isPoint_34 (by decide) ?_
        refine r_imul hx hb dX1_isPoint_36 ?_
        refine sBv (sV (As := [.ref (G.2.2.1 + 208), .int (iv (j * 8))]) (rest := []) (k := 219) Cx (b_X0_load l G S14 (o := 219) (k := 208) (a := j * 8) (N := 104) hI14 rfl ⟨by decide, rfl, by decide, rfl, rfl, rfl⟩ (by omega)) (c_X1_157 Cx rfl rfl (rmk_ok (by omega) (by decide))) hW (by decide) rfl rfl rfl hl.1 rfl (Nat.le_of_ble_eq_true rfl) dX1_isPoint_37 ⟨Nat.le_of_ble_eq_true rfl, Nat.le_of_ble_eq_true rfl⟩) hL (fun u_27 H locs k_28 hW hL => ?_)
        obtain ⟨iu_27, fu_27, xu_27⟩ := k_28
        have F_29 := hFm14.trans (fu_27.to (pB_sub rfl rfl))
        have F_30 := hL14_.trans (fu_27.to (pB_sub rfl rfl))
        have yu_27 : u_27.1 219 1 ≤ 7 := xu_27.1
        have bv_31 : bv u_27 219 = nv (S14.2.1 208) (j * 8) := xu_27.2.2.2.2.2.2.2.1
        have bv_32 : bv u_27 219 = pp j := ((show bv u_27 219 = nv (S14.2.1 208) (j * 8) from bv_31)).trans ((PTv.of hP (show S14.2.1 208 = S.2.1 208 from funext fun x => ((hL14_ 208 rfl).2.1 x).trans ((fu_1 208 rfl).2.1 x))) j (by omega) (by omega))
        have sg_33 := bsg iu_27 (o := 219) rfl (show Hd (bs u_27 219) from xu_27.2.2.2.2.2.2.2.2)
        rw [(show bv u_27 219 = pp j from bv_32)] at sg_33
        have q_34 : (-1) ≤ u_27.1 219 2 ∧ u_27.1 219 2 ≤ 1 := iu_27.fi 219 2 0 (by decide) rfl
        refine lv_aload_n hx hb dX1_isPoint_40 rfl (lv_at hl 1 rfl) ?_
        refine g_X1_48 Cx hW (k := 188) (by decide) rfl (v := .ref (G.2.2.1 + 219)) (rf_188_8 iu_27) dX1_isPoint_41 ?_
        refine g_X1_181 Cx hW (k := 219) (by decide) rfl (v := u_27.1 219 2) rfl dX1_isPoint_44 ?_
        refine r_if_ge (tgt := 52) hx hb ⟨(by omega), (by omega)⟩ dX1_isPoint_47 (by decide) (fun c_35 => ?_) (fun c_35 => ?_)
        · have join_98 : ∀ (S98 : sS)  (H : Heap) (locs : List Loc) (ls : Array Slot), (cX G S98 0 0 0) → (Fr S S98 pS12) → (Fr u_1 S98 pS12) → (Fr u_27 S98 pS12) → (S98.1 213 1 ≤ 7) → (Hd (bs S98 213)) → (bv S98 213 = pp 0) → (Hd (0 ≤ pp j ∧ (mw = 1 → wh j = 1 → pp j % pp 0 = 0))) → sW G 294 S98 H → sL G locs → lv_has ls 3 [(2, .int (iv j)), (0, .ref (G.2.2.1 + 188)), (1, .int (iv mw))] → W p l e (rmk 5 0 0) s m args below meth c H locs 0 0 (MQ below (sQi G 294 (fun r u => cX G u 0 0 0 ∧ Fr S u pS12 ∧ (0 ≤ r ∧ r ≤ 1 ∧ Hd (r = 1 ↔ okP n mm RR wh pp mw)))) args s 0 0 (sF G)) (F0 m 98 ls []) := by
            intro S98  H locs ls hI98 hFm98 hFL1498 hL98_ hq98 hb98 hv98 hpj hW hL hl
            refine lv_iinc (v := iv (j + 1)) (lv' := [(2, .int (iv (j + 1))), (0, .ref (G.2.2.1 + 188)), (1, .int (iv mw))]) hx hb dX1_isPoint_98 hl (k := 0) rfl ((Int32.ofInt_add _ _).symm) (by decide) rfl (fun ls hl => ?_)
            refine lv_goto (tgt := 14) hx hb dX1_isPoint_101 (by decide) ?_
            have q_36 : 0 ≤ S98.1 213 1 ∧ S98.1 213 1 ≤ 32 := hI98.fi 213 1 0 (by decide) rfl
            exact ih_14 S98 (j + 1) _ _ _ (by omega) hI98 hFm98 hFL1498 (by omega) (by omega) (by omega) (show Hd (bs S98 213) from hb98) (show bv S98 213 = pp 0 from hv98) (fun i a b => by by_cases q : i = j; (rw [q]; exact hpj); exact hpj2 i a (by omega)) hW hL (lv_sub hl [0, 1, 2] rfl)
          refine lv_iload_n hx hb dX1_isPoint_52 rfl (lv_at hl 2 rfl) ?_
          refine r_if_eq (tgt := 98) hx hb ⟨(by omega), (by omega)⟩ dX1_isPoint_53 (by decide) (fun c_37 => ?_) (fun c_37 => ?_)
          · have q_38 : 0 ≤ S14.1 213 1 ∧ S14.1 213 1 ≤ 32 := hI14.fi 213 1 0 (by decide) rfl
            have lk_39 : u_27.1 213 1 = S14.1 213 1 := (fu_27 213 rfl).1 1
            exact join_98 u_27  _ _ _ iu_27 F_29 F_30 (Fr.rf : Fr u_27 u_27 pS12) (by omega) (show Hd (bs u_27 213) from (bs_fr fu_27 rfl hbq)) (show bv u_27 213 = pp 0 from (bv_fr fu_27 rfl rfl).trans (hvq)) ⟨by omega, fun z => absurd z (by omega)⟩ hW hL (lv_sub hl [0, 1, 2] rfl)
          · refine lv_aload_n hx hb dX1_isPoint_56 rfl (lv_at hl 1 rfl) ?_
            refine g_X1_69 Cx hW (k := 188) (by decide) rfl (v := .ref (G.2.2.1 + o)) ((((fu_27 188 rfl).2.2.2 15).trans (((hL14_ 188 rfl).2.2.2 15).trans ((fu_1 188 rfl).2.2.2 15))).trans hmr) dX1_isPoint_57 ?_
            refine lv_iload_n hx hb dX1_isPoint_60 rfl (lv_at hl 0 rfl) ?_
            have lk_40 : u_27.1 o 2 = S.1 o 2 := ((fu_27 o (pB_no (tau_ne hm.1 (rfl : tau 219 = .inl 0) (fun h => by cases h)) (tau_ne hm.1 (rfl : tau 220 = .inr (.int, 32)) (fun h => by cases h)))).1 2).trans (((hL14_ o (mo_pS12 hm).1).1 2).trans ((fu_1 o (pB_no (tau_ne hm.1 (rfl : tau 213 = .inl 0) (fun h => by cases h)) (tau_ne hm.1 (rfl : tau 214 = .inr (.int, 32)) (fun h => by cases h)))).1 2))
            refine sBi (sV (As := [.int (iv j)]) (rest := []) (k := o) Cx (b_X3_isWhole l G u_27 (o := o) (j := j) iu_27 hm (by omega)) (c_X1_184 Cx rfl rfl (rmk_ok (by omega) (by decide))) hW (mdl_l hm) hm.1 rfl rfl hl.1 rfl (Nat.le_of_ble_eq_true rfl) dX1_isPoint_61 ⟨Nat.le_of_ble_eq_true rfl, Nat.le_of_ble_eq_true rfl⟩) hL (fun r_43 u_41 H locs k_42 hW hL => ?_)
            obtain ⟨eu_41, xu_41⟩ := k_42
            rw [eu_41] at hW
            refine r_if_eq (tgt := 98) hx hb ⟨(by omega), (by omega)⟩ dX1_isPoint_64 (by decide) (fun c_44 => ?_) (fun c_44 => ?_)
            · have q_45 : 0 ≤ S14.1 213 1 ∧ S14.1 213 1 ≤ 32 := hI14.fi 213 1 0 (by decide) rfl
              have lk_46 : u_27.1 213 1 = S14.1 213 1 := (fu_27 213 rfl).1 1
              exact join_98 u_27  _ _ _ iu_27 F_29 F_30 (Fr.rf : Fr u_27 u_27 pS12) (by omega) (show Hd (bs u_27 213) from (bs_fr fu_27 rfl hbq)) (show bv u_27 213 = pp 0 from (bv_fr fu_27 rfl rfl).trans (hvq)) ⟨by omega, fun _ z => by have y := (xu_41.2.2.2).mpr ⟨by omega, by omega, by have q := (MDv.of hMD (show u_27.1 o 2 = S.1 o 2 from ((fu_27 o (pB_no (tau_ne hm.1 (rfl : tau 219 = .inl 0) (fun h => by cases h)) (tau_ne hm.1 (rfl : tau 220 = .inr (.int, 32)) (fun h => by cases h)))).1 2).trans (((hL14_ o (mo_pS12 hm).1).1 2).trans ((fu_1 o (pB_no (tau_ne hm.1 (rfl : tau 213 = .inl 0) (fun h => by cases h)) (tau_ne hm.1 (rfl : tau 214 = .inr (.int, 32)) (fun h => by cases h)))).1 2))) (show u_27.1 o 3 = S.1 o 3 from ((fu_27 o (pB_no (tau_ne hm.1 (rfl : tau 219 = .inl 0) (fun h => by cases h)) (tau_ne hm.1 (rfl : tau 220 = .inr (.int, 32)) (fun h => by cases h)))).1 3).trans (((hL14_ o (mo_pS12 hm).1).1 3).trans ((fu_1 o (pB_no (tau_ne hm.1 (rfl : tau 213 = .inl 0) (fun h => by cases h)) (tau_ne hm.1 (rfl : tau 214 = .inr (.int, 32)) (fun h => by cases h)))).1 3))) (show u_27.1 o 4 = S.1 o 4 from ((fu_27 o (pB_no (tau_ne hm.1 (rfl : tau 219 = .inl 0) (fun h => by cases h)) (tau_ne hm.1 (rfl : tau 220 = .inr (.int, 32)) (fun h => by cases h)))).1 4).trans (((hL14_ o (mo_pS12 hm).1).1 4).trans ((fu_1 o (pB_no (tau_ne hm.1 (rfl : tau 213 = .inl 0) (fun h => by cases h)) (tau_ne hm.1 (rfl : tau 214 = .inr (.int, 32)) (fun h => by cases h)))).1 4))) (show u_27.2.1 (o + 1) = S.2.1 (o + 1) from funext fun x => ((fu_27 (o + 1) (pB_no (tau_ne hm.2.1 (rfl : tau 219 = .inl 0) (fun h => by cases h)) (tau_ne hm.2.1 (rfl : tau 220 = .inr (.int, 32)) (by decide)))).2.1 x).trans (((hL14_ (o + 1) (mo_pS12 hm).2.1).2.1 x).trans ((fu_1 (o + 1) (pB_no (tau_ne hm.2.1 (rfl : tau 213 = .inl 0) (fun h => by cases h)) (tau_ne hm.2.1 (rfl : tau 214 = .inr (.int, 32)) (by decide)))).2.1 x))) (show u_27.2.1 (o + 2) = S.2.1 (o + 2) from funext fun x => ((fu_27 (o + 2) (pB_no (tau_ne hm.2.2.1 (rfl : tau 219 = .inl 0) (fun h => by cases h)) (tau_ne hm.2.2.1 (rfl : tau 220 = .inr (.int, 32)) (fun h => by cases h)))).2.1 x).trans (((hL14_ (o + 2) (mo_pS12 hm).2.2).2.1 x).trans ((fu_1 (o + 2) (pB_no (tau_ne hm.2.2.1 (rfl : tau 213 = .inl 0) (fun h => by cases h)) (tau_ne hm.2.2.1 (rfl : tau 214 = .inr (.int, 32)) (fun h => by cases h)))).2.1 x)))).2.2.2.2 j (by omega) (by omega); omega⟩; exfalso; omega⟩ hW hL (lv_sub hl [0, 1, 2] rfl)
            · refine lv_aload_n hx hb dX1_isPoint_67 rfl (lv_at hl 1 rfl) ?_
              refine g_X1_48 Cx hW (k := 188) (by decide) rfl (v := .ref (G.2.2.1 + 219)) (rf_188_8 iu_27) dX1_isPoint_68 ?_
              refine lv_aload_n hx hb dX1_isPoint_71 rfl (lv_at hl 1 rfl) ?_
              refine g_X1_39 Cx hW (k := 188) (by decide) rfl (v := .ref (G.2.2.1 + 213)) (rf_188_5 iu_27) dX1_isPoint_72 ?_
              refine lv_aload_n hx hb dX1_isPoint_75 rfl (lv_at hl 1 rfl) ?_
              refine g_X1_45 Cx hW (k := 188) (by decide) rfl (v := .ref (G.2.2.1 + 217)) (rf_188_7 iu_27) dX1_isPoint_76 ?_
              refine lv_aload_n hx hb dX1_isPoint_79 rfl (lv_at hl 1 rfl) ?_
              refine g_X1_54 Cx hW (k := 188) (by decide) rfl (v := .ref (G.2.2.1 + 223)) (rf_188_10 iu_27) dX1_isPoint_80 ?_
              have sg_47 := bsg iu_27 (o := 213) rfl (show Hd (bs u_27 213) from (bs_fr fu_27 rfl hbq))
              rw [(show bv u_27 213 = pp 0 from (bv_fr fu_27 rfl rfl).trans (hvq))] at sg_47
              have q_48 : (-1) ≤ S14.1 213 2 ∧ S14.1 213 2 ≤ 1 := hI14.fi 213 2 0 (by decide) rfl
              have lk_49 : u_27.1 213 2 = S14.1 213 2 := (fu_27 213 rfl).1 2
              have q_50 : 0 ≤ u_27.1 219 1 ∧ u_27.1 219 1 ≤ 32 := iu_27.fi 219 1 0 (by decide) rfl
              have q_51 : 0 ≤ S14.1 213 1 ∧ S14.1 213 1 ≤ 32 := hI14.fi 213 1 0 (by decide) rfl
              have lk_52 : u_27.1 213 1 = S14.1 213 1 := (fu_27 213 rfl).1 1
              refine sBv (sV (As := [.ref (G.2.2.1 + 213), .ref (G.2.2.1 + 217), .ref (G.2.2.1 + 223)]) (rest := []) (k := 219) Cx (b_X0_divide l G u_27 (o := 219) (b := 213) (q := 217) (h := 223) (n := 7) iu_27 rfl rfl rfl rfl (show (219 : Nat) ≠ 213 by decide) (show (219 : Nat) ≠ 217 by decide) (show (219 : Nat) ≠ 223 by decide) (show (213 : Nat) ≠ 217 by decide) (show (213 : Nat) ≠ 223 by decide) (show (217 : Nat) ≠ 223 by decide) (show Hd (bs u_27 219) from xu_27.2.2.2.2.2.2.2.2) (show Hd (bs u_27 213) from (bs_fr fu_27 rfl hbq)) (by omega)) (c_X1_187 Cx rfl rfl (rmk_ok (by omega) (by decide))) hW (by decide) rfl rfl rfl hl.1 rfl (Nat.le_of_ble_eq_true rfl) dX1_isPoint_83 ⟨Nat.le_of_ble_eq_true rfl, Nat.le_of_ble_eq_true rfl⟩) hL (fun u_53 H locs k_54 hW hL => ?_)
              obtain ⟨iu_53, fu_53, xu_53⟩ := k_54
              have F_55 := F_29.trans (fu_53.to (pD_sub (pB_sub rfl rfl) (pB_sub rfl rfl) (pB_sub rfl rfl)))
              have F_56 := F_30.trans (fu_53.to (pD_sub (pB_sub rfl rfl) (pB_sub rfl rfl) (pB_sub rfl rfl)))
              have F_57 := (Fr.rf : Fr u_27 u_27 pS12).trans (fu_53.to (pD_sub (pB_sub rfl rfl) (pB_sub rfl rfl) (pB_sub rfl rfl)))
              have bv_58 : bv u_53 217 = (pp j) / (pp 0) := (by have e : bv u_53 217 = _ := (xu_53.2.2.2.2.2.2.1 (by omega)).1; rw [(show bv u_27 219 = pp j from bv_32), (show bv u_27 213 = pp 0 from (bv_fr fu_27 rfl rfl).trans (hvq))] at e; exact e)
              have bv_59 : bv u_53 219 = (pp j) % (pp 0) := (by have e : bv u_53 219 = _ := (xu_53.2.2.2.2.2.2.1 (by omega)).2; rw [(show bv u_27 219 = pp j from bv_32), (show bv u_27 213 = pp 0 from (bv_fr fu_27 rfl rfl).trans (hvq))] at e; exact e)
              have sg_60 := bsg iu_53 (o := 219) rfl (show Hd (bs u_53 219) from xu_53.2.2.2.2.2.2.2.2)
              rw [(show bv u_53 219 = (pp j) % (pp 0) from bv_59)] at sg_60
              have q_61 : (-1) ≤ u_53.1 219 2 ∧ u_53.1 219 2 ≤ 1 := iu_53.fi 219 2 0 (by decide) rfl
              refine lv_aload_n hx hb dX1_isPoint_86 rfl (lv_at hl 1 rfl) ?_
              refine g_X1_48 Cx hW (k := 188) (by decide) rfl (v := .ref (G.2.2.1 + 219)) (rf_188_8 iu_53) dX1_isPoint_87 ?_
              refine g_X1_181 Cx hW (k := 219) (by decide) rfl (v := u_53.1 219 2) rfl dX1_isPoint_90 ?_
              refine r_if_eq (tgt := 98) hx hb ⟨(by omega), (by omega)⟩ dX1_isPoint_93 (by decide) (fun c_62 => ?_) (fun c_62 => ?_)
              · have lk_63 : u_53.1 213 1 = S14.1 213 1 := ((fu_53 213 rfl).1 1).trans ((fu_27 213 rfl).1 1)
                exact join_98 u_53  _ _ _ iu_53 F_55 F_56 F_57 (by omega) (show Hd (bs u_53 213) from (bs_fr fu_53 rfl (bs_fr fu_27 rfl hbq))) (show bv u_53 213 = pp 0 from (bv_fr fu_53 rfl rfl).trans ((bv_fr fu_27 rfl rfl).trans (hvq))) ⟨by omega, fun _ _ => by omega⟩ hW hL (lv_sub hl [0, 1, 2] rfl)
              · refine lv_iconst (v := iv 0) hx hb dX1_isPoint_96 (by decide) ?_
                exact sZret Cx hr hlk hW hL (by omega) ⟨iu_53, F_55, ⟨(by omega), (by omega), (show _ ↔ _ from ⟨fun q => absurd q (by omega), fun q => by have e := q.1 j (by omega) (by omega); have e1 := e.1; have e2 := e.2; first | (exfalso; omega) | (have e3 := e2 (by omega) (by have y := (xu_41.2.2.2).mp (by omega); have z := (MDv.of hMD (show u_27.1 o 2 = S.1 o 2 from ((fu_27 o (pB_no (tau_ne hm.1 (rfl : tau 219 = .inl 0) (fun h => by cases h)) (tau_ne hm.1 (rfl : tau 220 = .inr (.int, 32)) (fun h => by cases h)))).1 2).trans (((hL14_ o (mo_pS12 hm).1).1 2).trans ((fu_1 o (pB_no (tau_ne hm.1 (rfl : tau 213 = .inl 0) (fun h => by cases h)) (tau_ne hm.1 (rfl : tau 214 = .inr (.int, 32)) (fun h => by cases h)))).1 2))) (show u_27.1 o 3 = S.1 o 3 from ((fu_27 o (pB_no (tau_ne hm.1 (rfl : tau 219 = .inl 0) (fun h => by cases h)) (tau_ne hm.1 (rfl : tau 220 = .inr (.int, 32)) (fun h => by cases h)))).1 3).trans (((hL14_ o (mo_pS12 hm).1).1 3).trans ((fu_1 o (pB_no (tau_ne hm.1 (rfl : tau 213 = .inl 0) (fun h => by cases h)) (tau_ne hm.1 (rfl : tau 214 = .inr (.int, 32)) (fun h => by cases h)))).1 3))) (show u_27.1 o 4 = S.1 o 4 from ((fu_27 o (pB_no (tau_ne hm.1 (rfl : tau 219 = .inl 0) (fun h => by cases h)) (tau_ne hm.1 (rfl : tau 220 = .inr (.int, 32)) (fun h => by cases h)))).1 4).trans (((hL14_ o (mo_pS12 hm).1).1 4).trans ((fu_1 o (pB_no (tau_ne hm.1 (rfl : tau 213 = .inl 0) (fun h => by cases h)) (tau_ne hm.1 (rfl : tau 214 = .inr (.int, 32)) (fun h => by cases h)))).1 4))) (show u_27.2.1 (o + 1) = S.2.1 (o + 1) from funext fun x => ((fu_27 (o + 1) (pB_no (tau_ne hm.2.1 (rfl : tau 219 = .inl 0) (fun h => by cases h)) (tau_ne hm.2.1 (rfl : tau 220 = .inr (.int, 32)) (by decide)))).2.1 x).trans (((hL14_ (o + 1) (mo_pS12 hm).2.1).2.1 x).trans ((fu_1 (o + 1) (pB_no (tau_ne hm.2.1 (rfl : tau 213 = .inl 0) (fun h => by cases h)) (tau_ne hm.2.1 (rfl : tau 214 = .inr (.int, 32)) (by decide)))).2.1 x))) (show u_27.2.1 (o + 2) = S.2.1 (o + 2) from funext fun x => ((fu_27 (o + 2) (pB_no (tau_ne hm.2.2.1 (rfl : tau 219 = .inl 0) (fun h => by cases h)) (tau_ne hm.2.2.1 (rfl : tau 220 = .inr (.int, 32)) (fun h => by cases h)))).2.1 x).trans (((hL14_ (o + 2) (mo_pS12 hm).2.2).2.1 x).trans ((fu_1 (o + 2) (pB_no (tau_ne hm.2.2.1 (rfl : tau 213 = .inl 0) (fun h => by cases h)) (tau_ne hm.2.2.1 (rfl : tau 214 = .inr (.int, 32)) (fun h => by cases h)))).2.1 x)))).2.2.2.2 j (by omega) (by omega); exact z.symm.trans y.2.2); exfalso; omega)⟩)⟩⟩ dX1_isPoint_97
        · refine lv_iconst (v := iv 0) hx hb dX1_isPoint_50 (by decide) ?_
          exact sZret Cx hr hlk hW hL (by omega) ⟨iu_27, F_29, ⟨(by omega), (by omega), (show _ ↔ _ from ⟨fun q => absurd q (by omega), fun q => by have e := q.1 j (by omega) (by omega); have e1 := e.1; have e2 := e.2; first | (exfalso; omega) | (have e3 := e2 (by omega) (by have y := (x_.2.2.2).mp (by omega); have z := hMD.2.2.2.2 j (by omega) (by omega); exact z.symm.trans y.2.2); exfalso; omega)⟩)⟩⟩ dX1_isPoint_51
  have q_64 : 0 ≤ u_1.1 213 1 ∧ u_1.1 213 1 ≤ 32 := iu_1.fi 213 1 0 (by decide) rfl
  exact loop_14 (_ + 1) u_1 1 _ _ _ (Nat.lt_succ_self _) iu_1 F_3 Fr.rf (by omega) (by omega) (by omega) (show Hd (bs u_1 213) from xu_1.2.2.2.2.2.2.2.2) (show bv u_1 213 = pp 0 from bv_5) (fun i a b => absurd b (by omega)) hW hL (lv_sub hl [0, 1, 2] rfl)

set_option maxRecDepth 100000 in
set_option maxHeartbeats 4000000 in
theorem b_X1_isAlong (l : Launch) (G : sG) (S : sS) {o : Nat} {n mm mx : Int} {A : Int → Int → Int} {wh : Int → Int} {cc : Int} {RR : Int → Int → Int} {pp : Int → Int} (hI : cX G S 0 0 0) (hm : mdl o) (hmr : S.2.2.2 188 15 = .ref (G.2.2.1 + o)) (hMD : Hd (MDv S o n mm mx A wh)) (hR : Hd (RWv S n cc RR)) (hP : Hd (PTv S n pp)) (hcm : mm ≤ cc) : Met l yX1_isAlong (.code yX1_isAlong cX1_isAlong 2 (some .boolean) :: tb) (rmk 5 0 0) (sPc G 294 S [.ref (G.2.2.1 + 188)]) (sQi G 294 (fun r u => cX G u 0 0 0 ∧ Fr S u pS8 ∧ (0 ≤ r ∧ r ≤ 1 ∧ Hd (r = 1 ↔ okL n mm RR pp)))) 0 0 (sF G) := by
  refine sEnter (by decide) (Nat.le_of_ble_eq_true rfl) ?_
  intro p e s m args below meth c Cx hr hlk hnm hW ls hl
  have Cx : sC G p m c cX1_isAlong 2 s args RX1 := Cx
  obtain ⟨hx, hb, hml, hown, hts⟩ := id Cx.1
  have hL : sL G [] := sL_nil
  have hl : lv_has ls 2 [(0, .ref (G.2.2.1 + 188))] := hl
  have hW0 := hW
  have hMn := hMD.1; have hMm := hMD.2.1; have hMx := hMD.2.2.1; have hn12 : 0 ≤ S.1 o 2 ∧ S.1 o 2 ≤ 12 := hI.fi o 2 3 (mdl_k hm) hm.1; have hm16 : 0 ≤ S.1 o 3 ∧ S.1 o 3 ≤ 16 := hI.fi o 3 3 (mdl_k hm) hm.1
  refine lv_iconst (v := iv 1) hx hb dX1_isAlong_0 (by decide) ?_
  refine lv_istore_n (lv' := [(1, .int (iv 1)), (0, .ref (G.2.2.1 + 188))]) hx hb dX1_isAlong_1 rfl hl (by decide) rfl (fun ls hl => ?_)
  have loop_2 : ∀ (fuel : Nat) (S2 : sS) (j : Int) (H : Heap) (locs : List Loc) (ls : Array Slot), (13 - j).toNat < fuel → (cX G S2 0 0 0) → (Fr S S2 pS8) → (Fr S S2 pS8) → (1 ≤ j ∧ j ≤ 13) → (j ≤ n + 1) → (Hd (∀ i, 1 ≤ i → i < j → 0 ≤ pp i)) → sW G 294 S2 H → sL G locs → lv_has ls 2 [(1, .int (iv j)), (0, .ref (G.2.2.1 + 188))] → W p l e (rmk 5 0 0) s m args below meth c H locs 0 0 (MQ below (sQi G 294 (fun r u => cX G u 0 0 0 ∧ Fr S u pS8 ∧ (0 ≤ r ∧ r ≤ 1 ∧ Hd (r = 1 ↔ okL n mm RR pp)))) args s 0 0 (sF G)) (F0 m 2 ls []) := by
    intro fuel
    induction fuel with
    | zero => intro S2 j H locs ls hmeas hI2 hFm2 hL2_ hj hjn hpj hW hL hl; exact absurd hmeas (Nat.not_lt_zero _)
    | succ fuel ih_2 =>
      intro S2 j H locs ls hmeas hI2 hFm2 hL2_ hj hjn hpj hW hL hl
      refine lv_iload_n hx hb dX1_isAlong_2 rfl (lv_at hl 0 rfl) ?_
      refine lv_aload_n hx hb dX1_isAlong_3 rfl (lv_at hl 1 rfl) ?_
      refine g_X1_69 Cx hW (k := 188) (by decide) rfl (v := .ref (G.2.2.1 + o)) (((hL2_ 188 rfl).2.2.2 15).trans hmr) dX1_isAlong_4 ?_
      have q_1 : 0 ≤ S.1 o 2 ∧ S.1 o 2 ≤ 12 := hI.fi o 2 3 (mdl_k hm) hm.1
      refine g_X1_84 Cx hW (k := o) (mdl_l hm) hm.1 (v := S.1 o 2) ((hL2_ o (mo_pS8 hm).1).1 2) dX1_isAlong_7 ?_
      refine r_icmp_gt (tgt := 46) hx hb ⟨(by omega), (by omega)⟩ ⟨(by omega), (by omega)⟩ dX1_isAlong_10 (by decide) (fun c_2 => ?_) (fun c_2 => ?_)
      · refine lv_iconst (v := iv 1) hx hb dX1_isAlong_46 (by decide) ?_
        refine lv_istore_n (lv' := [(1, .int (iv 1)), (0, .ref (G.2.2.1 + 188))]) hx hb dX1_isAlong_47 rfl hl (by decide) rfl (fun ls hl => ?_)
        have loop_48 : ∀ (fuel : Nat) (S48 : sS) (k : Int) (H : Heap) (locs : List Loc) (ls : Array Slot), (17 - k).toNat < fuel → (cX G S48 0 0 0) → (Fr S S48 pS8) → (Fr S S48 pS8) → (Fr S2 S48 pS8) → (1 ≤ k ∧ k ≤ 17) → (k ≤ mm + 1) → (Hd (∀ i, 1 ≤ i → i < k → spt pp (RR i) n.toNat ≤ 0)) → sW G 294 S48 H → sL G locs → lv_has ls 2 [(1, .int (iv k)), (0, .ref (G.2.2.1 + 188))] → W p l e (rmk 5 0 0) s m args below meth c H locs 0 0 (MQ below (sQi G 294 (fun r u => cX G u 0 0 0 ∧ Fr S u pS8 ∧ (0 ≤ r ∧ r ≤ 1 ∧ Hd (r = 1 ↔ okL n mm RR pp)))) args s 0 0 (sF G)) (F0 m 48 ls []) := by
          intro fuel
          induction fuel with
          | zero => intro S48 k H locs ls hmeas hI48 hFm48 hFL248 hL48_ hk hkm hpk hW hL hl; exact absurd hmeas (Nat.not_lt_zero _)
          | succ fuel ih_48 =>
            intro S48 k H locs ls hmeas hI48 hFm48 hFL248 hL48_ hk hkm hpk hW hL hl
            refine lv_iload_n hx hb dX1_isAlong_48 rfl (lv_at hl 0 rfl) ?_
            refine lv_aload_n hx hb dX1_isAlong_49 rfl (lv_at hl 1 rfl) ?_
            refine g_X1_69 Cx hW (k := 188) (by decide) rfl (v := .ref (G.2.2.1 + o)) ((((hL48_ 188 rfl).2.2.2 15).trans ((hL2_ 188 rfl).2.2.2 15)).trans hmr) dX1_isAlong_50 ?_
            have q_3 : 0 ≤ S.1 o 3 ∧ S.1 o 3 ≤ 16 := hI.fi o 3 3 (mdl_k hm) hm.1
            refine g_X1_191 Cx hW (k := o) (mdl_l hm) hm.1 (v := S.1 o 3) (((hL48_ o (mo_pS8 hm).1).1 3).trans ((hL2_ o (mo_pS8 hm).1).1 3)) dX1_isAlong_53 ?_
            refine r_icmp_gt (tgt := 82) hx hb ⟨(by omega), (by omega)⟩ ⟨(by omega), (by omega)⟩ dX1_isAlong_56 (by decide) (fun c_4 => ?_) (fun c_4 => ?_)
            · refine lv_aload_n hx hb dX1_isAlong_82 rfl (lv_at hl 1 rfl) ?_
              refine lv_iconst (v := iv 0) hx hb dX1_isAlong_83 (by decide) ?_
              refine sBv (sV (As := [.int (iv 0)]) (rest := []) (k := 188) Cx (b_X1_sumAt l G S48 (k := 0) (o := o) (n := n) (mm := mm) (mx := mx) (A := A) (wh := wh) (cc := cc) (RR := RR) (pp := pp) hI48 (by omega) (by omega) hm ((((hL48_ 188 rfl).2.2.2 15).trans ((hL2_ 188 rfl).2.2.2 15)).trans hmr) (MDv.of hMD (show S48.1 o 2 = S.1 o 2 from ((hL48_ o (mo_pS8 hm).1).1 2).trans ((hL2_ o (mo_pS8 hm).1).1 2)) (show S48.1 o 3 = S.1 o 3 from ((hL48_ o (mo_pS8 hm).1).1 3).trans ((hL2_ o (mo_pS8 hm).1).1 3)) (show S48.1 o 4 = S.1 o 4 from ((hL48_ o (mo_pS8 hm).1).1 4).trans ((hL2_ o (mo_pS8 hm).1).1 4)) (show S48.2.1 (o + 1) = S.2.1 (o + 1) from funext fun x => ((hL48_ (o + 1) (mo_pS8 hm).2.1).2.1 x).trans ((hL2_ (o + 1) (mo_pS8 hm).2.1).2.1 x)) (show S48.2.1 (o + 2) = S.2.1 (o + 2) from funext fun x => ((hL48_ (o + 2) (mo_pS8 hm).2.2).2.1 x).trans ((hL2_ (o + 2) (mo_pS8 hm).2.2).2.1 x))) (RWv.of hR (show S48.1 193 8 = S.1 193 8 from ((hL48_ 193 rfl).1 8).trans ((hL2_ 193 rfl).1 8)) (show S48.1 193 9 = S.1 193 9 from ((hL48_ 193 rfl).1 9).trans ((hL2_ 193 rfl).1 9)) (show S48.2.1 194 = S.2.1 194 from funext fun x => ((hL48_ 194 rfl).2.1 x).trans ((hL2_ 194 rfl).2.1 x))) (PTv.of hP (show S48.2.1 208 = S.2.1 208 from funext fun x => ((hL48_ 208 rfl).2.1 x).trans ((hL2_ 208 rfl).2.1 x)))) (c_X1_170 Cx rfl rfl (rmk_ok (by omega) (by decide))) hW (by decide) rfl rfl rfl hl.1 rfl (Nat.le_of_ble_eq_true rfl) dX1_isAlong_84 ⟨Nat.le_of_ble_eq_true rfl, Nat.le_of_ble_eq_true rfl⟩) hL (fun u_5 H locs k_6 hW hL => ?_)
              obtain ⟨iu_5, fu_5, xu_5⟩ := k_6
              have F_7 := hFm48.trans fu_5
              have F_8 := hFL248.trans fu_5
              have F_9 := hL48_.trans fu_5
              have bv_10 : bv u_5 215 = spt pp (RR 0) n.toNat := xu_5.2.2.1
              have sg_11 := bsg iu_5 (o := 215) rfl (show Hd (bs u_5 215) from xu_5.2.2.2)
              rw [(show bv u_5 215 = spt pp (RR 0) n.toNat from bv_10)] at sg_11
              have q_12 : (-1) ≤ u_5.1 215 2 ∧ u_5.1 215 2 ≤ 1 := iu_5.fi 215 2 0 (by decide) rfl
              refine lv_aload_n hx hb dX1_isAlong_87 rfl (lv_at hl 1 rfl) ?_
              refine g_X1_42 Cx hW (k := 188) (by decide) rfl (v := .ref (G.2.2.1 + 215)) (rf_188_6 iu_5) dX1_isAlong_88 ?_
              refine g_X1_181 Cx hW (k := 215) (by decide) rfl (v := u_5.1 215 2) rfl dX1_isAlong_91 ?_
              refine r_if_le (tgt := 101) hx hb ⟨(by omega), (by omega)⟩ dX1_isAlong_94 (by decide) (fun c_13 => ?_) (fun c_13 => ?_)
              · refine lv_iconst (v := iv 0) hx hb dX1_isAlong_101 (by decide) ?_
                exact sZret Cx hr hlk hW hL (by omega) ⟨iu_5, F_7, ⟨(by omega), (by omega), (show _ ↔ _ from ⟨fun q => absurd q (by omega), fun q => by have e := q.2.2; exfalso; omega⟩)⟩⟩ dX1_isAlong_102
              · refine lv_iconst (v := iv 1) hx hb dX1_isAlong_97 (by decide) ?_
                refine lv_goto (tgt := 102) hx hb dX1_isAlong_98 (by decide) ?_
                exact sZret Cx hr hlk hW hL (by omega) ⟨iu_5, F_7, ⟨(by omega), (by omega), (show _ ↔ _ from ⟨fun _ => ⟨fun i a b => hpj i a (by omega), fun i a b => hpk i a (by omega), by omega⟩, fun _ => rfl⟩)⟩⟩ dX1_isAlong_102
            · refine lv_aload_n hx hb dX1_isAlong_59 rfl (lv_at hl 1 rfl) ?_
              refine lv_iload_n hx hb dX1_isAlong_60 rfl (lv_at hl 0 rfl) ?_
              refine sBv (sV (As := [.int (iv k)]) (rest := []) (k := 188) Cx (b_X1_sumAt l G S48 (k := k) (o := o) (n := n) (mm := mm) (mx := mx) (A := A) (wh := wh) (cc := cc) (RR := RR) (pp := pp) hI48 (by omega) (by omega) hm ((((hL48_ 188 rfl).2.2.2 15).trans ((hL2_ 188 rfl).2.2.2 15)).trans hmr) (MDv.of hMD (show S48.1 o 2 = S.1 o 2 from ((hL48_ o (mo_pS8 hm).1).1 2).trans ((hL2_ o (mo_pS8 hm).1).1 2)) (show S48.1 o 3 = S.1 o 3 from ((hL48_ o (mo_pS8 hm).1).1 3).trans ((hL2_ o (mo_pS8 hm).1).1 3)) (show S48.1 o 4 = S.1 o 4 from ((hL48_ o (mo_pS8 hm).1).1 4).trans ((hL2_ o (mo_pS8 hm).1).1 4)) (show S48.2.1 (o + 1) = S.2.1 (o + 1) from funext fun x => ((hL48_ (o + 1) (mo_pS8 hm).2.1).2.1 x).trans ((hL2_ (o + 1) (mo_pS8 hm).2.1).2.1 x)) (show S48.2.1 (o + 2) = S.2.1 (o + 2) from funext fun x => ((hL48_ (o + 2) (mo_pS8 hm).2.2).2.1 x).trans ((hL2_ (o + 2) (mo_pS8 hm).2.2).2.1 x))) (RWv.of hR (show S48.1 193 8 = S.1 193 8 from ((hL48_ 193 rfl).1 8).trans ((hL2_ 193 rfl).1 8)) (show S48.1 193 9 = S.1 193 9 from ((hL48_ 193 rfl).1 9).trans ((hL2_ 193 rfl).1 9)) (show S48.2.1 194 = S.2.1 194 from funext fun x => ((hL48_ 194 rfl).2.1 x).trans ((hL2_ 194 rfl).2.1 x))) (PTv.of hP (show S48.2.1 208 = S.2.1 208 from funext fun x => ((hL48_ 208 rfl).2.1 x).trans ((hL2_ 208 rfl).2.1 x)))) (c_X1_170 Cx rfl rfl (rmk_ok (by omega) (by decide))) hW (by decide) rfl rfl rfl hl.1 rfl (Nat.le_of_ble_eq_true rfl) dX1_isAlong_61 ⟨Nat.le_of_ble_eq_true rfl, Nat.le_of_ble_eq_true rfl⟩) hL (fun u_14 H locs k_15 hW hL => ?_)
              obtain ⟨iu_14, fu_14, xu_14⟩ := k_15
              have F_16 := hFm48.trans fu_14
              have F_17 := hFL248.trans fu_14
              have F_18 := hL48_.trans fu_14
              have bv_19 : bv u_14 215 = spt pp (RR k) n.toNat := xu_14.2.2.1
              have sg_20 := bsg iu_14 (o := 215) rfl (show Hd (bs u_14 215) from xu_14.2.2.2)
              rw [(show bv u_14 215 = spt pp (RR k) n.toNat from bv_19)] at sg_20
              have q_21 : (-1) ≤ u_14.1 215 2 ∧ u_14.1 215 2 ≤ 1 := iu_14.fi 215 2 0 (by decide) rfl
              refine lv_aload_n hx hb dX1_isAlong_64 rfl (lv_at hl 1 rfl) ?_
              refine g_X1_42 Cx hW (k := 188) (by decide) rfl (v := .ref (G.2.2.1 + 215)) (rf_188_6 iu_14) dX1_isAlong_65 ?_
              refine g_X1_181 Cx hW (k := 215) (by decide) rfl (v := u_14.1 215 2) rfl dX1_isAlong_68 ?_
              refine r_if_le (tgt := 76) hx hb ⟨(by omega), (by omega)⟩ dX1_isAlong_71 (by decide) (fun c_22 => ?_) (fun c_22 => ?_)
              · refine lv_iinc (v := iv (k + 1)) (lv' := [(1, .int (iv (k + 1))), (0, .ref (G.2.2.1 + 188))]) hx hb dX1_isAlong_76 hl (k := 0) rfl ((Int32.ofInt_add _ _).symm) (by decide) rfl (fun ls hl => ?_)
                refine lv_goto (tgt := 48) hx hb dX1_isAlong_79 (by decide) ?_
                exact ih_48 u_14 (k + 1) _ _ _ (by omega) iu_14 F_16 F_17 F_18 (by omega) (by omega) (fun i a b => by by_cases q : i = k; (rw [q]; omega); exact hpk i a (by omega)) hW hL (lv_sub hl [0, 1] rfl)
              · refine lv_iconst (v := iv 0) hx hb dX1_isAlong_74 (by decide) ?_
                exact sZret Cx hr hlk hW hL (by omega) ⟨iu_14, F_16, ⟨(by omega), (by omega), (show _ ↔ _ from ⟨fun q => absurd q (by omega), fun q => by have e := q.2.1 k (by omega) (by omega); exfalso; omega⟩)⟩⟩ dX1_isAlong_75
        exact loop_48 (_ + 1) S2 1 _ _ _ (Nat.lt_succ_self _) hI2 hFm2 hL2_ Fr.rf (by omega) (by omega) (fun i a b => absurd b (by omega)) hW hL (lv_sub hl [0, 1] rfl)
      · refine lv_aload_n hx hb dX1_isAlong_13 rfl (lv_at hl 1 rfl) ?_
        refine g_X1_48 Cx hW (k := 188) (by decide) rfl (v := .ref (G.2.2.1 + 219)) (rf_188_8 hI2) dX1_isAlong_14 ?_
        refine lv_aload_n hx hb dX1_isAlong_17 rfl (lv_at hl 1 rfl) ?_
        refine g_X1_27 Cx hW (k := 188) (by decide) rfl (v := .ref (G.2.2.1 + 208)) (rf_188_2 hI2) dX1_isAlong_18 ?_
        refine lv_iload_n hx hb dX1_isAlong_21 rfl (lv_at hl 0 rfl) ?_
        refine lv_bipush (v := iv 8) hx hb dX1_isAlong_22 (by decide) ?_
        refine r_imul hx hb dX1_isAlong_24 ?_
        refine sBv (sV (As := [.ref (G.2.2.1 + 208), .int (iv (j * 8))]) (rest := []) (k := 219) Cx (b_X0_load l G S2 (o := 219) (k := 208) (a := j * 8) (N := 104) hI2 rfl ⟨by decide, rfl, by decide, rfl, rfl, rfl⟩ (by omega)) (c_X1_157 Cx rfl rfl (rmk_ok (by omega) (by decide))) hW (by decide) rfl rfl rfl hl.1 rfl (Nat.le_of_ble_eq_true rfl) dX1_isAlong_25 ⟨Nat.le_of_ble_eq_true rfl, Nat.le_of_ble_eq_true rfl⟩) hL (fun u_23 H locs k_24 hW hL => ?_)
        obtain ⟨iu_23, fu_23, xu_23⟩ := k_24
        have F_25 := hFm2.trans (fu_23.to (pB_sub rfl rfl))
        have F_26 := hL2_.trans (fu_23.to (pB_sub rfl rfl))
        have yu_23 : u_23.1 219 1 ≤ 7 := xu_23.1
        have bv_27 : bv u_23 219 = nv (S2.2.1 208) (j * 8) := xu_23.2.2.2.2.2.2.2.1
        have bv_28 : bv u_23 219 = pp j := ((show bv u_23 219 = nv (S2.2.1 208) (j * 8) from bv_27)).trans ((PTv.of hP (show S2.2.1 208 = S.2.1 208 from funext fun x => (hL2_ 208 rfl).2.1 x)) j (by omega) (by omega))
        have sg_29 := bsg iu_23 (o := 219) rfl (show Hd (bs u_23 219) from xu_23.2.2.2.2.2.2.2.2)
        rw [(show bv u_23 219 = pp j from bv_28)] at sg_29
        have q_30 : (-1) ≤ u_23.1 219 2 ∧ u_23.1 219 2 ≤ 1 := iu_23.fi 219 2 0 (by decide) rfl
        refine lv_aload_n hx hb dX1_isAlong_28 rfl (lv_at hl 1 rfl) ?_
        refine g_X1_48 Cx hW (k := 188) (by decide) rfl (v := .ref (G.2.2.1 + 219)) (rf_188_8 iu_23) dX1_isAlong_29 ?_
        refine g_X1_181 Cx hW (k := 219) (by decide) rfl (v := u_23.1 219 2) rfl dX1_isAlong_32 ?_
        refine r_if_ge (tgt := 40) hx hb ⟨(by omega), (by omega)⟩ dX1_isAlong_35 (by decide) (fun c_31 => ?_) (fun c_31 => ?_)
        · refine lv_iinc (v := iv (j + 1)) (lv' := [(1, .int (iv (j + 1))), (0, .ref (G.2.2.1 + 188))]) hx hb dX1_isAlong_40 hl (k := 0) rfl ((Int32.ofInt_add _ _).symm) (by decide) rfl (fun ls hl => ?_)
          refine lv_goto (tgt := 2) hx hb dX1_isAlong_43 (by decide) ?_
          exact ih_2 u_23 (j + 1) _ _ _ (by omega) iu_23 F_25 F_26 (by omega) (by omega) (fun i a b => by by_cases q : i = j; (rw [q]; omega); exact hpj i a (by omega)) hW hL (lv_sub hl [0, 1] rfl)
        · refine lv_iconst (v := iv 0) hx hb dX1_isAlong_38 (by decide) ?_
          exact sZret Cx hr hlk hW hL (by omega) ⟨iu_23, F_25, ⟨(by omega), (by omega), (show _ ↔ _ from ⟨fun q => absurd q (by omega), fun q => by have e := q.1 j (by omega) (by omega); exfalso; omega⟩)⟩⟩ dX1_isAlong_39
  exact loop_2 (_ + 1) S 1 _ _ _ (Nat.lt_succ_self _) hI (Fr.rf : Fr S S pS8) Fr.rf (by omega) (by omega) (fun i a b => absurd b (by omega)) hW hL (lv_sub hl [0, 1] rfl)

set_option maxRecDepth 100000 in
set_option maxHeartbeats 4000000 in
theorem b_X1_isFarkas (l : Launch) (G : sG) (S : sS) {o : Nat} {n mm mx : Int} {A : Int → Int → Int} {wh : Int → Int} {cc : Int} {RR : Int → Int → Int} {ff : Int → Int} (hI : cX G S 0 0 0) (hm : mdl o) (hmr : S.2.2.2 188 15 = .ref (G.2.2.1 + o)) (hMD : Hd (MDv S o n mm mx A wh)) (hR : Hd (RWv S n cc RR)) (hF : Hd (FCv S ff)) (hc0 : 0 ≤ cc) : Met l yX1_isFarkas (.code yX1_isFarkas cX1_isFarkas 2 (some .boolean) :: tb) (rmk 5 0 0) (sPc G 294 S [.ref (G.2.2.1 + 188)]) (sQi G 294 (fun r u => cX G u 0 0 0 ∧ Fr S u pFk ∧ (0 ≤ r ∧ r ≤ 1 ∧ Hd (r = 1 ↔ okF n cc RR ff)))) 0 0 (sF G) := by
  refine sEnter (by decide) (Nat.le_of_ble_eq_true rfl) ?_
  intro p e s m args below meth c Cx hr hlk hnm hW ls hl
  have Cx : sC G p m c cX1_isFarkas 2 s args RX1 := Cx
  obtain ⟨hx, hb, hml, hown, hts⟩ := id Cx.1
  have hL : sL G [] := sL_nil
  have hl : lv_has ls 2 [(0, .ref (G.2.2.1 + 188))] := hl
  have hW0 := hW
  have hMn := hMD.1; have hMm := hMD.2.1; have hMx := hMD.2.2.1; have hn12 : 0 ≤ S.1 o 2 ∧ S.1 o 2 ≤ 12 := hI.fi o 2 3 (mdl_k hm) hm.1; have hm16 : 0 ≤ S.1 o 3 ∧ S.1 o 3 ≤ 16 := hI.fi o 3 3 (mdl_k hm) hm.1
  refine lv_iconst (v := iv 1) hx hb dX1_isFarkas_0 (by decide) ?_
  refine lv_istore_n (lv' := [(1, .int (iv 1)), (0, .ref (G.2.2.1 + 188))]) hx hb dX1_isFarkas_1 rfl hl (by decide) rfl (fun ls hl => ?_)
  have loop_2 : ∀ (fuel : Nat) (S2 : sS) (j : Int) (H : Heap) (locs : List Loc) (ls : Array Slot), (13 - j).toNat < fuel → (cX G S2 0 0 0) → (Fr S S2 pFk) → (Fr S S2 pFk) → (1 ≤ j ∧ j ≤ 13) → (j ≤ n + 1) → (Hd (∀ i, 1 ≤ i → i < j → 0 ≤ smf ff RR i cc.toNat)) → (Hd (RWv S2 n cc RR)) → (Hd (FCv S2 ff)) → sW G 294 S2 H → sL G locs → lv_has ls 2 [(1, .int (iv j)), (0, .ref (G.2.2.1 + 188))] → W p l e (rmk 5 0 0) s m args below meth c H locs 0 0 (MQ below (sQi G 294 (fun r u => cX G u 0 0 0 ∧ Fr S u pFk ∧ (0 ≤ r ∧ r ≤ 1 ∧ Hd (r = 1 ↔ okF n cc RR ff)))) args s 0 0 (sF G)) (F0 m 2 ls []) := by
    intro fuel
    induction fuel with
    | zero => intro S2 j H locs ls hmeas hI2 hFm2 hL2_ hj hjn hpj hR2l hF2l hW hL hl; exact absurd hmeas (Nat.not_lt_zero _)
    | succ fuel ih_2 =>
      intro S2 j H locs ls hmeas hI2 hFm2 hL2_ hj hjn hpj hR2l hF2l hW hL hl
      refine lv_iload_n hx hb dX1_isFarkas_2 rfl (lv_at hl 0 rfl) ?_
      refine lv_aload_n hx hb dX1_isFarkas_3 rfl (lv_at hl 1 rfl) ?_
      refine g_X1_69 Cx hW (k := 188) (by decide) rfl (v := .ref (G.2.2.1 + o)) (((hL2_ 188 rfl).2.2.2 15).trans hmr) dX1_isFarkas_4 ?_
      have q_1 : 0 ≤ S.1 o 2 ∧ S.1 o 2 ≤ 12 := hI.fi o 2 3 (mdl_k hm) hm.1
      refine g_X1_84 Cx hW (k := o) (mdl_l hm) hm.1 (v := S.1 o 2) ((hL2_ o (mo_pFk hm).1).1 2) dX1_isFarkas_7 ?_
      refine r_icmp_gt (tgt := 43) hx hb ⟨(by omega), (by omega)⟩ ⟨(by omega), (by omega)⟩ dX1_isFarkas_10 (by decide) (fun c_2 => ?_) (fun c_2 => ?_)
      · refine lv_aload_n hx hb dX1_isFarkas_43 rfl (lv_at hl 1 rfl) ?_
        refine g_X1_21 Cx hW (k := 188) (by decide) rfl (v := .ref (G.2.2.1 + 193)) (rf_188_1 hI2) dX1_isFarkas_44 ?_
        refine lv_iconst (v := iv 0) hx hb dX1_isFarkas_47 (by decide) ?_
        refine lv_aload_n hx hb dX1_isFarkas_48 rfl (lv_at hl 1 rfl) ?_
        refine g_X1_42 Cx hW (k := 188) (by decide) rfl (v := .ref (G.2.2.1 + 215)) (rf_188_6 hI2) dX1_isFarkas_49 ?_
        refine sBv (sV (As := [.int (iv 0), .ref (G.2.2.1 + 215)]) (rest := []) (k := 193) Cx (b_X6_combine_193_215 l G S2 (j := 0) (n := n) (cc := cc) (RR := RR) (ff := ff) hI2 (by omega) hR2l hF2l (by omega)) (c_X1_242 Cx rfl rfl (rmk_ok (by omega) (by decide))) hW (by decide) rfl rfl rfl hl.1 rfl (Nat.le_of_ble_eq_true rfl) dX1_isFarkas_52 ⟨Nat.le_of_ble_eq_true rfl, Nat.le_of_ble_eq_true rfl⟩) hL (fun u_3 H locs k_4 hW hL => ?_)
        obtain ⟨iu_3, fu_3, xu_3⟩ := k_4
        have F_5 := hFm2.trans (fu_3.to (pK_sub rgF_193 rfl rfl))
        have F_6 := hL2_.trans (fu_3.to (pK_sub rgF_193 rfl rfl))
        have bv_7 : bv u_3 215 = smf ff RR 0 cc.toNat := xu_3.2.2.1
        have sg_8 := bsg iu_3 (o := 215) rfl (show Hd (bs u_3 215) from xu_3.2.2.2)
        rw [(show bv u_3 215 = smf ff RR 0 cc.toNat from bv_7)] at sg_8
        have q_9 : (-1) ≤ u_3.1 215 2 ∧ u_3.1 215 2 ≤ 1 := iu_3.fi 215 2 0 (by decide) rfl
        refine lv_aload_n hx hb dX1_isFarkas_55 rfl (lv_at hl 1 rfl) ?_
        refine g_X1_42 Cx hW (k := 188) (by decide) rfl (v := .ref (G.2.2.1 + 215)) (rf_188_6 iu_3) dX1_isFarkas_56 ?_
        refine g_X1_181 Cx hW (k := 215) (by decide) rfl (v := u_3.1 215 2) rfl dX1_isFarkas_59 ?_
        refine r_if_ge (tgt := 69) hx hb ⟨(by omega), (by omega)⟩ dX1_isFarkas_62 (by decide) (fun c_10 => ?_) (fun c_10 => ?_)
        · refine lv_iconst (v := iv 0) hx hb dX1_isFarkas_69 (by decide) ?_
          exact sZret Cx hr hlk hW hL (by omega) ⟨iu_3, F_5, ⟨(by omega), (by omega), (show _ ↔ _ from ⟨fun q => absurd q (by omega), fun q => by have e := q.2; exfalso; omega⟩)⟩⟩ dX1_isFarkas_70
        · refine lv_iconst (v := iv 1) hx hb dX1_isFarkas_65 (by decide) ?_
          refine lv_goto (tgt := 70) hx hb dX1_isFarkas_66 (by decide) ?_
          exact sZret Cx hr hlk hW hL (by omega) ⟨iu_3, F_5, ⟨(by omega), (by omega), (show _ ↔ _ from ⟨fun _ => ⟨fun i a b => hpj i a (by omega), by omega⟩, fun _ => rfl⟩)⟩⟩ dX1_isFarkas_70
      · refine lv_aload_n hx hb dX1_isFarkas_13 rfl (lv_at hl 1 rfl) ?_
        refine g_X1_21 Cx hW (k := 188) (by decide) rfl (v := .ref (G.2.2.1 + 193)) (rf_188_1 hI2) dX1_isFarkas_14 ?_
        refine lv_iload_n hx hb dX1_isFarkas_17 rfl (lv_at hl 0 rfl) ?_
        refine lv_aload_n hx hb dX1_isFarkas_18 rfl (lv_at hl 1 rfl) ?_
        refine g_X1_42 Cx hW (k := 188) (by decide) rfl (v := .ref (G.2.2.1 + 215)) (rf_188_6 hI2) dX1_isFarkas_19 ?_
        refine sBv (sV (As := [.int (iv j), .ref (G.2.2.1 + 215)]) (rest := []) (k := 193) Cx (b_X6_combine_193_215 l G S2 (j := j) (n := n) (cc := cc) (RR := RR) (ff := ff) hI2 (by omega) hR2l hF2l (by omega)) (c_X1_242 Cx rfl rfl (rmk_ok (by omega) (by decide))) hW (by decide) rfl rfl rfl hl.1 rfl (Nat.le_of_ble_eq_true rfl) dX1_isFarkas_22 ⟨Nat.le_of_ble_eq_true rfl, Nat.le_of_ble_eq_true rfl⟩) hL (fun u_11 H locs k_12 hW hL => ?_)
        obtain ⟨iu_11, fu_11, xu_11⟩ := k_12
        have F_13 := hFm2.trans (fu_11.to (pK_sub rgF_193 rfl rfl))
        have F_14 := hL2_.trans (fu_11.to (pK_sub rgF_193 rfl rfl))
        have bv_15 : bv u_11 215 = smf ff RR j cc.toNat := xu_11.2.2.1
        have sg_16 := bsg iu_11 (o := 215) rfl (show Hd (bs u_11 215) from xu_11.2.2.2)
        rw [(show bv u_11 215 = smf ff RR j cc.toNat from bv_15)] at sg_16
        have q_17 : (-1) ≤ u_11.1 215 2 ∧ u_11.1 215 2 ≤ 1 := iu_11.fi 215 2 0 (by decide) rfl
        refine lv_aload_n hx hb dX1_isFarkas_25 rfl (lv_at hl 1 rfl) ?_
        refine g_X1_42 Cx hW (k := 188) (by decide) rfl (v := .ref (G.2.2.1 + 215)) (rf_188_6 iu_11) dX1_isFarkas_26 ?_
        refine g_X1_181 Cx hW (k := 215) (by decide) rfl (v := u_11.1 215 2) rfl dX1_isFarkas_29 ?_
        refine r_if_ge (tgt := 37) hx hb ⟨(by omega), (by omega)⟩ dX1_isFarkas_32 (by decide) (fun c_18 => ?_) (fun c_18 => ?_)
        · refine lv_iinc (v := iv (j + 1)) (lv' := [(1, .int (iv (j + 1))), (0, .ref (G.2.2.1 + 188))]) hx hb dX1_isFarkas_37 hl (k := 0) rfl ((Int32.ofInt_add _ _).symm) (by decide) rfl (fun ls hl => ?_)
          refine lv_goto (tgt := 2) hx hb dX1_isFarkas_40 (by decide) ?_
          exact ih_2 u_11 (j + 1) _ _ _ (by omega) iu_11 F_13 F_14 (by omega) (by omega) (fun i a b => by by_cases q : i = j; (rw [q]; omega); exact hpj i a (by omega)) (RWv.of hR2l (show u_11.1 193 8 = S2.1 193 8 from (fu_11 193 rfl).1 8) (show u_11.1 193 9 = S2.1 193 9 from (fu_11 193 rfl).1 9) (show u_11.2.1 194 = S2.2.1 194 from funext fun x => (fu_11 194 rfl).2.1 x)) (FCv.of hF2l (show u_11.2.1 195 = S2.2.1 195 from funext fun x => (fu_11 195 rfl).2.1 x)) hW hL (lv_sub hl [0, 1] rfl)
        · refine lv_iconst (v := iv 0) hx hb dX1_isFarkas_35 (by decide) ?_
          exact sZret Cx hr hlk hW hL (by omega) ⟨iu_11, F_13, ⟨(by omega), (by omega), (show _ ↔ _ from ⟨fun q => absurd q (by omega), fun q => by have e := q.1 j (by omega) (by omega); exfalso; omega⟩)⟩⟩ dX1_isFarkas_36
  exact loop_2 (_ + 1) S 1 _ _ _ (Nat.lt_succ_self _) hI (Fr.rf : Fr S S pFk) Fr.rf (by omega) (by omega) (fun i a b => absurd b (by omega)) hR hF hW hL (lv_sub hl [0, 1] rfl)
