def VTv (S : sS) (vt vb : Int) : Prop := bv S 209 = vt ∧ bv S 211 = vb ∧ bs S 209 ∧ bs S 211 ∧ S.1 209 1 ≤ 7 ∧ S.1 211 1 ≤ 7
theorem nv208 {G : sG} {S u : sS} {x : Nat} {b a p : Int} (hI : cX G S x 0 b) (hp : p % 8 = 0 ∧ 0 ≤ p ∧ p + 7 < 104) (hf : ∀ y, y < a ∨ a + 8 ≤ y → u.2.1 208 y = S.2.1 208 y) (ha : p + 8 ≤ a ∨ a + 8 ≤ p) : nv (u.2.1 208) p = nv (S.2.1 208) p :=
  nv_8 (slot7 hI (.inr (.inr (.inl rfl))) hp.1 hp.2.1 (show _ < (104 : Int) from hp.2.2)) (fun y y0 y1 => hf y (by omega))
theorem prs_i {c : Int} {kp vp : Int → Int} {i t la e : Int} {g : Nat} {ff : Int → Int} (hi : i ≤ 30001) (hg : (30001 - i).toNat = g + 1) (k : kp t = 2) (h : ¬ (vp t ≤ la ∨ c < vp t ∨ vp (t + 2) < 0)) (he : e = t + 3) : prs c kp vp (30001 - (i + 1)).toNat e (vp t) (upf ff (vp t) (vp (t + 2))) = prs c kp vp (30001 - i).toNat t la ff := by
  rw [hg, prs_go k h, show (30001 - (i + 1)).toNat = g by omega, he]
/-- one round of a PAIRS' loop -/
def PLp (c : Int) (kp vp : Int → Int) (t0 i t la e0 : Int) (ff : Int → Int) : Prop := gPr kp (30001 - i).toNat t = some e0 ∧ prs c kp vp (30001 - i).toNat t la ff = prs c kp vp 30001 t0 0 (fun _ => 0)
theorem PLp.go {c : Int} {kp vp : Int → Int} {t0 i t la e0 x f e : Int} {ff : Int → Int} (h : PLp c kp vp t0 i t la e0 ff) (hi : i ≤ 30001) (k : kp t = 2) (hb : ¬ (vp t ≤ la ∨ c < vp t ∨ vp (t + 2) < 0)) (hx : x = vp t) (hf : f = vp (t + 2)) (he : e = t + 3) : PLp c kp vp t0 (i + 1) e x e0 (upf ff x f) := by
  obtain ⟨g, h1, _, _, h2⟩ := gPr_2 h.1 k
  refine ⟨by rw [show (30001 - (i + 1)).toNat = g by omega, he]; exact h2, ?_⟩
  rw [hx, hf, prs_i hi h1 k hb he]; exact h.2
theorem PLp.bad {c : Int} {kp vp : Int → Int} {t0 i t la e0 : Int} {ff : Int → Int} (h : PLp c kp vp t0 i t la e0 ff) (k : kp t = 2) (hb : vp t ≤ la ∨ c < vp t ∨ vp (t + 2) < 0) : prs c kp vp 30001 t0 0 (fun _ => 0) = none := by
  obtain ⟨g, h1, _, _, h2⟩ := gPr_2 h.1 k
  rw [← h.2, h1]; exact prs_bad k hb
theorem PLp.fin {c : Int} {kp vp : Int → Int} {t0 i t la e0 : Int} {ff : Int → Int} (h : PLp c kp vp t0 i t la e0 ff) (k : kp t ≠ 2) : prs c kp vp 30001 t0 0 (fun _ => 0) = some (ff, e0) ∧ e0 = t + 1 := by
  obtain ⟨g, h1, _, h2⟩ := gPr_5 h.1 k
  rw [← h.2, h1, h2]; exact ⟨prs_end k, rfl⟩
theorem PLp.in {c : Int} {kp vp : Int → Int} {t i e0 : Int} (h : gPr kp 30001 t = some e0) (hi : i = 0) : PLp c kp vp t i t 0 e0 (fun _ => 0) := by
  subst hi; exact ⟨h, rfl⟩
theorem PLp.le {c : Int} {kp vp : Int → Int} {t0 i t la e0 : Int} {ff : Int → Int} (h : PLp c kp vp t0 i t la e0 ff) : i ≤ 30000 := by
  by_cases q : i ≤ 30000
  · exact q
  · have := h.1; rw [show (30001 - i).toNat = 0 by omega] at this; cases this
theorem PLp.k {c : Int} {kp vp : Int → Int} {t0 i t la e0 : Int} {ff : Int → Int} (h : PLp c kp vp t0 i t la e0 ff) : kp t = 2 ∧ kp (t + 1) = 4 ∧ kp (t + 2) = 2 ∨ kp t = 5 := by
  by_cases k : kp t = 2
  · obtain ⟨g, _, a, b, _⟩ := gPr_2 h.1 k; exact .inl ⟨k, a, b⟩
  · obtain ⟨g, _, a, _⟩ := gPr_5 h.1 k; exact .inr a
set_option maxRecDepth 100000 in
set_option maxHeartbeats 4000000 in
theorem b_X1_isBound (l : Launch) (G : sG) (S : sS) {qq : Int} {o : Nat} {n mm mx : Int} {A : Int → Int → Int} {wh : Int → Int} {cc : Int} {RR : Int → Int → Int} {ff : Int → Int} {vt vb : Int} (hI : cX G S 0 0 0) (hq : S.1 213 1 ≤ 7) (hqv : bv S 213 = qq) (hqb : Hd (bs S 213)) (hq0 : 0 < qq) (hm : mdl o) (hmr : S.2.2.2 188 15 = .ref (G.2.2.1 + o)) (hMD : Hd (MDv S o n mm mx A wh)) (hR : Hd (RWv S n cc RR)) (hF : Hd (FCv S ff)) (hc0 : 0 ≤ cc) (hRA : Hd (∀ j, 0 ≤ j → j ≤ n → RR 0 j = A 0 j)) (hvt : bv S 209 = vt) (hvb : bv S 211 = vb) (hb9 : Hd (bs S 209)) (hb11 : Hd (bs S 211)) (h7 : S.1 209 1 ≤ 7 ∧ S.1 211 1 ≤ 7) : Met l yX1_isBound (.code yX1_isBound cX1_isBound 2 (some .boolean) :: tb) (rmk 5 0 0) (sPc G 294 S [.ref (G.2.2.1 + 188)]) (sQi G 294 (fun r u => cX G u 0 0 0 ∧ Fr S u pFk ∧ (0 ≤ r ∧ r ≤ 1 ∧ Hd (r = 1 ↔ okBd n cc RR wh ff qq vt vb)))) 0 0 (sF G) := by
  refine sEnter (by decide) (Nat.le_of_ble_eq_true rfl) ?_
  intro p e s m args below meth c Cx hr hlk hnm hW ls hl
  have Cx : sC G p m c cX1_isBound 2 s args RX1 := Cx
  obtain ⟨hx, hb, hml, hown, hts⟩ := id Cx.1
  have hL : sL G [] := sL_nil
  have hl : lv_has ls 2 [(0, .ref (G.2.2.1 + 188))] := hl
  have hW0 := hW
  have hMn := hMD.1; have hMm := hMD.2.1; have hMx := hMD.2.2.1; have hn12 : 0 ≤ S.1 o 2 ∧ S.1 o 2 ≤ 12 := hI.fi o 2 3 (mdl_k hm) hm.1; have hm16 : 0 ≤ S.1 o 3 ∧ S.1 o 3 ≤ 16 := hI.fi o 3 3 (mdl_k hm) hm.1
  have sq0 := bsg hI (o := 213) rfl hqb
  rw [hqv] at sq0
  refine lv_iconst (v := iv 1) hx hb dX1_isBound_0 (by decide) ?_
  refine lv_istore_n (lv' := [(1, .int (iv 1)), (0, .ref (G.2.2.1 + 188))]) hx hb dX1_isBound_1 rfl hl (by decide) rfl (fun ls hl => ?_)
  have loop_2 : ∀ (fuel : Nat) (S2 : sS) (j : Int) (H : Heap) (locs : List Loc) (ls : Array Slot), (13 - j).toNat < fuel → (cX G S2 0 0 0) → (Fr S S2 pFk) → (Fr S S2 pFk) → (1 ≤ j ∧ j ≤ 13) → (j ≤ n + 1) → (Hd (∀ i, 1 ≤ i → i < j → qq * RR 0 i ≤ smf ff RR i cc.toNat)) → (Hd (RWv S2 n cc RR)) → (Hd (FCv S2 ff)) → sW G 294 S2 H → sL G locs → lv_has ls 2 [(1, .int (iv j)), (0, .ref (G.2.2.1 + 188))] → W p l e (rmk 5 0 0) s m args below meth c H locs 0 0 (MQ below (sQi G 294 (fun r u => cX G u 0 0 0 ∧ Fr S u pFk ∧ (0 ≤ r ∧ r ≤ 1 ∧ Hd (r = 1 ↔ okBd n cc RR wh ff qq vt vb)))) args s 0 0 (sF G)) (F0 m 2 ls []) := by
    intro fuel
    induction fuel with
    | zero => intro S2 j H locs ls hmeas hI2 hFm2 hL2_ hj hjn hpj hR2l hF2l hW hL hl; exact absurd hmeas (Nat.not_lt_zero _)
    | succ fuel ih_2 =>
      intro S2 j H locs ls hmeas hI2 hFm2 hL2_ hj hjn hpj hR2l hF2l hW hL hl
      refine lv_iload_n hx hb dX1_isBound_2 rfl (lv_at hl 0 rfl) ?_
      refine lv_aload_n hx hb dX1_isBound_3 rfl (lv_at hl 1 rfl) ?_
      refine g_X1_69 Cx hW (k := 188) (by decide) rfl (v := .ref (G.2.2.1 + o)) (((hL2_ 188 rfl).2.2.2 15).trans hmr) dX1_isBound_4 ?_
      have q_1 : 0 ≤ S.1 o 2 ∧ S.1 o 2 ≤ 12 := hI.fi o 2 3 (mdl_k hm) hm.1
      refine g_X1_84 Cx hW (k := o) (mdl_l hm) hm.1 (v := S.1 o 2) ((hL2_ o (mo_pFk hm).1).1 2) dX1_isBound_7 ?_
      refine r_icmp_gt (tgt := 75) hx hb ⟨(by omega), (by omega)⟩ ⟨(by omega), (by omega)⟩ dX1_isBound_10 (by decide) (fun c_2 => ?_) (fun c_2 => ?_)
      · refine lv_aload_n hx hb dX1_isBound_75 rfl (lv_at hl 1 rfl) ?_
        refine g_X1_21 Cx hW (k := 188) (by decide) rfl (v := .ref (G.2.2.1 + 193)) (rf_188_1 hI2) dX1_isBound_76 ?_
        refine lv_iconst (v := iv 0) hx hb dX1_isBound_79 (by decide) ?_
        refine lv_aload_n hx hb dX1_isBound_80 rfl (lv_at hl 1 rfl) ?_
        refine g_X1_42 Cx hW (k := 188) (by decide) rfl (v := .ref (G.2.2.1 + 215)) (rf_188_6 hI2) dX1_isBound_81 ?_
        refine sBv (sV (As := [.int (iv 0), .ref (G.2.2.1 + 215)]) (rest := []) (k := 193) Cx (b_X6_combine_193_215 l G S2 (j := 0) (n := n) (cc := cc) (RR := RR) (ff := ff) hI2 (by omega) hR2l hF2l (by omega)) (c_X1_242 Cx rfl rfl (rmk_ok (by omega) (by decide))) hW (by decide) rfl rfl rfl hl.1 rfl (Nat.le_of_ble_eq_true rfl) dX1_isBound_84 ⟨Nat.le_of_ble_eq_true rfl, Nat.le_of_ble_eq_true rfl⟩) hL (fun u_3 H locs k_4 hW hL => ?_)
        obtain ⟨iu_3, fu_3, xu_3⟩ := k_4
        have F_5 := hFm2.trans (fu_3.to (pK_sub rgF_193 rfl rfl))
        have F_6 := hL2_.trans (fu_3.to (pK_sub rgF_193 rfl rfl))
        have bv_7 : bv u_3 215 = smf ff RR 0 cc.toNat := xu_3.2.2.1
        refine lv_aload_n hx hb dX1_isBound_87 rfl (lv_at hl 1 rfl) ?_
        refine g_X1_21 Cx hW (k := 188) (by decide) rfl (v := .ref (G.2.2.1 + 193)) (rf_188_1 iu_3) dX1_isBound_88 ?_
        refine lv_iconst (v := iv 0) hx hb dX1_isBound_91 (by decide) ?_
        refine lv_iconst (v := iv 0) hx hb dX1_isBound_92 (by decide) ?_
        refine lv_aload_n hx hb dX1_isBound_93 rfl (lv_at hl 1 rfl) ?_
        refine g_X1_45 Cx hW (k := 188) (by decide) rfl (v := .ref (G.2.2.1 + 217)) (rf_188_7 iu_3) dX1_isBound_94 ?_
        refine sBv (sV (As := [.int (iv 0), .int (iv 0), .ref (G.2.2.1 + 217)]) (rest := []) (k := 193) Cx (b_X6_number_193 l G u_3 (k := 0) (j := 0) (v := 217) (n := n) (cc := cc) (RR := RR) iu_3 rfl (by omega) (by omega) (RWv.of hR2l (show u_3.1 193 8 = S2.1 193 8 from (fu_3 193 rfl).1 8) (show u_3.1 193 9 = S2.1 193 9 from (fu_3 193 rfl).1 9) (show u_3.2.1 194 = S2.2.1 194 from funext fun x => (fu_3 194 rfl).2.1 x)) (by omega)) (c_X1_160 Cx rfl rfl (rmk_ok (by omega) (by decide))) hW (by decide) rfl rfl rfl hl.1 rfl (Nat.le_of_ble_eq_true rfl) dX1_isBound_97 ⟨Nat.le_of_ble_eq_true rfl, Nat.le_of_ble_eq_true rfl⟩) hL (fun u_8 H locs k_9 hW hL => ?_)
        obtain ⟨iu_8, fu_8, xu_8⟩ := k_9
        have F_10 := F_5.trans (fu_8.to (pB_sub rfl rfl))
        have F_11 := F_6.trans (fu_8.to (pB_sub rfl rfl))
        have bv_12 : bv u_8 217 = RR 0 0 := xu_8.2.1
        refine lv_aload_n hx hb dX1_isBound_100 rfl (lv_at hl 1 rfl) ?_
        refine g_X1_51 Cx hW (k := 188) (by decide) rfl (v := .ref (G.2.2.1 + 221)) (rf_188_9 iu_8) dX1_isBound_101 ?_
        refine lv_aload_n hx hb dX1_isBound_104 rfl (lv_at hl 1 rfl) ?_
        refine g_X1_39 Cx hW (k := 188) (by decide) rfl (v := .ref (G.2.2.1 + 213)) (rf_188_5 iu_8) dX1_isBound_105 ?_
        refine lv_aload_n hx hb dX1_isBound_108 rfl (lv_at hl 1 rfl) ?_
        refine g_X1_45 Cx hW (k := 188) (by decide) rfl (v := .ref (G.2.2.1 + 217)) (rf_188_7 iu_8) dX1_isBound_109 ?_
        have q_13 : 0 ≤ S.1 213 1 ∧ S.1 213 1 ≤ 32 := hI.fi 213 1 0 (by decide) rfl
        have lk_14 : u_8.1 213 1 = S.1 213 1 := ((fu_8 213 rfl).1 1).trans (((fu_3 213 rfl).1 1).trans ((hL2_ 213 rfl).1 1))
        have q_15 : 0 ≤ u_8.1 217 1 ∧ u_8.1 217 1 ≤ 32 := iu_8.fi 217 1 0 (by decide) rfl
        refine sBv (sV (As := [.ref (G.2.2.1 + 213), .ref (G.2.2.1 + 217)]) (rest := []) (k := 221) Cx (b_X0_product l G u_8 (o := 221) (a := 213) (b := 217) iu_8 rfl rfl rfl (show (221 : Nat) ≠ 213 by decide) (show (221 : Nat) ≠ 217 by decide)) (c_X1_163 Cx rfl rfl (rmk_ok (by omega) (by decide))) hW (by decide) rfl rfl rfl hl.1 rfl (Nat.le_of_ble_eq_true rfl) dX1_isBound_112 ⟨Nat.le_of_ble_eq_true rfl, Nat.le_of_ble_eq_true rfl⟩) hL (fun u_16 H locs k_17 hW hL => ?_)
        obtain ⟨iu_16, fu_16, xu_16⟩ := k_17
        have F_18 := F_10.trans (fu_16.to (pB_sub rfl rfl))
        have F_19 := F_11.trans (fu_16.to (pB_sub rfl rfl))
        have bv_20 : bv u_16 221 = qq * (RR 0 0) := (by have e : bv u_16 221 = _ := xu_16.2.1 (by omega); rw [(show bv u_8 213 = qq from (bv_fr fu_8 rfl rfl).trans ((bv_fr fu_3 rfl rfl).trans ((bv_fr hL2_ rfl rfl).trans (hqv)))), (show bv u_8 217 = RR 0 0 from bv_12)] at e; exact e)
        refine lv_aload_n hx hb dX1_isBound_115 rfl (lv_at hl 1 rfl) ?_
        refine g_X1_42 Cx hW (k := 188) (by decide) rfl (v := .ref (G.2.2.1 + 215)) (rf_188_6 iu_16) dX1_isBound_116 ?_
        refine lv_aload_n hx hb dX1_isBound_119 rfl (lv_at hl 1 rfl) ?_
        refine g_X1_51 Cx hW (k := 188) (by decide) rfl (v := .ref (G.2.2.1 + 221)) (rf_188_9 iu_16) dX1_isBound_120 ?_
        refine lv_iconst (v := iv 1) hx hb dX1_isBound_123 (by decide) ?_
        have q_21 : 0 ≤ u_16.1 221 1 ∧ u_16.1 221 1 ≤ 32 := iu_16.fi 221 1 0 (by decide) rfl
        have q_22 : 0 ≤ u_3.1 215 1 ∧ u_3.1 215 1 ≤ 32 := iu_3.fi 215 1 0 (by decide) rfl
        have lk_23 : u_16.1 215 1 = u_3.1 215 1 := ((fu_16 215 rfl).1 1).trans ((fu_8 215 rfl).1 1)
        have q_24 : (-1) ≤ u_3.1 215 2 ∧ u_3.1 215 2 ≤ 1 := iu_3.fi 215 2 0 (by decide) rfl
        have lk_25 : u_16.1 215 2 = u_3.1 215 2 := ((fu_16 215 rfl).1 2).trans ((fu_8 215 rfl).1 2)
        have q_26 : (-1) ≤ u_16.1 221 2 ∧ u_16.1 221 2 ≤ 1 := iu_16.fi 221 2 0 (by decide) rfl
        refine sBv (sV (As := [.ref (G.2.2.1 + 221), .int (iv 1)]) (rest := []) (k := 215) Cx (b_X0_add_p l G u_16 (o := 215) (a := 221) (n := 14) (t := 40) iu_16 rfl rfl (show (215 : Nat) ≠ 221 by decide) (by omega) (fun q => by have e : u_16.2.1 216 14 = u_3.2.1 216 14 := ((fu_16 216 rfl).2.1 14).trans ((fu_8 216 rfl).2.1 14); rw [e]; exact xu_3.2.1 (by omega)) (show Hd (bs u_16 215) from (bs_fr fu_16 rfl (bs_fr fu_8 rfl xu_3.2.2.2))) (show Hd (bs u_16 221) from xu_16.2.2)) (c_X1_166 Cx rfl rfl (rmk_ok (by omega) (by decide))) hW (by decide) rfl rfl rfl hl.1 rfl (Nat.le_of_ble_eq_true rfl) dX1_isBound_124 ⟨Nat.le_of_ble_eq_true rfl, Nat.le_of_ble_eq_true rfl⟩) hL (fun u_27 H locs k_28 hW hL => ?_)
        obtain ⟨iu_27, fu_27, xu_27⟩ := k_28
        have F_29 := F_18.trans (fu_27.to (pB_sub rfl rfl))
        have F_30 := F_19.trans (fu_27.to (pB_sub rfl rfl))
        have bv_31 : bv u_27 215 = smf ff RR 0 cc.toNat + (qq * (RR 0 0)) := (by have e : bv u_27 215 = _ := xu_27.2.2.2.2.1; rw [(show bv u_16 215 = smf ff RR 0 cc.toNat from (bv_fr fu_16 rfl rfl).trans ((bv_fr fu_8 rfl rfl).trans (bv_7))), (show bv u_16 221 = qq * (RR 0 0) from bv_20)] at e; omega)
        refine lv_aload_n hx hb dX1_isBound_127 rfl (lv_at hl 1 rfl) ?_
        refine g_X1_69 Cx hW (k := 188) (by decide) rfl (v := .ref (G.2.2.1 + o)) ((((fu_27 188 rfl).2.2.2 15).trans (((fu_16 188 rfl).2.2.2 15).trans (((fu_8 188 rfl).2.2.2 15).trans (((fu_3 188 rfl).2.2.2 15).trans ((hL2_ 188 rfl).2.2.2 15))))).trans hmr) dX1_isBound_128 ?_
        have lk_32 : u_27.1 o 2 = S.1 o 2 := ((fu_27 o (pB_no (tau_ne hm.1 (rfl : tau 215 = .inl 0) (fun h => by cases h)) (tau_ne hm.1 (rfl : tau 216 = .inr (.int, 32)) (fun h => by cases h)))).1 2).trans (((fu_16 o (pB_no (tau_ne hm.1 (rfl : tau 221 = .inl 0) (fun h => by cases h)) (tau_ne hm.1 (rfl : tau 222 = .inr (.int, 32)) (fun h => by cases h)))).1 2).trans (((fu_8 o (pB_no (tau_ne hm.1 (rfl : tau 217 = .inl 0) (fun h => by cases h)) (tau_ne hm.1 (rfl : tau 218 = .inr (.int, 32)) (fun h => by cases h)))).1 2).trans (((fu_3 o (mo_pK_193_215 hm).1).1 2).trans ((hL2_ o (mo_pFk hm).1).1 2))))
        refine sBi (sV (As := []) (rest := []) (k := o) Cx (b_X3_isGoalWhole l G u_27 (o := o) iu_27 hm) (c_X1_245 Cx rfl rfl (rmk_ok (by omega) (by decide))) hW (mdl_l hm) hm.1 rfl rfl hl.1 rfl (Nat.le_of_ble_eq_true rfl) dX1_isBound_131 ⟨Nat.le_of_ble_eq_true rfl, Nat.le_of_ble_eq_true rfl⟩) hL (fun r_35 u_33 H locs k_34 hW hL => ?_)
        obtain ⟨eu_33, xu_33⟩ := k_34
        rw [eu_33] at hW
        have hgw : r_35 = 1 ↔ gwh n (RR 0) wh := by have y := (show _ ↔ _ from xu_33.2.2); have M := (MDv.of hMD (show u_27.1 o 2 = S.1 o 2 from ((fu_27 o (pB_no (tau_ne hm.1 (rfl : tau 215 = .inl 0) (fun h => by cases h)) (tau_ne hm.1 (rfl : tau 216 = .inr (.int, 32)) (fun h => by cases h)))).1 2).trans (((fu_16 o (pB_no (tau_ne hm.1 (rfl : tau 221 = .inl 0) (fun h => by cases h)) (tau_ne hm.1 (rfl : tau 222 = .inr (.int, 32)) (fun h => by cases h)))).1 2).trans (((fu_8 o (pB_no (tau_ne hm.1 (rfl : tau 217 = .inl 0) (fun h => by cases h)) (tau_ne hm.1 (rfl : tau 218 = .inr (.int, 32)) (fun h => by cases h)))).1 2).trans (((fu_3 o (mo_pK_193_215 hm).1).1 2).trans ((hL2_ o (mo_pFk hm).1).1 2))))) (show u_27.1 o 3 = S.1 o 3 from ((fu_27 o (pB_no (tau_ne hm.1 (rfl : tau 215 = .inl 0) (fun h => by cases h)) (tau_ne hm.1 (rfl : tau 216 = .inr (.int, 32)) (fun h => by cases h)))).1 3).trans (((fu_16 o (pB_no (tau_ne hm.1 (rfl : tau 221 = .inl 0) (fun h => by cases h)) (tau_ne hm.1 (rfl : tau 222 = .inr (.int, 32)) (fun h => by cases h)))).1 3).trans (((fu_8 o (pB_no (tau_ne hm.1 (rfl : tau 217 = .inl 0) (fun h => by cases h)) (tau_ne hm.1 (rfl : tau 218 = .inr (.int, 32)) (fun h => by cases h)))).1 3).trans (((fu_3 o (mo_pK_193_215 hm).1).1 3).trans ((hL2_ o (mo_pFk hm).1).1 3))))) (show u_27.1 o 4 = S.1 o 4 from ((fu_27 o (pB_no (tau_ne hm.1 (rfl : tau 215 = .inl 0) (fun h => by cases h)) (tau_ne hm.1 (rfl : tau 216 = .inr (.int, 32)) (fun h => by cases h)))).1 4).trans (((fu_16 o (pB_no (tau_ne hm.1 (rfl : tau 221 = .inl 0) (fun h => by cases h)) (tau_ne hm.1 (rfl : tau 222 = .inr (.int, 32)) (fun h => by cases h)))).1 4).trans (((fu_8 o (pB_no (tau_ne hm.1 (rfl : tau 217 = .inl 0) (fun h => by cases h)) (tau_ne hm.1 (rfl : tau 218 = .inr (.int, 32)) (fun h => by cases h)))).1 4).trans (((fu_3 o (mo_pK_193_215 hm).1).1 4).trans ((hL2_ o (mo_pFk hm).1).1 4))))) (show u_27.2.1 (o + 1) = S.2.1 (o + 1) from funext fun x => ((fu_27 (o + 1) (pB_no (tau_ne hm.2.1 (rfl : tau 215 = .inl 0) (fun h => by cases h)) (tau_ne hm.2.1 (rfl : tau 216 = .inr (.int, 32)) (by decide)))).2.1 x).trans (((fu_16 (o + 1) (pB_no (tau_ne hm.2.1 (rfl : tau 221 = .inl 0) (fun h => by cases h)) (tau_ne hm.2.1 (rfl : tau 222 = .inr (.int, 32)) (by decide)))).2.1 x).trans (((fu_8 (o + 1) (pB_no (tau_ne hm.2.1 (rfl : tau 217 = .inl 0) (fun h => by cases h)) (tau_ne hm.2.1 (rfl : tau 218 = .inr (.int, 32)) (by decide)))).2.1 x).trans (((fu_3 (o + 1) (mo_pK_193_215 hm).2.1).2.1 x).trans ((hL2_ (o + 1) (mo_pFk hm).2.1).2.1 x))))) (show u_27.2.1 (o + 2) = S.2.1 (o + 2) from funext fun x => ((fu_27 (o + 2) (pB_no (tau_ne hm.2.2.1 (rfl : tau 215 = .inl 0) (fun h => by cases h)) (tau_ne hm.2.2.1 (rfl : tau 216 = .inr (.int, 32)) (fun h => by cases h)))).2.1 x).trans (((fu_16 (o + 2) (pB_no (tau_ne hm.2.2.1 (rfl : tau 221 = .inl 0) (fun h => by cases h)) (tau_ne hm.2.2.1 (rfl : tau 222 = .inr (.int, 32)) (fun h => by cases h)))).2.1 x).trans (((fu_8 (o + 2) (pB_no (tau_ne hm.2.2.1 (rfl : tau 217 = .inl 0) (fun h => by cases h)) (tau_ne hm.2.2.1 (rfl : tau 218 = .inr (.int, 32)) (fun h => by cases h)))).2.1 x).trans (((fu_3 (o + 2) (mo_pK_193_215 hm).2.2).2.1 x).trans ((hL2_ (o + 2) (mo_pFk hm).2.2).2.1 x)))))); rw [y, M.1]; constructor; (intro z i a b d; have e := z i a b (by rw [M.2.2.2.1 0 i (by omega) (by omega) (by omega) b, ← hRA i (by omega) b]; exact d); exact (M.2.2.2.2 i a b).symm.trans e); (intro z i a b d; rw [M.2.2.2.1 0 i (by omega) (by omega) (by omega) b, ← hRA i (by omega) b] at d; exact (M.2.2.2.2 i a b).trans (z i a b d))
        have hgw : Hd _ := hgw
        refine r_if_eq (tgt := 191) hx hb ⟨(by omega), (by omega)⟩ dX1_isBound_134 (by decide) (fun c_36 => ?_) (fun c_36 => ?_)
        · refine lv_aload_n hx hb dX1_isBound_191 rfl (lv_at hl 1 rfl) ?_
          refine g_X1_51 Cx hW (k := 188) (by decide) rfl (v := .ref (G.2.2.1 + 221)) (rf_188_9 iu_27) dX1_isBound_192 ?_
          refine lv_aload_n hx hb dX1_isBound_195 rfl (lv_at hl 1 rfl) ?_
          refine g_X1_42 Cx hW (k := 188) (by decide) rfl (v := .ref (G.2.2.1 + 215)) (rf_188_6 iu_27) dX1_isBound_196 ?_
          refine lv_aload_n hx hb dX1_isBound_199 rfl (lv_at hl 1 rfl) ?_
          refine g_X1_36 Cx hW (k := 188) (by decide) rfl (v := .ref (G.2.2.1 + 211)) (rf_188_4 iu_27) dX1_isBound_200 ?_
          have q_37 : 0 ≤ u_27.1 215 1 ∧ u_27.1 215 1 ≤ 32 := iu_27.fi 215 1 0 (by decide) rfl
          have q_38 : 0 ≤ S.1 211 1 ∧ S.1 211 1 ≤ 32 := hI.fi 211 1 0 (by decide) rfl
          have lk_39 : u_27.1 211 1 = S.1 211 1 := ((fu_27 211 rfl).1 1).trans (((fu_16 211 rfl).1 1).trans (((fu_8 211 rfl).1 1).trans (((fu_3 211 rfl).1 1).trans ((hL2_ 211 rfl).1 1))))
          refine sBv (sV (As := [.ref (G.2.2.1 + 215), .ref (G.2.2.1 + 211)]) (rest := []) (k := 221) Cx (b_X0_product l G u_27 (o := 221) (a := 215) (b := 211) iu_27 rfl rfl rfl (show (221 : Nat) ≠ 215 by decide) (show (221 : Nat) ≠ 211 by decide)) (c_X1_163 Cx rfl rfl (rmk_ok (by omega) (by decide))) hW (by decide) rfl rfl rfl hl.1 rfl (Nat.le_of_ble_eq_true rfl) dX1_isBound_203 ⟨Nat.le_of_ble_eq_true rfl, Nat.le_of_ble_eq_true rfl⟩) hL (fun u_40 H locs k_41 hW hL => ?_)
          obtain ⟨iu_40, fu_40, xu_40⟩ := k_41
          have F_42 := F_29.trans (fu_40.to (pB_sub rfl rfl))
          have F_43 := F_30.trans (fu_40.to (pB_sub rfl rfl))
          have bv_44 : bv u_40 221 = (smf ff RR 0 cc.toNat + (qq * (RR 0 0))) * vb := (by have e : bv u_40 221 = _ := xu_40.2.1 (by omega); rw [(show bv u_27 215 = smf ff RR 0 cc.toNat + (qq * (RR 0 0)) from bv_31), (show bv u_27 211 = vb from (bv_fr fu_27 rfl rfl).trans ((bv_fr fu_16 rfl rfl).trans ((bv_fr fu_8 rfl rfl).trans ((bv_fr fu_3 rfl rfl).trans ((bv_fr hL2_ rfl rfl).trans (hvb))))))] at e; exact e)
          refine lv_aload_n hx hb dX1_isBound_206 rfl (lv_at hl 1 rfl) ?_
          refine g_X1_45 Cx hW (k := 188) (by decide) rfl (v := .ref (G.2.2.1 + 217)) (rf_188_7 iu_40) dX1_isBound_207 ?_
          refine lv_aload_n hx hb dX1_isBound_210 rfl (lv_at hl 1 rfl) ?_
          refine g_X1_32 Cx hW (k := 188) (by decide) rfl (v := .ref (G.2.2.1 + 209)) (rf_188_3 iu_40) dX1_isBound_211 ?_
          refine lv_aload_n hx hb dX1_isBound_214 rfl (lv_at hl 1 rfl) ?_
          refine g_X1_39 Cx hW (k := 188) (by decide) rfl (v := .ref (G.2.2.1 + 213)) (rf_188_5 iu_40) dX1_isBound_215 ?_
          have q_45 : 0 ≤ S.1 209 1 ∧ S.1 209 1 ≤ 32 := hI.fi 209 1 0 (by decide) rfl
          have lk_46 : u_40.1 209 1 = S.1 209 1 := ((fu_40 209 rfl).1 1).trans (((fu_27 209 rfl).1 1).trans (((fu_16 209 rfl).1 1).trans (((fu_8 209 rfl).1 1).trans (((fu_3 209 rfl).1 1).trans ((hL2_ 209 rfl).1 1)))))
          have lk_47 : u_40.1 213 1 = S.1 213 1 := ((fu_40 213 rfl).1 1).trans (((fu_27 213 rfl).1 1).trans (((fu_16 213 rfl).1 1).trans (((fu_8 213 rfl).1 1).trans (((fu_3 213 rfl).1 1).trans ((hL2_ 213 rfl).1 1)))))
          refine sBv (sV (As := [.ref (G.2.2.1 + 209), .ref (G.2.2.1 + 213)]) (rest := []) (k := 217) Cx (b_X0_product l G u_40 (o := 217) (a := 209) (b := 213) iu_40 rfl rfl rfl (show (217 : Nat) ≠ 209 by decide) (show (217 : Nat) ≠ 213 by decide)) (c_X1_163 Cx rfl rfl (rmk_ok (by omega) (by decide))) hW (by decide) rfl rfl rfl hl.1 rfl (Nat.le_of_ble_eq_true rfl) dX1_isBound_218 ⟨Nat.le_of_ble_eq_true rfl, Nat.le_of_ble_eq_true rfl⟩) hL (fun u_48 H locs k_49 hW hL => ?_)
          obtain ⟨iu_48, fu_48, xu_48⟩ := k_49
          have F_50 := F_42.trans (fu_48.to (pB_sub rfl rfl))
          have F_51 := F_43.trans (fu_48.to (pB_sub rfl rfl))
          have bv_52 : bv u_48 217 = vt * qq := (by have e : bv u_48 217 = _ := xu_48.2.1 (by omega); rw [(show bv u_40 209 = vt from (bv_fr fu_40 rfl rfl).trans ((bv_fr fu_27 rfl rfl).trans ((bv_fr fu_16 rfl rfl).trans ((bv_fr fu_8 rfl rfl).trans ((bv_fr fu_3 rfl rfl).trans ((bv_fr hL2_ rfl rfl).trans (hvt))))))), (show bv u_40 213 = qq from (bv_fr fu_40 rfl rfl).trans ((bv_fr fu_27 rfl rfl).trans ((bv_fr fu_16 rfl rfl).trans ((bv_fr fu_8 rfl rfl).trans ((bv_fr fu_3 rfl rfl).trans ((bv_fr hL2_ rfl rfl).trans (hqv)))))))] at e; exact e)
          refine lv_aload_n hx hb dX1_isBound_221 rfl (lv_at hl 1 rfl) ?_
          refine g_X1_51 Cx hW (k := 188) (by decide) rfl (v := .ref (G.2.2.1 + 221)) (rf_188_9 iu_48) dX1_isBound_222 ?_
          refine lv_aload_n hx hb dX1_isBound_225 rfl (lv_at hl 1 rfl) ?_
          refine g_X1_45 Cx hW (k := 188) (by decide) rfl (v := .ref (G.2.2.1 + 217)) (rf_188_7 iu_48) dX1_isBound_226 ?_
          refine sBi (sV (As := [.ref (G.2.2.1 + 217)]) (rest := []) (k := 221) Cx (b_X0_compareWith l G u_48 (o := 221) (a := 217) iu_48 rfl rfl (show Hd (bs u_48 221) from (bs_fr fu_48 rfl xu_40.2.2)) (show Hd (bs u_48 217) from xu_48.2.2)) (c_X1_177 Cx rfl rfl (rmk_ok (by omega) (by decide))) hW (by decide) rfl rfl rfl hl.1 rfl (Nat.le_of_ble_eq_true rfl) dX1_isBound_229 ⟨Nat.le_of_ble_eq_true rfl, Nat.le_of_ble_eq_true rfl⟩) hL (fun r_55 u_53 H locs k_54 hW hL => ?_)
          obtain ⟨eu_53, xu_53⟩ := k_54
          rw [eu_53] at hW
          have cf_56 := (show _ ∧ _ ∧ _ from xu_53.2)
          rw [(show bv u_48 221 = (smf ff RR 0 cc.toNat + (qq * (RR 0 0))) * vb from (bv_fr fu_48 rfl rfl).trans (bv_44)), (show bv u_48 217 = vt * qq from bv_52)] at cf_56
          refine r_if_gt (tgt := 239) hx hb ⟨(by omega), (by omega)⟩ dX1_isBound_232 (by decide) (fun c_57 => ?_) (fun c_57 => ?_)
          · refine lv_iconst (v := iv 0) hx hb dX1_isBound_239 (by decide) ?_
            exact sZret Cx hr hlk hW hL (by omega) ⟨iu_48, F_50, ⟨(by omega), (by omega), (show _ ↔ _ from ⟨fun q => absurd q (by omega), fun q => by have e := q.2.2 (fun z => absurd (hgw.mpr z) (by omega)); exfalso; omega⟩)⟩⟩ dX1_isBound_240
          · refine lv_iconst (v := iv 1) hx hb dX1_isBound_235 (by decide) ?_
            refine lv_goto (tgt := 240) hx hb dX1_isBound_236 (by decide) ?_
            exact sZret Cx hr hlk hW hL (by omega) ⟨iu_48, F_50, ⟨(by omega), (by omega), (show _ ↔ _ from ⟨fun _ => ⟨fun i a b => hpj i a (by omega), fun z => absurd (hgw.mpr z) (by omega), fun _ => by omega⟩, fun _ => rfl⟩)⟩⟩ dX1_isBound_240
        · refine lv_aload_n hx hb dX1_isBound_137 rfl (lv_at hl 1 rfl) ?_
          refine g_X1_42 Cx hW (k := 188) (by decide) rfl (v := .ref (G.2.2.1 + 215)) (rf_188_6 iu_27) dX1_isBound_138 ?_
          refine lv_aload_n hx hb dX1_isBound_141 rfl (lv_at hl 1 rfl) ?_
          refine g_X1_39 Cx hW (k := 188) (by decide) rfl (v := .ref (G.2.2.1 + 213)) (rf_188_5 iu_27) dX1_isBound_142 ?_
          refine lv_aload_n hx hb dX1_isBound_145 rfl (lv_at hl 1 rfl) ?_
          refine g_X1_45 Cx hW (k := 188) (by decide) rfl (v := .ref (G.2.2.1 + 217)) (rf_188_7 iu_27) dX1_isBound_146 ?_
          refine lv_aload_n hx hb dX1_isBound_149 rfl (lv_at hl 1 rfl) ?_
          refine g_X1_54 Cx hW (k := 188) (by decide) rfl (v := .ref (G.2.2.1 + 223)) (rf_188_10 iu_27) dX1_isBound_150 ?_
          have q_58 : 0 ≤ u_27.1 215 1 ∧ u_27.1 215 1 ≤ 32 := iu_27.fi 215 1 0 (by decide) rfl
          have lk_59 : u_27.1 213 1 = S.1 213 1 := ((fu_27 213 rfl).1 1).trans (((fu_16 213 rfl).1 1).trans (((fu_8 213 rfl).1 1).trans (((fu_3 213 rfl).1 1).trans ((hL2_ 213 rfl).1 1))))
          have q_60 : (-1) ≤ u_27.1 215 2 ∧ u_27.1 215 2 ≤ 1 := iu_27.fi 215 2 0 (by decide) rfl
          have q_61 : (-1) ≤ S.1 213 2 ∧ S.1 213 2 ≤ 1 := hI.fi 213 2 0 (by decide) rfl
          have lk_62 : u_27.1 213 2 = S.1 213 2 := ((fu_27 213 rfl).1 2).trans (((fu_16 213 rfl).1 2).trans (((fu_8 213 rfl).1 2).trans (((fu_3 213 rfl).1 2).trans ((hL2_ 213 rfl).1 2))))
          refine sBv (sV (As := [.ref (G.2.2.1 + 213), .ref (G.2.2.1 + 217), .ref (G.2.2.1 + 223)]) (rest := []) (k := 215) Cx (b_X0_divide l G u_27 (o := 215) (b := 213) (q := 217) (h := 223) (n := 16) iu_27 rfl rfl rfl rfl (show (215 : Nat) ≠ 213 by decide) (show (215 : Nat) ≠ 217 by decide) (show (215 : Nat) ≠ 223 by decide) (show (213 : Nat) ≠ 217 by decide) (show (213 : Nat) ≠ 223 by decide) (show (217 : Nat) ≠ 223 by decide) (show Hd (bs u_27 215) from xu_27.2.2.2.2.2) (show Hd (bs u_27 213) from (bs_fr fu_27 rfl (bs_fr fu_16 rfl (bs_fr fu_8 rfl (bs_fr fu_3 rfl (bs_fr hL2_ rfl hqb)))))) (by omega)) (c_X1_187 Cx rfl rfl (rmk_ok (by omega) (by decide))) hW (by decide) rfl rfl rfl hl.1 rfl (Nat.le_of_ble_eq_true rfl) dX1_isBound_153 ⟨Nat.le_of_ble_eq_true rfl, Nat.le_of_ble_eq_true rfl⟩) hL (fun u_63 H locs k_64 hW hL => ?_)
          obtain ⟨iu_63, fu_63, xu_63⟩ := k_64
          have F_65 := F_29.trans (fu_63.to (pD_sub (pB_sub rfl rfl) (pB_sub rfl rfl) (pB_sub rfl rfl)))
          have F_66 := F_30.trans (fu_63.to (pD_sub (pB_sub rfl rfl) (pB_sub rfl rfl) (pB_sub rfl rfl)))
          have bv_67 : bv u_63 217 = (smf ff RR 0 cc.toNat + (qq * (RR 0 0))) / qq := (by have e : bv u_63 217 = _ := (xu_63.2.2.2.2.2.2.1 (by omega)).1; rw [(show bv u_27 215 = smf ff RR 0 cc.toNat + (qq * (RR 0 0)) from bv_31), (show bv u_27 213 = qq from (bv_fr fu_27 rfl rfl).trans ((bv_fr fu_16 rfl rfl).trans ((bv_fr fu_8 rfl rfl).trans ((bv_fr fu_3 rfl rfl).trans ((bv_fr hL2_ rfl rfl).trans (hqv))))))] at e; exact e)
          have bv_68 : bv u_63 215 = (smf ff RR 0 cc.toNat + (qq * (RR 0 0))) % qq := (by have e : bv u_63 215 = _ := (xu_63.2.2.2.2.2.2.1 (by omega)).2; rw [(show bv u_27 215 = smf ff RR 0 cc.toNat + (qq * (RR 0 0)) from bv_31), (show bv u_27 213 = qq from (bv_fr fu_27 rfl rfl).trans ((bv_fr fu_16 rfl rfl).trans ((bv_fr fu_8 rfl rfl).trans ((bv_fr fu_3 rfl rfl).trans ((bv_fr hL2_ rfl rfl).trans (hqv))))))] at e; exact e)
          refine lv_aload_n hx hb dX1_isBound_156 rfl (lv_at hl 1 rfl) ?_
          refine g_X1_51 Cx hW (k := 188) (by decide) rfl (v := .ref (G.2.2.1 + 221)) (rf_188_9 iu_63) dX1_isBound_157 ?_
          refine lv_aload_n hx hb dX1_isBound_160 rfl (lv_at hl 1 rfl) ?_
          refine g_X1_45 Cx hW (k := 188) (by decide) rfl (v := .ref (G.2.2.1 + 217)) (rf_188_7 iu_63) dX1_isBound_161 ?_
          refine lv_aload_n hx hb dX1_isBound_164 rfl (lv_at hl 1 rfl) ?_
          refine g_X1_36 Cx hW (k := 188) (by decide) rfl (v := .ref (G.2.2.1 + 211)) (rf_188_4 iu_63) dX1_isBound_165 ?_
          have q_69 : 0 ≤ u_63.1 217 1 ∧ u_63.1 217 1 ≤ 32 := iu_63.fi 217 1 0 (by decide) rfl
          have q_70 : 0 ≤ S.1 211 1 ∧ S.1 211 1 ≤ 32 := hI.fi 211 1 0 (by decide) rfl
          have lk_71 : u_63.1 211 1 = S.1 211 1 := ((fu_63 211 rfl).1 1).trans (((fu_27 211 rfl).1 1).trans (((fu_16 211 rfl).1 1).trans (((fu_8 211 rfl).1 1).trans (((fu_3 211 rfl).1 1).trans ((hL2_ 211 rfl).1 1)))))
          refine sBv (sV (As := [.ref (G.2.2.1 + 217), .ref (G.2.2.1 + 211)]) (rest := []) (k := 221) Cx (b_X0_product l G u_63 (o := 221) (a := 217) (b := 211) iu_63 rfl rfl rfl (show (221 : Nat) ≠ 217 by decide) (show (221 : Nat) ≠ 211 by decide)) (c_X1_163 Cx rfl rfl (rmk_ok (by omega) (by decide))) hW (by decide) rfl rfl rfl hl.1 rfl (Nat.le_of_ble_eq_true rfl) dX1_isBound_168 ⟨Nat.le_of_ble_eq_true rfl, Nat.le_of_ble_eq_true rfl⟩) hL (fun u_72 H locs k_73 hW hL => ?_)
          obtain ⟨iu_72, fu_72, xu_72⟩ := k_73
          have F_74 := F_65.trans (fu_72.to (pB_sub rfl rfl))
          have F_75 := F_66.trans (fu_72.to (pB_sub rfl rfl))
          have bv_76 : bv u_72 221 = ((smf ff RR 0 cc.toNat + (qq * (RR 0 0))) / qq) * vb := (by have e : bv u_72 221 = _ := xu_72.2.1 (by omega); rw [(show bv u_63 217 = (smf ff RR 0 cc.toNat + (qq * (RR 0 0))) / qq from bv_67), (show bv u_63 211 = vb from (bv_fr fu_63 rfl rfl).trans ((bv_fr fu_27 rfl rfl).trans ((bv_fr fu_16 rfl rfl).trans ((bv_fr fu_8 rfl rfl).trans ((bv_fr fu_3 rfl rfl).trans ((bv_fr hL2_ rfl rfl).trans (hvb)))))))] at e; exact e)
          refine lv_aload_n hx hb dX1_isBound_171 rfl (lv_at hl 1 rfl) ?_
          refine g_X1_51 Cx hW (k := 188) (by decide) rfl (v := .ref (G.2.2.1 + 221)) (rf_188_9 iu_72) dX1_isBound_172 ?_
          refine lv_aload_n hx hb dX1_isBound_175 rfl (lv_at hl 1 rfl) ?_
          refine g_X1_32 Cx hW (k := 188) (by decide) rfl (v := .ref (G.2.2.1 + 209)) (rf_188_3 iu_72) dX1_isBound_176 ?_
          refine sBi (sV (As := [.ref (G.2.2.1 + 209)]) (rest := []) (k := 221) Cx (b_X0_compareWith l G u_72 (o := 221) (a := 209) iu_72 rfl rfl (show Hd (bs u_72 221) from xu_72.2.2) (show Hd (bs u_72 209) from (bs_fr fu_72 rfl (bs_fr fu_63 rfl (bs_fr fu_27 rfl (bs_fr fu_16 rfl (bs_fr fu_8 rfl (bs_fr fu_3 rfl (bs_fr hL2_ rfl hb9))))))))) (c_X1_177 Cx rfl rfl (rmk_ok (by omega) (by decide))) hW (by decide) rfl rfl rfl hl.1 rfl (Nat.le_of_ble_eq_true rfl) dX1_isBound_179 ⟨Nat.le_of_ble_eq_true rfl, Nat.le_of_ble_eq_true rfl⟩) hL (fun r_79 u_77 H locs k_78 hW hL => ?_)
          obtain ⟨eu_77, xu_77⟩ := k_78
          rw [eu_77] at hW
          have cf_80 := (show _ ∧ _ ∧ _ from xu_77.2)
          rw [(show bv u_72 221 = ((smf ff RR 0 cc.toNat + (qq * (RR 0 0))) / qq) * vb from bv_76), (show bv u_72 209 = vt from (bv_fr fu_72 rfl rfl).trans ((bv_fr fu_63 rfl rfl).trans ((bv_fr fu_27 rfl rfl).trans ((bv_fr fu_16 rfl rfl).trans ((bv_fr fu_8 rfl rfl).trans ((bv_fr fu_3 rfl rfl).trans ((bv_fr hL2_ rfl rfl).trans (hvt))))))))] at cf_80
          refine r_if_gt (tgt := 189) hx hb ⟨(by omega), (by omega)⟩ dX1_isBound_182 (by decide) (fun c_81 => ?_) (fun c_81 => ?_)
          · refine lv_iconst (v := iv 0) hx hb dX1_isBound_189 (by decide) ?_
            exact sZret Cx hr hlk hW hL (by omega) ⟨iu_72, F_74, ⟨(by omega), (by omega), (show _ ↔ _ from ⟨fun q => absurd q (by omega), fun q => by have e := q.2.1 (hgw.mp (by omega)); exfalso; omega⟩)⟩⟩ dX1_isBound_190
          · refine lv_iconst (v := iv 1) hx hb dX1_isBound_185 (by decide) ?_
            refine lv_goto (tgt := 190) hx hb dX1_isBound_186 (by decide) ?_
            exact sZret Cx hr hlk hW hL (by omega) ⟨iu_72, F_74, ⟨(by omega), (by omega), (show _ ↔ _ from ⟨fun _ => ⟨fun i a b => hpj i a (by omega), fun _ => by omega, fun z => absurd (hgw.mp (by omega)) z⟩, fun _ => rfl⟩)⟩⟩ dX1_isBound_190
      · refine lv_aload_n hx hb dX1_isBound_13 rfl (lv_at hl 1 rfl) ?_
        refine g_X1_21 Cx hW (k := 188) (by decide) rfl (v := .ref (G.2.2.1 + 193)) (rf_188_1 hI2) dX1_isBound_14 ?_
        refine lv_iload_n hx hb dX1_isBound_17 rfl (lv_at hl 0 rfl) ?_
        refine lv_aload_n hx hb dX1_isBound_18 rfl (lv_at hl 1 rfl) ?_
        refine g_X1_42 Cx hW (k := 188) (by decide) rfl (v := .ref (G.2.2.1 + 215)) (rf_188_6 hI2) dX1_isBound_19 ?_
        refine sBv (sV (As := [.int (iv j), .ref (G.2.2.1 + 215)]) (rest := []) (k := 193) Cx (b_X6_combine_193_215 l G S2 (j := j) (n := n) (cc := cc) (RR := RR) (ff := ff) hI2 (by omega) hR2l hF2l (by omega)) (c_X1_242 Cx rfl rfl (rmk_ok (by omega) (by decide))) hW (by decide) rfl rfl rfl hl.1 rfl (Nat.le_of_ble_eq_true rfl) dX1_isBound_22 ⟨Nat.le_of_ble_eq_true rfl, Nat.le_of_ble_eq_true rfl⟩) hL (fun u_82 H locs k_83 hW hL => ?_)
        obtain ⟨iu_82, fu_82, xu_82⟩ := k_83
        have F_84 := hFm2.trans (fu_82.to (pK_sub rgF_193 rfl rfl))
        have F_85 := hL2_.trans (fu_82.to (pK_sub rgF_193 rfl rfl))
        have bv_86 : bv u_82 215 = smf ff RR j cc.toNat := xu_82.2.2.1
        refine lv_aload_n hx hb dX1_isBound_25 rfl (lv_at hl 1 rfl) ?_
        refine g_X1_21 Cx hW (k := 188) (by decide) rfl (v := .ref (G.2.2.1 + 193)) (rf_188_1 iu_82) dX1_isBound_26 ?_
        refine lv_iconst (v := iv 0) hx hb dX1_isBound_29 (by decide) ?_
        refine lv_iload_n hx hb dX1_isBound_30 rfl (lv_at hl 0 rfl) ?_
        refine lv_aload_n hx hb dX1_isBound_31 rfl (lv_at hl 1 rfl) ?_
        refine g_X1_45 Cx hW (k := 188) (by decide) rfl (v := .ref (G.2.2.1 + 217)) (rf_188_7 iu_82) dX1_isBound_32 ?_
        refine sBv (sV (As := [.int (iv 0), .int (iv j), .ref (G.2.2.1 + 217)]) (rest := []) (k := 193) Cx (b_X6_number_193 l G u_82 (k := 0) (j := j) (v := 217) (n := n) (cc := cc) (RR := RR) iu_82 rfl (by omega) (by omega) (RWv.of hR2l (show u_82.1 193 8 = S2.1 193 8 from (fu_82 193 rfl).1 8) (show u_82.1 193 9 = S2.1 193 9 from (fu_82 193 rfl).1 9) (show u_82.2.1 194 = S2.2.1 194 from funext fun x => (fu_82 194 rfl).2.1 x)) (by omega)) (c_X1_160 Cx rfl rfl (rmk_ok (by omega) (by decide))) hW (by decide) rfl rfl rfl hl.1 rfl (Nat.le_of_ble_eq_true rfl) dX1_isBound_35 ⟨Nat.le_of_ble_eq_true rfl, Nat.le_of_ble_eq_true rfl⟩) hL (fun u_87 H locs k_88 hW hL => ?_)
        obtain ⟨iu_87, fu_87, xu_87⟩ := k_88
        have F_89 := F_84.trans (fu_87.to (pB_sub rfl rfl))
        have F_90 := F_85.trans (fu_87.to (pB_sub rfl rfl))
        have bv_91 : bv u_87 217 = RR 0 j := xu_87.2.1
        refine lv_aload_n hx hb dX1_isBound_38 rfl (lv_at hl 1 rfl) ?_
        refine g_X1_51 Cx hW (k := 188) (by decide) rfl (v := .ref (G.2.2.1 + 221)) (rf_188_9 iu_87) dX1_isBound_39 ?_
        refine lv_aload_n hx hb dX1_isBound_42 rfl (lv_at hl 1 rfl) ?_
        refine g_X1_39 Cx hW (k := 188) (by decide) rfl (v := .ref (G.2.2.1 + 213)) (rf_188_5 iu_87) dX1_isBound_43 ?_
        refine lv_aload_n hx hb dX1_isBound_46 rfl (lv_at hl 1 rfl) ?_
        refine g_X1_45 Cx hW (k := 188) (by decide) rfl (v := .ref (G.2.2.1 + 217)) (rf_188_7 iu_87) dX1_isBound_47 ?_
        have q_92 : 0 ≤ S.1 213 1 ∧ S.1 213 1 ≤ 32 := hI.fi 213 1 0 (by decide) rfl
        have lk_93 : u_87.1 213 1 = S.1 213 1 := ((fu_87 213 rfl).1 1).trans (((fu_82 213 rfl).1 1).trans ((hL2_ 213 rfl).1 1))
        have q_94 : 0 ≤ u_87.1 217 1 ∧ u_87.1 217 1 ≤ 32 := iu_87.fi 217 1 0 (by decide) rfl
        refine sBv (sV (As := [.ref (G.2.2.1 + 213), .ref (G.2.2.1 + 217)]) (rest := []) (k := 221) Cx (b_X0_product l G u_87 (o := 221) (a := 213) (b := 217) iu_87 rfl rfl rfl (show (221 : Nat) ≠ 213 by decide) (show (221 : Nat) ≠ 217 by decide)) (c_X1_163 Cx rfl rfl (rmk_ok (by omega) (by decide))) hW (by decide) rfl rfl rfl hl.1 rfl (Nat.le_of_ble_eq_true rfl) dX1_isBound_50 ⟨Nat.le_of_ble_eq_true rfl, Nat.le_of_ble_eq_true rfl⟩) hL (fun u_95 H locs k_96 hW hL => ?_)
        obtain ⟨iu_95, fu_95, xu_95⟩ := k_96
        have F_97 := F_89.trans (fu_95.to (pB_sub rfl rfl))
        have F_98 := F_90.trans (fu_95.to (pB_sub rfl rfl))
        have bv_99 : bv u_95 221 = qq * (RR 0 j) := (by have e : bv u_95 221 = _ := xu_95.2.1 (by omega); rw [(show bv u_87 213 = qq from (bv_fr fu_87 rfl rfl).trans ((bv_fr fu_82 rfl rfl).trans ((bv_fr hL2_ rfl rfl).trans (hqv)))), (show bv u_87 217 = RR 0 j from bv_91)] at e; exact e)
        refine lv_aload_n hx hb dX1_isBound_53 rfl (lv_at hl 1 rfl) ?_
        refine g_X1_42 Cx hW (k := 188) (by decide) rfl (v := .ref (G.2.2.1 + 215)) (rf_188_6 iu_95) dX1_isBound_54 ?_
        refine lv_aload_n hx hb dX1_isBound_57 rfl (lv_at hl 1 rfl) ?_
        refine g_X1_51 Cx hW (k := 188) (by decide) rfl (v := .ref (G.2.2.1 + 221)) (rf_188_9 iu_95) dX1_isBound_58 ?_
        refine sBi (sV (As := [.ref (G.2.2.1 + 221)]) (rest := []) (k := 215) Cx (b_X0_compareWith l G u_95 (o := 215) (a := 221) iu_95 rfl rfl (show Hd (bs u_95 215) from (bs_fr fu_95 rfl (bs_fr fu_87 rfl xu_82.2.2.2))) (show Hd (bs u_95 221) from xu_95.2.2)) (c_X1_177 Cx rfl rfl (rmk_ok (by omega) (by decide))) hW (by decide) rfl rfl rfl hl.1 rfl (Nat.le_of_ble_eq_true rfl) dX1_isBound_61 ⟨Nat.le_of_ble_eq_true rfl, Nat.le_of_ble_eq_true rfl⟩) hL (fun r_102 u_100 H locs k_101 hW hL => ?_)
        obtain ⟨eu_100, xu_100⟩ := k_101
        rw [eu_100] at hW
        have cf_103 := (show _ ∧ _ ∧ _ from xu_100.2)
        rw [(show bv u_95 215 = smf ff RR j cc.toNat from (bv_fr fu_95 rfl rfl).trans ((bv_fr fu_87 rfl rfl).trans (bv_86))), (show bv u_95 221 = qq * (RR 0 j) from bv_99)] at cf_103
        refine r_if_ge (tgt := 69) hx hb ⟨(by omega), (by omega)⟩ dX1_isBound_64 (by decide) (fun c_104 => ?_) (fun c_104 => ?_)
        · refine lv_iinc (v := iv (j + 1)) (lv' := [(1, .int (iv (j + 1))), (0, .ref (G.2.2.1 + 188))]) hx hb dX1_isBound_69 hl (k := 0) rfl ((Int32.ofInt_add _ _).symm) (by decide) rfl (fun ls hl => ?_)
          refine lv_goto (tgt := 2) hx hb dX1_isBound_72 (by decide) ?_
          exact ih_2 u_95 (j + 1) _ _ _ (by omega) iu_95 F_97 F_98 (by omega) (by omega) (fun i a b => by by_cases q : i = j; (rw [q]; omega); exact hpj i a (by omega)) (RWv.of hR2l (show u_95.1 193 8 = S2.1 193 8 from ((fu_95 193 rfl).1 8).trans (((fu_87 193 rfl).1 8).trans ((fu_82 193 rfl).1 8))) (show u_95.1 193 9 = S2.1 193 9 from ((fu_95 193 rfl).1 9).trans (((fu_87 193 rfl).1 9).trans ((fu_82 193 rfl).1 9))) (show u_95.2.1 194 = S2.2.1 194 from funext fun x => ((fu_95 194 rfl).2.1 x).trans (((fu_87 194 rfl).2.1 x).trans ((fu_82 194 rfl).2.1 x)))) (FCv.of hF2l (show u_95.2.1 195 = S2.2.1 195 from funext fun x => ((fu_95 195 rfl).2.1 x).trans (((fu_87 195 rfl).2.1 x).trans ((fu_82 195 rfl).2.1 x)))) hW hL (lv_sub hl [0, 1] rfl)
        · refine lv_iconst (v := iv 0) hx hb dX1_isBound_67 (by decide) ?_
          exact sZret Cx hr hlk hW hL (by omega) ⟨iu_95, F_97, ⟨(by omega), (by omega), (show _ ↔ _ from ⟨fun q => absurd q (by omega), fun q => by have e := q.1 j (by omega) (by omega); exfalso; omega⟩)⟩⟩ dX1_isBound_68
  exact loop_2 (_ + 1) S 1 _ _ _ (Nat.lt_succ_self _) hI (Fr.rf : Fr S S pFk) Fr.rf (by omega) (by omega) (fun i a b => absurd b (by omega)) hR hF hW hL (lv_sub hl [0, 1] rfl)

set_option maxRecDepth 100000 in
set_option maxHeartbeats 4000000 in
theorem b_X1_takePoint (l : Launch) (G : sG) (S : sS) {T : Int} {kp vp : Int → Int} {o : Nat} {n mm mx : Int} {A : Int → Int → Int} {wh : Int → Int} (hI : cX G S 0 0 0) (hCR : CQ G T kp vp S) (hat : S.1 189 3 ≤ 999999000) (hm : mdl o) (hmr : S.2.2.2 188 15 = .ref (G.2.2.1 + o)) (hMD : Hd (MDv S o n mm mx A wh)) (hkpt : Hd (∀ j, 1 ≤ j → j ≤ n → kp (S.1 189 3 + j) = 2)) (hkp0 : kp (S.1 189 3 + n + 2) = 2 ∧ S.1 189 3 + n + 2 < T) : Met l yX1_takePoint (.code yX1_takePoint cX1_takePoint 2 none :: tb) (rmk 4 0 0) (sPc G 294 S [.ref (G.2.2.1 + 188)]) (sQv G 294 (fun u => cX G u 0 0 0 ∧ Fr S u pTp ∧ (CQ G T kp vp u ∧ u.1 189 3 = S.1 189 3 + n + 3 ∧ Hd (PTv u n (fun j => if j = 0 then vp (S.1 189 3 + n + 2) else vp (S.1 189 3 + j)))))) 0 0 (sF G) := by
  refine sEnter (by decide) (Nat.le_of_ble_eq_true rfl) ?_
  intro p e s m args below meth c Cx hr hlk hnm hW ls hl
  have Cx : sC G p m c cX1_takePoint 2 s args RX1 := Cx
  obtain ⟨hx, hb, hml, hown, hts⟩ := id Cx.1
  have hL : sL G [] := sL_nil
  have hl : lv_has ls 2 [(0, .ref (G.2.2.1 + 188))] := hl
  have hW0 := hW
  have hMn := hMD.1; have hMm := hMD.2.1; have hMx := hMD.2.2.1; have hn12 : 0 ≤ S.1 o 2 ∧ S.1 o 2 ≤ 12 := hI.fi o 2 3 (mdl_k hm) hm.1; have hm16 : 0 ≤ S.1 o 3 ∧ S.1 o 3 ≤ 16 := hI.fi o 3 3 (mdl_k hm) hm.1
  have hat0 : 0 ≤ S.1 189 3 ∧ S.1 189 3 ≤ 1000000000 := hI.fi 189 3 4 (by decide) rfl
  refine lv_aload_n hx hb dX1_takePoint_0 rfl (lv_at hl 0 rfl) ?_
  refine g_X1_12 Cx hW (k := 188) (by decide) rfl (v := .ref (G.2.2.1 + 189)) (rf_188_0 hI) dX1_takePoint_1 ?_
  have q_1 : 0 ≤ S.1 189 3 ∧ S.1 189 3 ≤ 1000000000 := hI.fi 189 3 4 (by decide) rfl
  refine sBv (sV (As := []) (rest := []) (k := 189) Cx (s_X4_advance l G S  hI (by omega)) (c_X1_119 Cx rfl rfl (rmk_ok (by omega) (by decide))) hW (by decide) rfl rfl rfl hl.1 rfl (Nat.le_of_ble_eq_true rfl) dX1_takePoint_4 ⟨Nat.le_of_ble_eq_true rfl, Nat.le_of_ble_eq_true rfl⟩) hL (fun u_2 H locs k_3 hW hL => ?_)
  obtain ⟨iu_2, fu_2, xu_2⟩ := k_3
  have F_4 := (Fr.rf : Fr S S pTp).trans (fu_2.to (p1_sub rfl))
  have at_u_2 : u_2.1 189 3 = S.1 189 3 + 1 := by rw [xu_2]; exact uF_on
  have cr_5 : CQ G T kp vp u_2 := by rw [xu_2]; exact hCR.F (by decide)
  refine lv_iconst (v := iv 1) hx hb dX1_takePoint_7 (by decide) ?_
  refine lv_istore_n (lv' := [(1, .int (iv 1)), (0, .ref (G.2.2.1 + 188))]) hx hb dX1_takePoint_8 rfl hl (by decide) rfl (fun ls hl => ?_)
  have loop_9 : ∀ (fuel : Nat) (S9 : sS) (j : Int) (H : Heap) (locs : List Loc) (ls : Array Slot), (13 - j).toNat < fuel → (cX G S9 0 0 0) → (Fr S S9 pTp) → (Fr u_2 S9 pTp) → (1 ≤ j ∧ j ≤ 13) → (j ≤ n + 1) → (S9.1 189 3 = S.1 189 3 + j) → (Hd (∀ i, 1 ≤ i → i < j → nv (S9.2.1 208) (i * 8) = vp (S.1 189 3 + i))) → (CQ G T kp vp S9) → sW G 294 S9 H → sL G locs → lv_has ls 2 [(1, .int (iv j)), (0, .ref (G.2.2.1 + 188))] → W p l e (rmk 4 0 0) s m args below meth c H locs 0 0 (MQ below (sQv G 294 (fun u => cX G u 0 0 0 ∧ Fr S u pTp ∧ (CQ G T kp vp u ∧ u.1 189 3 = S.1 189 3 + n + 3 ∧ Hd (PTv u n (fun j => if j = 0 then vp (S.1 189 3 + n + 2) else vp (S.1 189 3 + j)))))) args s 0 0 (sF G)) (F0 m 9 ls []) := by
    intro fuel
    induction fuel with
    | zero => intro S9 j H locs ls hmeas hI9 hFm9 hL9_ hj hjn ha9 hpl hCR9 hW hL hl; exact absurd hmeas (Nat.not_lt_zero _)
    | succ fuel ih_9 =>
      intro S9 j H locs ls hmeas hI9 hFm9 hL9_ hj hjn ha9 hpl hCR9 hW hL hl
      refine lv_iload_n hx hb dX1_takePoint_9 rfl (lv_at hl 0 rfl) ?_
      refine lv_aload_n hx hb dX1_takePoint_10 rfl (lv_at hl 1 rfl) ?_
      refine g_X1_69 Cx hW (k := 188) (by decide) rfl (v := .ref (G.2.2.1 + o)) ((((hL9_ 188 rfl).2.2.2 15).trans ((fu_2 188 rfl).2.2.2 15)).trans hmr) dX1_takePoint_11 ?_
      have q_6 : 0 ≤ S.1 o 2 ∧ S.1 o 2 ≤ 12 := hI.fi o 2 3 (mdl_k hm) hm.1
      refine g_X1_84 Cx hW (k := o) (mdl_l hm) hm.1 (v := S.1 o 2) (((hL9_ o (mo_pTp hm).1).1 2).trans ((fu_2 o (p1_no (tau_ne hm.1 (rfl : tau 189 = .inl 4) (fun h => by cases h)))).1 2)) dX1_takePoint_14 ?_
      refine r_icmp_gt (tgt := 52) hx hb ⟨(by omega), (by omega)⟩ ⟨(by omega), (by omega)⟩ dX1_takePoint_17 (by decide) (fun c_7 => ?_) (fun c_7 => ?_)
      · refine lv_aload_n hx hb dX1_takePoint_52 rfl (lv_at hl 1 rfl) ?_
        refine g_X1_12 Cx hW (k := 188) (by decide) rfl (v := .ref (G.2.2.1 + 189)) (rf_188_0 hI9) dX1_takePoint_53 ?_
        have q_8 : 0 ≤ S9.1 189 3 ∧ S9.1 189 3 ≤ 1000000000 := hI9.fi 189 3 4 (by decide) rfl
        refine sBv (sV (As := []) (rest := []) (k := 189) Cx (s_X4_advance l G S9  hI9 (by omega)) (c_X1_119 Cx rfl rfl (rmk_ok (by omega) (by decide))) hW (by decide) rfl rfl rfl hl.1 rfl (Nat.le_of_ble_eq_true rfl) dX1_takePoint_56 ⟨Nat.le_of_ble_eq_true rfl, Nat.le_of_ble_eq_true rfl⟩) hL (fun u_9 H locs k_10 hW hL => ?_)
        obtain ⟨iu_9, fu_9, xu_9⟩ := k_10
        have F_11 := hFm9.trans (fu_9.to (p1_sub rfl))
        have F_12 := hL9_.trans (fu_9.to (p1_sub rfl))
        have at_u_9 : u_9.1 189 3 = S9.1 189 3 + 1 := by rw [xu_9]; exact uF_on
        have cr_13 : CQ G T kp vp u_9 := by rw [xu_9]; exact hCR9.F (by decide)
        refine lv_aload_n hx hb dX1_takePoint_59 rfl (lv_at hl 1 rfl) ?_
        refine g_X1_12 Cx hW (k := 188) (by decide) rfl (v := .ref (G.2.2.1 + 189)) (rf_188_0 iu_9) dX1_takePoint_60 ?_
        refine lv_aload_n hx hb dX1_takePoint_63 rfl (lv_at hl 1 rfl) ?_
        refine g_X1_48 Cx hW (k := 188) (by decide) rfl (v := .ref (G.2.2.1 + 219)) (rf_188_8 iu_9) dX1_takePoint_64 ?_
        have q_14 : 0 ≤ u_9.1 189 3 ∧ u_9.1 189 3 ≤ 1000000000 := iu_9.fi 189 3 4 (by decide) rfl
        refine sBv (sV (As := [.ref (G.2.2.1 + 219)]) (rest := []) (k := 189) Cx (b_X4_takeNumber_219 l G u_9 (T := T) (kp := kp) (vp := vp) iu_9 cr_13 (by omega) ⟨by omega, by rw [show u_9.1 189 3 = S.1 189 3 + n + 2 by omega]; exact hkp0.1⟩) (c_X1_126 Cx rfl rfl (rmk_ok (by omega) (by decide))) hW (by decide) rfl rfl rfl hl.1 rfl (Nat.le_of_ble_eq_true rfl) dX1_takePoint_67 ⟨Nat.le_of_ble_eq_true rfl, Nat.le_of_ble_eq_true rfl⟩) hL (fun u_15 H locs k_16 hW hL => ?_)
        obtain ⟨iu_15, fu_15, xu_15⟩ := k_16
        have F_17 := F_11.trans (fu_15.to (pRg_sub rfl rfl rfl))
        have F_18 := F_12.trans (fu_15.to (pRg_sub rfl rfl rfl))
        have bv_19 : bv u_15 219 = vp (S.1 189 3 + n + 2) := (show bv u_15 219 = vp _ from xu_15.2.2.2.2.1).trans (congrArg vp (by omega))
        have cr_20 : CQ G T kp vp u_15 := xu_15.1
        refine lv_aload_n hx hb dX1_takePoint_70 rfl (lv_at hl 1 rfl) ?_
        refine g_X1_48 Cx hW (k := 188) (by decide) rfl (v := .ref (G.2.2.1 + 219)) (rf_188_8 iu_15) dX1_takePoint_71 ?_
        refine lv_aload_n hx hb dX1_takePoint_74 rfl (lv_at hl 1 rfl) ?_
        refine g_X1_27 Cx hW (k := 188) (by decide) rfl (v := .ref (G.2.2.1 + 208)) (rf_188_2 iu_15) dX1_takePoint_75 ?_
        refine lv_iconst (v := iv 0) hx hb dX1_takePoint_78 (by decide) ?_
        have q_21 : 0 ≤ u_15.1 219 1 ∧ u_15.1 219 1 ≤ 32 := iu_15.fi 219 1 0 (by decide) rfl
        have q_22 : (-1) ≤ u_15.1 219 2 ∧ u_15.1 219 2 ≤ 1 := iu_15.fi 219 2 0 (by decide) rfl
        refine sBv (sV (As := [.ref (G.2.2.1 + 208), .int (iv 0)]) (rest := []) (k := 219) Cx (b_X0_save l G u_15 (o := 219) (k := 208) (a := 0) (N := 104) iu_15 rfl ⟨by decide, rfl, by decide, rfl, rfl, rfl⟩ (by omega) (show _ ≤ (7 : Int) ∧ (_ → _ ≤ (999999999 : Int)) from ⟨by omega, fun _ => by have := limbR iu_15 (rfl : tau 219 = .inl 0) 6; omega⟩) (fun q _ => by rcases q with q | q <;> exact absurd q (by decide))) (c_X1_149 Cx rfl rfl (rmk_ok (by omega) (by decide))) hW (by decide) rfl rfl rfl hl.1 rfl (Nat.le_of_ble_eq_true rfl) dX1_takePoint_79 ⟨Nat.le_of_ble_eq_true rfl, Nat.le_of_ble_eq_true rfl⟩) hL (fun u_23 H locs k_24 hW hL => ?_)
        obtain ⟨iu_23, fu_23, xu_23⟩ := k_24
        have F_25 := F_17.trans (fu_23.to (p1_sub rfl))
        have F_26 := F_18.trans (fu_23.to (p1_sub rfl))
        have cr_27 : CQ G T kp vp u_23 := cr_20.fr fu_23 rfl rfl rfl rfl
        have q_28 : 0 ≤ u_15.1 189 3 ∧ u_15.1 189 3 ≤ 1000000000 := iu_15.fi 189 3 4 (by decide) rfl
        have lk_29 : u_23.1 189 3 = u_15.1 189 3 := (fu_23 189 rfl).1 3
        exact sVret Cx hr hlk hW hL ⟨iu_23, F_25, ⟨cr_27, (by omega), (fun i a b => by by_cases q : i = 0; (rw [q]; show _ = if (0 : Int) = 0 then _ else _; rw [if_pos rfl]; exact ((show _ = _ from xu_23.1 (show Hd (bs u_15 219) from xu_15.2.2.2.2.2))).trans (show bv u_15 219 = vp (S.1 189 3 + n + 2) from bv_19)); (show _ = if i = 0 then _ else _; rw [if_neg q, nv208 iu_15 (by omega) xu_23.2 (by omega), (show u_15.2.1 208 = S9.2.1 208 from funext fun x => ((fu_15 208 rfl).2.1 x).trans ((fu_9 208 rfl).2.1 x))]; exact hpl i (by omega) (by omega)))⟩⟩ dX1_takePoint_82
      · refine lv_aload_n hx hb dX1_takePoint_20 rfl (lv_at hl 1 rfl) ?_
        refine g_X1_12 Cx hW (k := 188) (by decide) rfl (v := .ref (G.2.2.1 + 189)) (rf_188_0 hI9) dX1_takePoint_21 ?_
        refine lv_aload_n hx hb dX1_takePoint_24 rfl (lv_at hl 1 rfl) ?_
        refine g_X1_48 Cx hW (k := 188) (by decide) rfl (v := .ref (G.2.2.1 + 219)) (rf_188_8 hI9) dX1_takePoint_25 ?_
        have q_30 : 0 ≤ S9.1 189 3 ∧ S9.1 189 3 ≤ 1000000000 := hI9.fi 189 3 4 (by decide) rfl
        refine sBv (sV (As := [.ref (G.2.2.1 + 219)]) (rest := []) (k := 189) Cx (b_X4_takeNumber_219 l G S9 (T := T) (kp := kp) (vp := vp) hI9 hCR9 (by omega) ⟨by omega, by rw [show S9.1 189 3 = S.1 189 3 + j by omega]; exact hkpt j (by omega) (by omega)⟩) (c_X1_126 Cx rfl rfl (rmk_ok (by omega) (by decide))) hW (by decide) rfl rfl rfl hl.1 rfl (Nat.le_of_ble_eq_true rfl) dX1_takePoint_28 ⟨Nat.le_of_ble_eq_true rfl, Nat.le_of_ble_eq_true rfl⟩) hL (fun u_31 H locs k_32 hW hL => ?_)
        obtain ⟨iu_31, fu_31, xu_31⟩ := k_32
        have F_33 := hFm9.trans (fu_31.to (pRg_sub rfl rfl rfl))
        have F_34 := hL9_.trans (fu_31.to (pRg_sub rfl rfl rfl))
        have bv_35 : bv u_31 219 = vp (S.1 189 3 + j) := (show bv u_31 219 = vp _ from xu_31.2.2.2.2.1).trans (congrArg vp (by omega))
        have cr_36 : CQ G T kp vp u_31 := xu_31.1
        refine lv_aload_n hx hb dX1_takePoint_31 rfl (lv_at hl 1 rfl) ?_
        refine g_X1_48 Cx hW (k := 188) (by decide) rfl (v := .ref (G.2.2.1 + 219)) (rf_188_8 iu_31) dX1_takePoint_32 ?_
        refine lv_aload_n hx hb dX1_takePoint_35 rfl (lv_at hl 1 rfl) ?_
        refine g_X1_27 Cx hW (k := 188) (by decide) rfl (v := .ref (G.2.2.1 + 208)) (rf_188_2 iu_31) dX1_takePoint_36 ?_
        refine lv_iload_n hx hb dX1_takePoint_39 rfl (lv_at hl 0 rfl) ?_
        refine lv_bipush (v := iv 8) hx hb dX1_takePoint_40 (by decide) ?_
        refine r_imul hx hb dX1_takePoint_42 ?_
        have q_37 : 0 ≤ u_31.1 219 1 ∧ u_31.1 219 1 ≤ 32 := iu_31.fi 219 1 0 (by decide) rfl
        have q_38 : (-1) ≤ u_31.1 219 2 ∧ u_31.1 219 2 ≤ 1 := iu_31.fi 219 2 0 (by decide) rfl
        refine sBv (sV (As := [.ref (G.2.2.1 + 208), .int (iv (j * 8))]) (rest := []) (k := 219) Cx (b_X0_save l G u_31 (o := 219) (k := 208) (a := j * 8) (N := 104) iu_31 rfl ⟨by decide, rfl, by decide, rfl, rfl, rfl⟩ (by omega) (show _ ≤ (7 : Int) ∧ (_ → _ ≤ (999999999 : Int)) from ⟨by omega, fun _ => by have := limbR iu_31 (rfl : tau 219 = .inl 0) 6; omega⟩) (fun q _ => by rcases q with q | q <;> exact absurd q (by decide))) (c_X1_149 Cx rfl rfl (rmk_ok (by omega) (by decide))) hW (by decide) rfl rfl rfl hl.1 rfl (Nat.le_of_ble_eq_true rfl) dX1_takePoint_43 ⟨Nat.le_of_ble_eq_true rfl, Nat.le_of_ble_eq_true rfl⟩) hL (fun u_39 H locs k_40 hW hL => ?_)
        obtain ⟨iu_39, fu_39, xu_39⟩ := k_40
        have F_41 := F_33.trans (fu_39.to (p1_sub rfl))
        have F_42 := F_34.trans (fu_39.to (p1_sub rfl))
        have cr_43 : CQ G T kp vp u_39 := cr_36.fr fu_39 rfl rfl rfl rfl
        refine lv_iinc (v := iv (j + 1)) (lv' := [(1, .int (iv (j + 1))), (0, .ref (G.2.2.1 + 188))]) hx hb dX1_takePoint_46 hl (k := 0) rfl ((Int32.ofInt_add _ _).symm) (by decide) rfl (fun ls hl => ?_)
        refine lv_goto (tgt := 9) hx hb dX1_takePoint_49 (by decide) ?_
        have q_44 : 0 ≤ u_31.1 189 3 ∧ u_31.1 189 3 ≤ 1000000000 := iu_31.fi 189 3 4 (by decide) rfl
        have lk_45 : u_39.1 189 3 = u_31.1 189 3 := (fu_39 189 rfl).1 3
        exact ih_9 u_39 (j + 1) _ _ _ (by omega) iu_39 F_41 F_42 (by omega) (by omega) (by omega) (fun i a b => by by_cases q : i = j; (rw [q]; exact ((show _ = _ from xu_39.1 (show Hd (bs u_31 219) from xu_31.2.2.2.2.2))).trans (show bv u_31 219 = vp (S.1 189 3 + j) from bv_35)); (rw [nv208 iu_31 (by omega) xu_39.2 (by omega), (show u_31.2.1 208 = S9.2.1 208 from funext fun x => (fu_31 208 rfl).2.1 x)]; exact hpl i a (by omega))) cr_43 hW hL (lv_sub hl [0, 1] rfl)
  have q_46 : 0 ≤ u_2.1 189 3 ∧ u_2.1 189 3 ≤ 1000000000 := iu_2.fi 189 3 4 (by decide) rfl
  exact loop_9 (_ + 1) u_2 1 _ _ _ (Nat.lt_succ_self _) iu_2 F_4 Fr.rf (by omega) (by omega) (by omega) (fun i a b => absurd b (by omega)) cr_5 hW hL (lv_sub hl [0, 1] rfl)

set_option maxRecDepth 100000 in
set_option maxHeartbeats 4000000 in
theorem b_X1_takePairs (l : Launch) (G : sG) (S : sS) {T : Int} {kp vp : Int → Int} {o : Nat} {n mm mx : Int} {A : Int → Int → Int} {wh : Int → Int} {cc : Int} {RR : Int → Int → Int} (hI : cX G S 0 0 0) (hCR : CQ G T kp vp S) (hat : S.1 189 3 ≤ 999900000) (hm : mdl o) (hmr : S.2.2.2 188 15 = .ref (G.2.2.1 + o)) (hMD : Hd (MDv S o n mm mx A wh)) (hR : Hd (RWv S n cc RR)) (hc4 : 0 ≤ cc ∧ cc ≤ 40) (hKT : Hd (KT T kp)) (hgp : Hd (∃ e, gPr kp 30001 (S.1 189 3) = some e)) : Met l yX1_takePairs (.code yX1_takePairs cX1_takePairs 4 (some .boolean) :: tb) (rmk 4 0 0) (sPc G 294 S [.ref (G.2.2.1 + 188)]) (sQi G 294 (fun r u => cX G u 0 0 0 ∧ Fr S u pTq ∧ (CQ G T kp vp u ∧ 0 ≤ r ∧ r ≤ 1 ∧ Hd (r = 1 → ∃ ff e, prs cc kp vp 30001 (S.1 189 3) 0 (fun _ => 0) = some (ff, e) ∧ FCv u ff ∧ u.1 189 3 = e) ∧ Hd (r = 0 → prs cc kp vp 30001 (S.1 189 3) 0 (fun _ => 0) = none)))) 0 0 (sF G) := by
  refine sEnter (by decide) (Nat.le_of_ble_eq_true rfl) ?_
  intro p e s m args below meth c Cx hr hlk hnm hW ls hl
  have Cx : sC G p m c cX1_takePairs 4 s args RX1 := Cx
  obtain ⟨hx, hb, hml, hown, hts⟩ := id Cx.1
  have hL : sL G [] := sL_nil
  have hl : lv_has ls 4 [(0, .ref (G.2.2.1 + 188))] := hl
  have hW0 := hW
  have hMn := hMD.1; have hMm := hMD.2.1; have hMx := hMD.2.2.1; have hn12 : 0 ≤ S.1 o 2 ∧ S.1 o 2 ≤ 12 := hI.fi o 2 3 (mdl_k hm) hm.1; have hm16 : 0 ≤ S.1 o 3 ∧ S.1 o 3 ≤ 16 := hI.fi o 3 3 (mdl_k hm) hm.1
  have hat0 : 0 ≤ S.1 189 3 ∧ S.1 189 3 ≤ 1000000000 := hI.fi 189 3 4 (by decide) rfl
  have hRc := hR.2.1
  obtain ⟨e0, hge⟩ := hgp
  refine lv_aload_n hx hb dX1_takePairs_0 rfl (lv_at hl 0 rfl) ?_
  refine g_X1_21 Cx hW (k := 188) (by decide) rfl (v := .ref (G.2.2.1 + 193)) (rf_188_1 hI) dX1_takePairs_1 ?_
  refine sBv (sV (As := []) (rest := []) (k := 193) Cx (b_X6_clearFactors_193 l G S  hI) (c_X1_235 Cx rfl rfl (rmk_ok (by omega) (by decide))) hW (by decide) rfl rfl rfl hl.1 rfl (Nat.le_of_ble_eq_true rfl) dX1_takePairs_4 ⟨Nat.le_of_ble_eq_true rfl, Nat.le_of_ble_eq_true rfl⟩) hL (fun u_1 H locs k_2 hW hL => ?_)
  obtain ⟨iu_1, fu_1, xu_1⟩ := k_2
  have F_3 := (Fr.rf : Fr S S pTq).trans (fu_1.to (p1_sub rfl))
  have cr_4 : CQ G T kp vp u_1 := hCR.fr fu_1 rfl rfl rfl rfl
  refine lv_iconst (v := iv 0) hx hb dX1_takePairs_7 (by decide) ?_
  refine lv_istore_n (lv' := [(1, .int (iv 0)), (0, .ref (G.2.2.1 + 188))]) hx hb dX1_takePairs_8 rfl hl (by decide) rfl (fun ls hl => ?_)
  refine lv_iconst (v := iv 0) hx hb dX1_takePairs_9 (by decide) ?_
  refine lv_istore_n (lv' := [(2, .int (iv 0)), (1, .int (iv 0)), (0, .ref (G.2.2.1 + 188))]) hx hb dX1_takePairs_10 rfl hl (by decide) rfl (fun ls hl => ?_)
  have loop_11 : ∀ (fuel : Nat) (S11 : sS) (i : Int) (la : Int) (H : Heap) (locs : List Loc) (ls : Array Slot), (30001 - i).toNat < fuel → (cX G S11 0 0 0) → (Fr S S11 pTq) → (Fr u_1 S11 pTq) → (0 ≤ i ∧ i ≤ 30001) → (0 ≤ la ∧ la ≤ 40) → (S11.1 189 3 ≤ S.1 189 3 + 3 * i) → (Hd (∃ ffc, FCv S11 ffc ∧ PLp cc kp vp (S.1 189 3) i (S11.1 189 3) la e0 ffc)) → (CQ G T kp vp S11) → sW G 294 S11 H → sL G locs → lv_has ls 4 [(2, .int (iv i)), (1, .int (iv la)), (0, .ref (G.2.2.1 + 188))] → W p l e (rmk 4 0 0) s m args below meth c H locs 0 0 (MQ below (sQi G 294 (fun r u => cX G u 0 0 0 ∧ Fr S u pTq ∧ (CQ G T kp vp u ∧ 0 ≤ r ∧ r ≤ 1 ∧ Hd (r = 1 → ∃ ff e, prs cc kp vp 30001 (S.1 189 3) 0 (fun _ => 0) = some (ff, e) ∧ FCv u ff ∧ u.1 189 3 = e) ∧ Hd (r = 0 → prs cc kp vp 30001 (S.1 189 3) 0 (fun _ => 0) = none)))) args s 0 0 (sF G)) (F0 m 11 ls []) := by
    intro fuel
    induction fuel with
    | zero => intro S11 i la H locs ls hmeas hI11 hFm11 hL11_ hi hla ha11 hff hCR11 hW hL hl; exact absurd hmeas (Nat.not_lt_zero _)
    | succ fuel ih_11 =>
      intro S11 i la H locs ls hmeas hI11 hFm11 hL11_ hi hla ha11 hff hCR11 hW hL hl
      obtain ⟨ffc, hFl, hpl⟩ := hff
      have hik := hpl.le
      have hpk := hpl.k
      have hpk : Hd _ := hpk
      have hT0 : S11.1 189 3 < T := by rcases hpk with z | z; (exact (hKT _ (by rw [z.1]; decide)).2); (exact (hKT _ (by rw [z]; decide)).2)
      refine lv_iload_n hx hb dX1_takePairs_11 rfl (lv_at hl 0 rfl) ?_
      refine lv_sipush (v := iv 30000) hx hb dX1_takePairs_12 (by decide) ?_
      refine r_icmp_gt (tgt := 103) hx hb ⟨(by omega), (by omega)⟩ ⟨(by omega), (by omega)⟩ dX1_takePairs_15 (by decide) (fun c_5 => ?_) (fun c_5 => ?_)
      · refine lv_aload_n hx hb dX1_takePairs_103 rfl (lv_at hl 2 rfl) ?_
        refine g_X1_12 Cx hW (k := 188) (by decide) rfl (v := .ref (G.2.2.1 + 189)) (rf_188_0 hI11) dX1_takePairs_104 ?_
        have q_6 : 0 ≤ S11.1 189 3 ∧ S11.1 189 3 ≤ 1000000000 := hI11.fi 189 3 4 (by decide) rfl
        refine sBv (sV (As := []) (rest := []) (k := 189) Cx (s_X4_advance l G S11  hI11 (by omega)) (c_X1_119 Cx rfl rfl (rmk_ok (by omega) (by decide))) hW (by decide) rfl rfl rfl hl.1 rfl (Nat.le_of_ble_eq_true rfl) dX1_takePairs_107 ⟨Nat.le_of_ble_eq_true rfl, Nat.le_of_ble_eq_true rfl⟩) hL (fun u_7 H locs k_8 hW hL => ?_)
        obtain ⟨iu_7, fu_7, xu_7⟩ := k_8
        have F_9 := hFm11.trans (fu_7.to (p1_sub rfl))
        have F_10 := hL11_.trans (fu_7.to (p1_sub rfl))
        have at_u_7 : u_7.1 189 3 = S11.1 189 3 + 1 := by rw [xu_7]; exact uF_on
        have cr_11 : CQ G T kp vp u_7 := by rw [xu_7]; exact hCR11.F (by decide)
        refine lv_iconst (v := iv 1) hx hb dX1_takePairs_110 (by decide) ?_
        have q_12 : 0 ≤ u_7.1 189 3 ∧ u_7.1 189 3 ≤ 1000000000 := iu_7.fi 189 3 4 (by decide) rfl
        exact sZret Cx hr hlk hW hL (by omega) ⟨iu_7, F_9, ⟨cr_11, (by omega), (by omega), (fun _ => by have f := hpl.fin (by omega); exact ⟨ffc, _, f.1, (FCv.of hFl (show u_7.2.1 195 = S11.2.1 195 from funext fun x => (fu_7 195 rfl).2.1 x)), (by rw [f.2]; omega)⟩), (fun q => absurd q (by omega))⟩⟩ dX1_takePairs_111
      · refine lv_aload_n hx hb dX1_takePairs_18 rfl (lv_at hl 2 rfl) ?_
        refine g_X1_12 Cx hW (k := 188) (by decide) rfl (v := .ref (G.2.2.1 + 189)) (rf_188_0 hI11) dX1_takePairs_19 ?_
        have q_13 : 0 ≤ S11.1 189 3 ∧ S11.1 189 3 ≤ 1000000000 := hI11.fi 189 3 4 (by decide) rfl
        have q_14 : 0 ≤ S11.1 189 2 ∧ S11.1 189 2 ≤ 30001 := hI11.fi 189 2 4 (by decide) rfl
        refine sBi (sV (As := []) (rest := []) (k := 189) Cx (s_X4_kind l G S11  hI11) (c_X1_109 Cx rfl rfl (rmk_ok (by omega) (by decide))) hW (by decide) rfl rfl rfl hl.1 rfl (Nat.le_of_ble_eq_true rfl) dX1_takePairs_22 ⟨Nat.le_of_ble_eq_true rfl, Nat.le_of_ble_eq_true rfl⟩) hL (fun r_17 u_15 H locs k_16 hW hL => ?_)
        obtain ⟨eu_15, xu_15⟩ := k_16
        rw [eu_15] at hW
        have hkd : r_17 = kp (S11.1 189 3) := hCR11.k (by have := hI11.fi 189 3 4 (by decide) rfl; exact this.1) hT0 xu_15.2.1 xu_15.2.2
        refine lv_iconst (v := iv 2) hx hb dX1_takePairs_25 (by decide) ?_
        refine r_icmp_ne (tgt := 103) hx hb ⟨(by omega), (by omega)⟩ ⟨(by omega), (by omega)⟩ dX1_takePairs_26 (by decide) (fun c_18 => ?_) (fun c_18 => ?_)
        · refine lv_aload_n hx hb dX1_takePairs_103 rfl (lv_at hl 2 rfl) ?_
          refine g_X1_12 Cx hW (k := 188) (by decide) rfl (v := .ref (G.2.2.1 + 189)) (rf_188_0 hI11) dX1_takePairs_104 ?_
          refine sBv (sV (As := []) (rest := []) (k := 189) Cx (s_X4_advance l G S11  hI11 (by omega)) (c_X1_119 Cx rfl rfl (rmk_ok (by omega) (by decide))) hW (by decide) rfl rfl rfl hl.1 rfl (Nat.le_of_ble_eq_true rfl) dX1_takePairs_107 ⟨Nat.le_of_ble_eq_true rfl, Nat.le_of_ble_eq_true rfl⟩) hL (fun u_19 H locs k_20 hW hL => ?_)
          obtain ⟨iu_19, fu_19, xu_19⟩ := k_20
          have F_21 := hFm11.trans (fu_19.to (p1_sub rfl))
          have F_22 := hL11_.trans (fu_19.to (p1_sub rfl))
          have at_u_19 : u_19.1 189 3 = S11.1 189 3 + 1 := by rw [xu_19]; exact uF_on
          have cr_23 : CQ G T kp vp u_19 := by rw [xu_19]; exact hCR11.F (by decide)
          refine lv_iconst (v := iv 1) hx hb dX1_takePairs_110 (by decide) ?_
          have q_24 : 0 ≤ u_19.1 189 3 ∧ u_19.1 189 3 ≤ 1000000000 := iu_19.fi 189 3 4 (by decide) rfl
          exact sZret Cx hr hlk hW hL (by omega) ⟨iu_19, F_21, ⟨cr_23, (by omega), (by omega), (fun _ => by have f := hpl.fin (by omega); exact ⟨ffc, _, f.1, (FCv.of hFl (show u_19.2.1 195 = S11.2.1 195 from funext fun x => (fu_19 195 rfl).2.1 x)), (by rw [f.2]; omega)⟩), (fun q => absurd q (by omega))⟩⟩ dX1_takePairs_111
        · have hk2 : kp (S11.1 189 3) = 2 ∧ kp (S11.1 189 3 + 1) = 4 ∧ kp (S11.1 189 3 + 2) = 2 := by rcases hpk with z | z; (exact z); (exfalso; omega)
          have hT2 := (hKT (S11.1 189 3 + 2) (by rw [hk2.2.2]; decide)).2
          have ha11 : 0 ≤ S11.1 189 3 ∧ S11.1 189 3 ≤ 1000000000 := hI11.fi 189 3 4 (by decide) rfl
          refine lv_aload_n hx hb dX1_takePairs_29 rfl (lv_at hl 2 rfl) ?_
          refine g_X1_12 Cx hW (k := 188) (by decide) rfl (v := .ref (G.2.2.1 + 189)) (rf_188_0 hI11) dX1_takePairs_30 ?_
          refine sBi (sV (As := []) (rest := []) (k := 189) Cx (b_X4_takeCount l G S11 (T := T) (kp := kp) (vp := vp) hI11 hCR11 (by omega) ⟨hT0, hk2.1⟩) (c_X1_203 Cx rfl rfl (rmk_ok (by omega) (by decide))) hW (by decide) rfl rfl rfl hl.1 rfl (Nat.le_of_ble_eq_true rfl) dX1_takePairs_33 ⟨Nat.le_of_ble_eq_true rfl, Nat.le_of_ble_eq_true rfl⟩) hL (fun r_27 u_25 H locs k_26 hW hL => ?_)
          obtain ⟨iu_25, fu_25, xu_25⟩ := k_26
          have F_28 := hFm11.trans (fu_25.to (p1_sub rfl))
          have F_29 := hL11_.trans (fu_25.to (p1_sub rfl))
          have hrow := (show _ ∧ _ from xu_25.2.2.2.2)
          have cr_30 : CQ G T kp vp u_25 := xu_25.1
          refine lv_istore_n (lv' := [(3, .int (iv r_27)), (2, .int (iv i)), (1, .int (iv la)), (0, .ref (G.2.2.1 + 188))]) hx hb dX1_takePairs_36 rfl hl (by decide) rfl (fun ls hl => ?_)
          refine lv_aload_n hx hb dX1_takePairs_37 rfl (lv_at hl 3 rfl) ?_
          refine g_X1_12 Cx hW (k := 188) (by decide) rfl (v := .ref (G.2.2.1 + 189)) (rf_188_0 iu_25) dX1_takePairs_38 ?_
          have q_31 : 0 ≤ u_25.1 189 3 ∧ u_25.1 189 3 ≤ 1000000000 := iu_25.fi 189 3 4 (by decide) rfl
          refine sBv (sV (As := []) (rest := []) (k := 189) Cx (s_X4_advance l G u_25  iu_25 (by omega)) (c_X1_119 Cx rfl rfl (rmk_ok (by omega) (by decide))) hW (by decide) rfl rfl rfl hl.1 rfl (Nat.le_of_ble_eq_true rfl) dX1_takePairs_41 ⟨Nat.le_of_ble_eq_true rfl, Nat.le_of_ble_eq_true rfl⟩) hL (fun u_32 H locs k_33 hW hL => ?_)
          obtain ⟨iu_32, fu_32, xu_32⟩ := k_33
          have F_34 := F_28.trans (fu_32.to (p1_sub rfl))
          have F_35 := F_29.trans (fu_32.to (p1_sub rfl))
          have at_u_32 : u_32.1 189 3 = u_25.1 189 3 + 1 := by rw [xu_32]; exact uF_on
          have cr_36 : CQ G T kp vp u_32 := by rw [xu_32]; exact cr_30.F (by decide)
          refine lv_aload_n hx hb dX1_takePairs_44 rfl (lv_at hl 3 rfl) ?_
          refine g_X1_12 Cx hW (k := 188) (by decide) rfl (v := .ref (G.2.2.1 + 189)) (rf_188_0 iu_32) dX1_takePairs_45 ?_
          refine lv_aload_n hx hb dX1_takePairs_48 rfl (lv_at hl 3 rfl) ?_
          refine g_X1_48 Cx hW (k := 188) (by decide) rfl (v := .ref (G.2.2.1 + 219)) (rf_188_8 iu_32) dX1_takePairs_49 ?_
          have q_37 : 0 ≤ u_32.1 189 3 ∧ u_32.1 189 3 ≤ 1000000000 := iu_32.fi 189 3 4 (by decide) rfl
          refine sBv (sV (As := [.ref (G.2.2.1 + 219)]) (rest := []) (k := 189) Cx (b_X4_takeNumber_219 l G u_32 (T := T) (kp := kp) (vp := vp) iu_32 cr_36 (by omega) ⟨by omega, by rw [show u_32.1 189 3 = S11.1 189 3 + 2 by omega]; exact hk2.2.2⟩) (c_X1_126 Cx rfl rfl (rmk_ok (by omega) (by decide))) hW (by decide) rfl rfl rfl hl.1 rfl (Nat.le_of_ble_eq_true rfl) dX1_takePairs_52 ⟨Nat.le_of_ble_eq_true rfl, Nat.le_of_ble_eq_true rfl⟩) hL (fun u_38 H locs k_39 hW hL => ?_)
          obtain ⟨iu_38, fu_38, xu_38⟩ := k_39
          have F_40 := F_34.trans (fu_38.to (pRg_sub rfl rfl rfl))
          have F_41 := F_35.trans (fu_38.to (pRg_sub rfl rfl rfl))
          have bv_42 : bv u_38 219 = vp (S11.1 189 3 + 2) := (show bv u_38 219 = vp _ from xu_38.2.2.2.2.1).trans (congrArg vp (by omega))
          have sg_43 := bsg iu_38 (o := 219) rfl (show Hd (bs u_38 219) from xu_38.2.2.2.2.2)
          rw [(show bv u_38 219 = vp (S11.1 189 3 + 2) from bv_42)] at sg_43
          have q_44 : (-1) ≤ u_38.1 219 2 ∧ u_38.1 219 2 ≤ 1 := iu_38.fi 219 2 0 (by decide) rfl
          have cr_45 : CQ G T kp vp u_38 := xu_38.1
          refine lv_iload_n hx hb dX1_takePairs_55 rfl (lv_at hl 0 rfl) ?_
          refine lv_iload_n hx hb dX1_takePairs_56 rfl (lv_at hl 2 rfl) ?_
          refine r_icmp_le (tgt := 81) hx hb ⟨(by omega), (by omega)⟩ ⟨(by omega), (by omega)⟩ dX1_takePairs_57 (by decide) (fun c_46 => ?_) (fun c_46 => ?_)
          · refine lv_iconst (v := iv 0) hx hb dX1_takePairs_81 (by decide) ?_
            have q_47 : 0 ≤ u_38.1 189 3 ∧ u_38.1 189 3 ≤ 1000000000 := iu_38.fi 189 3 4 (by decide) rfl
            exact sZret Cx hr hlk hW hL (by omega) ⟨iu_38, F_40, ⟨cr_45, (by omega), (by omega), (fun q => absurd q (by omega)), (fun _ => hpl.bad hk2.1 (by omega))⟩⟩ dX1_takePairs_82
          · refine lv_iload_n hx hb dX1_takePairs_60 rfl (lv_at hl 0 rfl) ?_
            refine lv_aload_n hx hb dX1_takePairs_61 rfl (lv_at hl 3 rfl) ?_
            refine g_X1_21 Cx hW (k := 188) (by decide) rfl (v := .ref (G.2.2.1 + 193)) (rf_188_1 iu_38) dX1_takePairs_62 ?_
            have q_48 : 0 ≤ S.1 193 9 ∧ S.1 193 9 ≤ 40 := hI.fi 193 9 6 (by decide) rfl
            have lk_49 : u_38.1 193 9 = S.1 193 9 := ((fu_38 193 rfl).1 9).trans (((fu_32 193 rfl).1 9).trans (((fu_25 193 rfl).1 9).trans (((hL11_ 193 rfl).1 9).trans ((fu_1 193 rfl).1 9))))
            refine sBi (sV (As := []) (rest := [.int (iv r_27)]) (k := 193) Cx (s_X6_count_193 l G u_38  iu_38) (c_X1_209 Cx rfl rfl (rmk_ok (by omega) (by decide))) hW (by decide) rfl rfl rfl hl.1 rfl (Nat.le_of_ble_eq_true rfl) dX1_takePairs_65 ⟨Nat.le_of_ble_eq_true rfl, Nat.le_of_ble_eq_true rfl⟩) hL (fun r_52 u_50 H locs k_51 hW hL => ?_)
            obtain ⟨eu_50, xu_50⟩ := k_51
            rw [eu_50] at hW
            refine r_icmp_gt (tgt := 81) hx hb ⟨(by omega), (by omega)⟩ ⟨(by omega), (by omega)⟩ dX1_takePairs_68 (by decide) (fun c_53 => ?_) (fun c_53 => ?_)
            · refine lv_iconst (v := iv 0) hx hb dX1_takePairs_81 (by decide) ?_
              have q_54 : 0 ≤ u_38.1 189 3 ∧ u_38.1 189 3 ≤ 1000000000 := iu_38.fi 189 3 4 (by decide) rfl
              exact sZret Cx hr hlk hW hL (by omega) ⟨iu_38, F_40, ⟨cr_45, (by omega), (by omega), (fun q => absurd q (by omega)), (fun _ => hpl.bad hk2.1 (by omega))⟩⟩ dX1_takePairs_82
            · refine lv_aload_n hx hb dX1_takePairs_71 rfl (lv_at hl 3 rfl) ?_
              refine g_X1_48 Cx hW (k := 188) (by decide) rfl (v := .ref (G.2.2.1 + 219)) (rf_188_8 iu_38) dX1_takePairs_72 ?_
              refine g_X1_181 Cx hW (k := 219) (by decide) rfl (v := u_38.1 219 2) rfl dX1_takePairs_75 ?_
              refine r_if_ge (tgt := 83) hx hb ⟨(by omega), (by omega)⟩ dX1_takePairs_78 (by decide) (fun c_55 => ?_) (fun c_55 => ?_)
              · refine lv_aload_n hx hb dX1_takePairs_83 rfl (lv_at hl 3 rfl) ?_
                refine g_X1_21 Cx hW (k := 188) (by decide) rfl (v := .ref (G.2.2.1 + 193)) (rf_188_1 iu_38) dX1_takePairs_84 ?_
                refine lv_iload_n hx hb dX1_takePairs_87 rfl (lv_at hl 0 rfl) ?_
                refine lv_aload_n hx hb dX1_takePairs_88 rfl (lv_at hl 3 rfl) ?_
                refine g_X1_48 Cx hW (k := 188) (by decide) rfl (v := .ref (G.2.2.1 + 219)) (rf_188_8 iu_38) dX1_takePairs_89 ?_
                have q_56 : 0 ≤ u_38.1 219 1 ∧ u_38.1 219 1 ≤ 32 := iu_38.fi 219 1 0 (by decide) rfl
                refine sBv (sV (As := [.int (iv r_27), .ref (G.2.2.1 + 219)]) (rest := []) (k := 193) Cx (b_X6_setFactor_193 l G u_38 (k := r_27) (v := 219) (ff := ffc) iu_38 rfl (by omega) (by omega) (FCv.of hFl (show u_38.2.1 195 = S11.2.1 195 from funext fun x => ((fu_38 195 rfl).2.1 x).trans (((fu_32 195 rfl).2.1 x).trans ((fu_25 195 rfl).2.1 x)))) (show Hd (bs u_38 219) from xu_38.2.2.2.2.2)) (c_X1_238 Cx rfl rfl (rmk_ok (by omega) (by decide))) hW (by decide) rfl rfl rfl hl.1 rfl (Nat.le_of_ble_eq_true rfl) dX1_takePairs_92 ⟨Nat.le_of_ble_eq_true rfl, Nat.le_of_ble_eq_true rfl⟩) hL (fun u_57 H locs k_58 hW hL => ?_)
                obtain ⟨iu_57, fu_57, xu_57⟩ := k_58
                have F_59 := F_40.trans (fu_57.to (p1_sub rfl))
                have F_60 := F_41.trans (fu_57.to (p1_sub rfl))
                have cr_61 : CQ G T kp vp u_57 := cr_45.fr fu_57 rfl rfl rfl rfl
                refine lv_iload_n hx hb dX1_takePairs_95 rfl (lv_at hl 0 rfl) ?_
                refine lv_istore_n (lv' := [(1, .int (iv r_27)), (3, .int (iv r_27)), (2, .int (iv i)), (0, .ref (G.2.2.1 + 188))]) hx hb dX1_takePairs_96 rfl hl (by decide) rfl (fun ls hl => ?_)
                refine lv_iinc (v := iv (i + 1)) (lv' := [(2, .int (iv (i + 1))), (1, .int (iv r_27)), (3, .int (iv r_27)), (0, .ref (G.2.2.1 + 188))]) hx hb dX1_takePairs_97 hl (k := 2) rfl ((Int32.ofInt_add _ _).symm) (by decide) rfl (fun ls hl => ?_)
                refine lv_goto (tgt := 11) hx hb dX1_takePairs_100 (by decide) ?_
                have q_62 : 0 ≤ u_38.1 189 3 ∧ u_38.1 189 3 ≤ 1000000000 := iu_38.fi 189 3 4 (by decide) rfl
                have lk_63 : u_57.1 189 3 = u_38.1 189 3 := (fu_57 189 rfl).1 3
                exact ih_11 u_57 (i + 1) r_27 _ _ _ (by omega) iu_57 F_59 F_60 (by omega) (by omega) (by omega) (show ∃ f, _ ∧ _ from ⟨upf ffc r_27 (bv u_38 219), xu_57, hpl.go (by omega) hk2.1 (by omega) (by omega) (show bv u_38 219 = vp (S11.1 189 3 + 2) from bv_42) (by omega)⟩) cr_61 hW hL (lv_sub hl [0, 1, 3] rfl)
              · refine lv_iconst (v := iv 0) hx hb dX1_takePairs_81 (by decide) ?_
                have q_64 : 0 ≤ u_38.1 189 3 ∧ u_38.1 189 3 ≤ 1000000000 := iu_38.fi 189 3 4 (by decide) rfl
                exact sZret Cx hr hlk hW hL (by omega) ⟨iu_38, F_40, ⟨cr_45, (by omega), (by omega), (fun q => absurd q (by omega)), (fun _ => hpl.bad hk2.1 (by omega))⟩⟩ dX1_takePairs_82
  have q_65 : 0 ≤ S.1 189 3 ∧ S.1 189 3 ≤ 1000000000 := hI.fi 189 3 4 (by decide) rfl
  have lk_66 : u_1.1 189 3 = S.1 189 3 := (fu_1 189 rfl).1 3
  exact loop_11 (_ + 1) u_1 0 0 _ _ _ (Nat.lt_succ_self _) iu_1 F_3 Fr.rf (by omega) (by omega) (by omega) (show ∃ f, _ ∧ _ from ⟨(fun _ => 0), xu_1, by rw [show u_1.1 189 3 = S.1 189 3 by omega]; exact PLp.in hge rfl⟩) cr_4 hW hL (lv_sub hl [0, 1, 2] rfl)
