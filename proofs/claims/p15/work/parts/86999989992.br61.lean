/-! The reference's PAIRS -/
/-- what was read up to here, while all is good: the factors ff -/
def PSi (cc : Int) (kp vp : Int → Int) (t0 t la e0 : Int) (f : Int → Int) (R : Int → Int → Int) (n : Int) : Prop := ∃ i ff, PLp cc kp vp t0 i t la e0 ff ∧ 0 ≤ i ∧ (∀ j, 0 ≤ j → j ≤ n → nv f (40 * j) = smf ff R j la.toNat) ∧ ∀ k, la < k → ff k = 0
theorem gPr_kt {kp : Int → Int} {f : Nat} {t e T : Int} (h : gPr kp f t = some e) (hk : KT T kp) : t < T := by
  by_cases k : kp t = 2
  · exact (hk t (by omega)).2
  · obtain ⟨g, _, k5, _⟩ := gPr_5 h k; exact (hk t (by omega)).2
theorem PGi.kt {kp : Int → Int} {c e T : Int} (h : PGi kp c e) (hk : KT T kp) : c < T := by
  obtain ⟨f, h⟩ := h; exact gPr_kt h hk
set_option maxRecDepth 100000 in
set_option maxHeartbeats 4000000 in
theorem q_X12_pairs (l : Launch) (G : sG) (S : sS) {K Xt Fm Wd Vt : Int → Int} {pz n : Int} {T : Int} {kp vp : Int → Int} {cc : Int} {RR : Int → Int → Int} (hI : dX G S) (hK : S.2.1 244 = K) (hX : S.2.1 243 = Xt) (hFm : S.2.1 245 = Fm) (hWd : S.2.1 246 = Wd) (hVt : S.2.1 247 = Vt) (hm : 0 ≤ S.1 231 46 ∧ S.1 231 46 ≤ 12) (hn : S.1 231 46 = n) (h100 : 0 ≤ S.1 231 100 ∧ S.1 231 100 ≤ 40) (hHA : dHA S) (hHR : Hd (HRr S cc RR n)) (hc : S.1 231 24 = pz) (hgp : Hd (∃ e, gPr kp 30001 pz = some e)) (hQ : Hd (∀ t, 0 ≤ t → t < T → kp t = 2 → nTk Xt Fm Wd Vt t ∧ NVr Xt Fm Wd Vt t (vp t))) (hKS : Hd (KS T kp) ∧ T ≤ 30001) (hkr : Hd (KVq K Vt T kp vp)) (hKT : Hd (KT T kp)) (hp0 : 0 ≤ pz) : Met l yX12_pairs (.code yX12_pairs cX12_pairs 5 (some .boolean) :: tb) (rmk 5 0 0) (sPc G 294 S [.ref (G.2.2.1 + 231)]) (sQi G 294 (fun r u => dX G u ∧ Fr S u (pl [231, 237, 284, 289]) ∧ FF S u (fl [24]) ∧ ((0 ≤ r ∧ r ≤ 1) ∧ gPr kp 30001 pz = some (u.1 231 24) ∧ dSM u ∧ Hd (r = 0 → prs cc kp vp 30001 pz 0 (fun _ => 0) = none) ∧ Hd (r = 1 → ∃ ff, prs cc kp vp 30001 pz 0 (fun _ => 0) = some (ff, u.1 231 24) ∧ SMr u (fun j => smf ff RR j cc.toNat) n)))) 0 0 (sF G) := by
  refine sEnter (by decide) (Nat.le_of_ble_eq_true rfl) ?_
  intro p e s m args below meth c Cx hr hlk hnm hW ls hl
  have Cx : sC G p m c cX12_pairs 5 s args RX12 := Cx
  obtain ⟨hx, hb, hml, hown, hts⟩ := id Cx.1
  have hL : sL G [] := sL_nil
  have hl : lv_has ls 5 [(0, .ref (G.2.2.1 + 231))] := hl
  have hW0 := hW
  have hT3 := hKS.2
  have hRc := hHR.1
  obtain ⟨ed, hge⟩ := hgp
  have hge : Hd _ := hge
  refine lv_iconst (v := iv 0) hx hb dX12_pairs_0 (by decide) ?_
  refine lv_istore_n (lv' := [(1, .int (iv 0)), (0, .ref (G.2.2.1 + 231))]) hx hb dX12_pairs_1 rfl hl (by decide) rfl (fun ls hl => ?_)
  have loop_2 : ∀ (fuel : Nat) (S2 : sS) (i : Int) (H : Heap) (locs : List Loc) (ls : Array Slot), (S.1 231 46 + 1 - i).toNat < fuel → (dX G S2) → (Fr S S2 (pl [231, 237, 284, 289])) → (Fr S S2 (pl [284])) → (FF S S2 (fl [24])) → (FF S S2 (fl [])) → (0 ≤ i ∧ i ≤ S.1 231 46 + 1) → (Hd (∀ t, 0 ≤ t → t < i → S2.2.1 284 (40 * t) = 0)) → sW G 294 S2 H → sL G locs → lv_has ls 5 [(1, .int (iv i)), (0, .ref (G.2.2.1 + 231))] → W p l e (rmk 5 0 0) s m args below meth c H locs 0 0 (MQ below (sQi G 294 (fun r u => dX G u ∧ Fr S u (pl [231, 237, 284, 289]) ∧ FF S u (fl [24]) ∧ ((0 ≤ r ∧ r ≤ 1) ∧ gPr kp 30001 pz = some (u.1 231 24) ∧ dSM u ∧ Hd (r = 0 → prs cc kp vp 30001 pz 0 (fun _ => 0) = none) ∧ Hd (r = 1 → ∃ ff, prs cc kp vp 30001 pz 0 (fun _ => 0) = some (ff, u.1 231 24) ∧ SMr u (fun j => smf ff RR j cc.toNat) n)))) args s 0 0 (sF G)) (F0 m 2 ls []) := by
    intro fuel
    induction fuel with
    | zero => intro S2 i H locs ls hmeas hI2 hFm2 hL2_ hGm2 gL2_ hi hz2 hW hL hl; exact absurd hmeas (Nat.not_lt_zero _)
    | succ fuel ih_2 =>
      intro S2 i H locs ls hmeas hI2 hFm2 hL2_ hGm2 gL2_ hi hz2 hW hL hl
      refine lv_iload_n hx hb dX12_pairs_2 rfl (lv_at hl 0 rfl) ?_
      refine lv_aload_n hx hb dX12_pairs_3 rfl (lv_at hl 1 rfl) ?_
      have q_1 : (-2147483648) ≤ S.1 231 46 ∧ S.1 231 46 ≤ 2147483647 := hI.fi 46
      refine g_X12_465 Cx hW (k := 231) (by decide) rfl (v := S.1 231 46) (gL2_ 46 rfl) dX12_pairs_4 ?_
      refine r_icmp_gt (tgt := 26) hx hb ⟨(by omega), (by omega)⟩ ⟨(by omega), (by omega)⟩ dX12_pairs_7 (by decide) (fun c_2 => ?_) (fun c_2 => ?_)
      · refine lv_iconst (v := iv 1) hx hb dX12_pairs_26 (by decide) ?_
        refine lv_istore_n (lv' := [(1, .int (iv 1)), (0, .ref (G.2.2.1 + 231))]) hx hb dX12_pairs_27 rfl hl (by decide) rfl (fun ls hl => ?_)
        refine lv_iconst (v := iv 0) hx hb dX12_pairs_28 (by decide) ?_
        refine lv_istore_n (lv' := [(2, .int (iv 0)), (1, .int (iv 1)), (0, .ref (G.2.2.1 + 231))]) hx hb dX12_pairs_29 rfl hl (by decide) rfl (fun ls hl => ?_)
        have loop_30 : ∀ (fuel : Nat) (S30 : sS) (pv : Int) (ok : Int) (H : Heap) (locs : List Loc) (ls : Array Slot), (ed - S30.1 231 24).toNat < fuel → (dX G S30) → (Fr S S30 (pl [231, 237, 284, 289])) → (Fr S2 S30 (pl [231, 237, 284, 289])) → (FF S S30 (fl [24])) → (FF S2 S30 (fl [24])) → ((0 ≤ ok ∧ ok ≤ 1) ∧ 0 ≤ pv ∧ pv ≤ cc) → (0 ≤ S30.1 231 24 ∧ S30.1 231 24 < T ∧ S30.1 231 24 ≤ ed) → (Hd (PGi kp (S30.1 231 24) ed)) → (Hd (∀ t, 0 ≤ t → t ≤ S.1 231 46 → NO (S30.2.1 284) (40 * t) 16)) → (Hd (ok = 1 → ∀ t, 0 ≤ t → t ≤ S.1 231 46 → -(pv * pw 15) ≤ nv (S30.2.1 284) (40 * t) ∧ nv (S30.2.1 284) (40 * t) ≤ pv * pw 15)) → (Hd (ok = 1 → PSi cc kp vp pz (S30.1 231 24) pv ed (S30.2.1 284) RR n)) → (Hd (ok = 0 → prs cc kp vp 30001 pz 0 (fun _ => 0) = none)) → sW G 294 S30 H → sL G locs → lv_has ls 5 [(2, .int (iv pv)), (1, .int (iv ok)), (0, .ref (G.2.2.1 + 231))] → W p l e (rmk 5 0 0) s m args below meth c H locs 0 0 (MQ below (sQi G 294 (fun r u => dX G u ∧ Fr S u (pl [231, 237, 284, 289]) ∧ FF S u (fl [24]) ∧ ((0 ≤ r ∧ r ≤ 1) ∧ gPr kp 30001 pz = some (u.1 231 24) ∧ dSM u ∧ Hd (r = 0 → prs cc kp vp 30001 pz 0 (fun _ => 0) = none) ∧ Hd (r = 1 → ∃ ff, prs cc kp vp 30001 pz 0 (fun _ => 0) = some (ff, u.1 231 24) ∧ SMr u (fun j => smf ff RR j cc.toNat) n)))) args s 0 0 (sF G)) (F0 m 30 ls []) := by
          intro fuel
          induction fuel with
          | zero => intro S30 pv ok H locs ls hmeas hI30 hFm30 hL30_ hGm30 gL30_ hok hc30 hG30 hN30 hB30 hP30 hZ30 hW hL hl; exact absurd hmeas (Nat.not_lt_zero _)
          | succ fuel ih_30 =>
            intro S30 pv ok H locs ls hmeas hI30 hFm30 hL30_ hGm30 gL30_ hok hc30 hG30 hN30 hB30 hP30 hZ30 hW hL hl
            refine lv_aload_n hx hb dX12_pairs_30 rfl (lv_at hl 2 rfl) ?_
            refine g_X12_47 Cx hW (k := 231) (by decide) rfl (v := .ref (G.2.2.1 + 244)) (rd_15 hI30) dX12_pairs_31 ?_
            refine lv_aload_n hx hb dX12_pairs_34 rfl (lv_at hl 2 rfl) ?_
            have q_3 : (-2147483648) ≤ S30.1 231 24 ∧ S30.1 231 24 ≤ 2147483647 := hI30.fi 24
            refine g_X12_315 Cx hW (k := 231) (by decide) rfl (v := S30.1 231 24) rfl dX12_pairs_35 ?_
            refine rIald Cx hW (k := 244) (by decide) rfl (by decide) (by omega) (by omega) dX12_pairs_38 ?_
            have q_4 : (-2147483648) ≤ S.2.1 244 (S30.1 231 24) ∧ S.2.1 244 (S30.1 231 24) ≤ 2147483647 := hI.ai 244 (S30.1 231 24)
            refine r_i (b := S.2.1 244 (S30.1 231 24)) (((hL30_ 244 rfl).2.1 (S30.1 231 24)).trans ((hL2_ 244 rfl).2.1 (S30.1 231 24))) ?_
            have hrk : K (S30.1 231 24) = S.2.1 244 (S30.1 231 24) := by rw [← hK]
            refine lv_iconst (v := iv 2) hx hb dX12_pairs_39 (by decide) ?_
            refine r_icmp_ne (tgt := 230) hx hb ⟨(by omega), (by omega)⟩ ⟨(by omega), (by omega)⟩ dX12_pairs_40 (by decide) (fun c_5 => ?_) (fun c_5 => ?_)
            · have hkz : kp (S30.1 231 24) ≠ 2 := fun z => absurd ((hkr.n (by omega) (by omega)).mpr z) (by omega)
              refine lv_aload_n hx hb dX12_pairs_230 rfl (lv_at hl 2 rfl) ?_
              refine lv_dup hx hb dX12_pairs_231 rfl ?_
              refine g_X12_315 Cx hW (k := 231) (by decide) rfl (v := S30.1 231 24) rfl dX12_pairs_232 ?_
              refine lv_iconst (v := iv 1) hx hb dX12_pairs_235 (by decide) ?_
              refine r_iadd hx hb dX12_pairs_236 ?_
              refine p_X12_315 Cx hW hL (k := 231) (by decide) rfl dX12_pairs_237 (fun H locs hW hL => ?_)
              have F_6 : Fr S (uF S30 231 24 ((S30.1 231 24) + 1)) (pl [231, 237, 284, 289]) := hFm30.F rfl
              have F_7 : Fr S2 (uF S30 231 24 ((S30.1 231 24) + 1)) (pl [231, 237, 284, 289]) := hL30_.F rfl
              have g_8 : FF S (uF S30 231 24 ((S30.1 231 24) + 1)) (fl [24]) := FF.F hGm30 rfl
              have g_9 : FF S2 (uF S30 231 24 ((S30.1 231 24) + 1)) (fl [24]) := FF.F gL30_ rfl
              have i_10 : dX G (uF S30 231 24 ((S30.1 231 24) + 1)) := hI30.F (i := 24) (show (-2147483648) ≤ (S30.1 231 24) + 1 ∧ (S30.1 231 24) + 1 ≤ 2147483647 from ⟨by omega, by omega⟩)
              refine lv_iload_n hx hb dX12_pairs_240 rfl (lv_at hl 1 rfl) ?_
              have lk_11 : (uF S30 231 24 ((S30.1 231 24) + 1)).1 231 24 = (S30.1 231 24) + 1 := uF_on
              exact sZret Cx hr hlk hW hL (by omega) ⟨i_10, F_6, g_8, ⟨(by omega), (by rw [show (uF S30 231 24 ((S30.1 231 24) + 1)).1 231 24 = ed from (by have y := (show (uF S30 231 24 ((S30.1 231 24) + 1)).1 231 24 = (S30.1 231 24) + 1 from uF_on); have y2 := hG30.z hkz; omega)]; exact hge), (fun t t0 t1 => by rw [show (uF S30 231 24 ((S30.1 231 24) + 1)).2.1 284 = S30.2.1 284 from (funext fun j => uF_a)]; exact hN30 t t0 (by have y := (show (uF S30 231 24 ((S30.1 231 24) + 1)).1 231 46 = S.1 231 46 from (uF_ne (fun h => absurd h.2 (by decide))).trans ((gL30_ 46 rfl).trans (gL2_ 46 rfl))); omega)), (fun z => hZ30 (by omega)), (fun z => by obtain ⟨i9, ff, hPL, _, hSv, hFz⟩ := hP30 (by omega); have y := hPL.fin hkz; exact ⟨ff, (by rw [show (uF S30 231 24 ((S30.1 231 24) + 1)).1 231 24 = ed from (by have y := (show (uF S30 231 24 ((S30.1 231 24) + 1)).1 231 24 = (S30.1 231 24) + 1 from uF_on); have y2 := hG30.z hkz; omega)]; exact y.1), fun t t0 t1 => by rw [show (uF S30 231 24 ((S30.1 231 24) + 1)).2.1 284 = S30.2.1 284 from (funext fun j => uF_a)]; show _ = smf ff RR t cc.toNat; rw [hSv t t0 t1]; exact (smf_e (by omega) hFz).symm⟩)⟩⟩ dX12_pairs_241
            · have hcb := hc30
              have hkc : kp (S30.1 231 24) = 2 := (hkr.n (by omega) (by omega)).mp (by omega)
              have hpg := hG30.k hkc
              have hkd := hpg.1; have hle3 := hpg.2.2; have hpg2 : Hd _ := hpg.2.1; clear hpg
              have hq_12b := hKS.1 (S30.1 231 24) (by rw [hkc]; decide) (by rw [hkc]; decide)
              have hq_12 : Hd _ := hQ (S30.1 231 24) hq_12b.1 (by omega) hkc
              refine lv_aload_n hx hb dX12_pairs_43 rfl (lv_at hl 2 rfl) ?_
              refine lv_aload_n hx hb dX12_pairs_44 rfl (lv_at hl 2 rfl) ?_
              refine g_X12_315 Cx hW (k := 231) (by decide) rfl (v := S30.1 231 24) rfl dX12_pairs_45 ?_
              refine lv_aload_n hx hb dX12_pairs_48 rfl (lv_at hl 2 rfl) ?_
              refine g_X12_187 Cx hW (k := 231) (by decide) rfl (v := .ref (G.2.2.1 + 289)) (rd_99 hI30) dX12_pairs_49 ?_
              refine lv_iconst (v := iv 0) hx hb dX12_pairs_52 (by decide) ?_
              refine sBv (sV (As := [.int (iv (S30.1 231 24)), .ref (G.2.2.1 + 289), .int (iv 0)]) (rest := []) (k := 231) Cx (q_X12_numberAt l G S30 (tk := S30.1 231 24) (ka := 289) (po := 0) (Nka := 10) (Xt := Xt) (Fm := Fm) (Wd := Wd) (Vt := Vt) (xx := vp (S30.1 231 24)) hI30 ⟨rfl, by decide, by decide, by decide, rfl⟩ (show (289 : Nat) ≠ 243 by decide) (show (289 : Nat) ≠ 245 by decide) (show (289 : Nat) ≠ 246 by decide) (show (289 : Nat) ≠ 247 by decide) ((funext fun j => ((hL30_ 243 rfl).2.1 j).trans ((hL2_ 243 rfl).2.1 j) : S30.2.1 243 = S.2.1 243).trans hX) ((funext fun j => ((hL30_ 245 rfl).2.1 j).trans ((hL2_ 245 rfl).2.1 j) : S30.2.1 245 = S.2.1 245).trans hFm) ((funext fun j => ((hL30_ 246 rfl).2.1 j).trans ((hL2_ 246 rfl).2.1 j) : S30.2.1 246 = S.2.1 246).trans hWd) ((funext fun j => ((hL30_ 247 rfl).2.1 j).trans ((hL2_ 247 rfl).2.1 j) : S30.2.1 247 = S.2.1 247).trans hVt) hq_12.1 hq_12.2 (by omega) (by omega)) (c_X12_703 Cx rfl rfl (rmk_ok (by omega) (by decide))) hW (by decide) rfl rfl rfl hl.1 rfl (Nat.le_of_ble_eq_true rfl) dX12_pairs_53 ⟨Nat.le_of_ble_eq_true rfl, Nat.le_of_ble_eq_true rfl⟩) hL (fun u_13 H locs k_14 hW hL => ?_)
              obtain ⟨iu_13, fu_13, gu_13, xu_13⟩ := k_14
              have F_15 := hFm30.trans (fu_13.to (pl_sub (by decide)))
              have F_16 := hL30_.trans (fu_13.to (pl_sub (by decide)))
              have g_17 : FF S u_13 (fl [24]) := FF.trans hGm30 (FF.to gu_13 (fl_sub (by decide)))
              have g_18 : FF S2 u_13 (fl [24]) := FF.trans gL30_ (FF.to gu_13 (fl_sub (by decide)))
              have nv_19 : nv (u_13.2.1 289) 0 = vp (S30.1 231 24) := xu_13.2.1
              have hhn1 := noh1 xu_13.1
              rw [xu_13.2.1] at hhn1
              have hhan1 := hhn1.1; have hhbn1 := hhn1.2; clear hhn1
              have join_89 : ∀ (k3 : Int) (H : Heap) (locs : List Loc) (ls : Array Slot), (0 ≤ k3 ∧ k3 ≤ S.1 231 100) → ((1 ≤ vp (S30.1 231 24) → vp (S30.1 231 24) ≤ cc → k3 = vp (S30.1 231 24)) ∧ (vp (S30.1 231 24) < 1 ∨ cc < vp (S30.1 231 24) → k3 = 0)) → sW G 294 u_13 H → sL G locs → lv_has ls 5 [(2, .int (iv pv)), (1, .int (iv ok)), (0, .ref (G.2.2.1 + 231))] → W p l e (rmk 5 0 0) s m args below meth c H locs 0 0 (MQ below (sQi G 294 (fun r u => dX G u ∧ Fr S u (pl [231, 237, 284, 289]) ∧ FF S u (fl [24]) ∧ ((0 ≤ r ∧ r ≤ 1) ∧ gPr kp 30001 pz = some (u.1 231 24) ∧ dSM u ∧ Hd (r = 0 → prs cc kp vp 30001 pz 0 (fun _ => 0) = none) ∧ Hd (r = 1 → ∃ ff, prs cc kp vp 30001 pz 0 (fun _ => 0) = some (ff, u.1 231 24) ∧ SMr u (fun j => smf ff RR j cc.toNat) n)))) args s 0 0 (sF G)) (F0 m 89 ls [.int (iv k3)]) := by
                intro k3 H locs ls hk3 hk3v hW hL hl
                refine lv_istore_n (lv' := [(3, .int (iv k3)), (2, .int (iv pv)), (1, .int (iv ok)), (0, .ref (G.2.2.1 + 231))]) hx hb dX12_pairs_89 rfl hl (by decide) rfl (fun ls hl => ?_)
                have join_104 : ∀ (ok2 : Int) (H : Heap) (locs : List Loc) (ls : Array Slot), ((0 ≤ ok2 ∧ ok2 ≤ 1) ∧ (ok2 = 1 → ok = 1 ∧ pv < k3) ∧ (ok = 1 → pv < k3 → ok2 = 1)) → sW G 294 u_13 H → sL G locs → lv_has ls 5 [(3, .int (iv k3)), (2, .int (iv pv)), (1, .int (iv ok)), (0, .ref (G.2.2.1 + 231))] → W p l e (rmk 5 0 0) s m args below meth c H locs 0 0 (MQ below (sQi G 294 (fun r u => dX G u ∧ Fr S u (pl [231, 237, 284, 289]) ∧ FF S u (fl [24]) ∧ ((0 ≤ r ∧ r ≤ 1) ∧ gPr kp 30001 pz = some (u.1 231 24) ∧ dSM u ∧ Hd (r = 0 → prs cc kp vp 30001 pz 0 (fun _ => 0) = none) ∧ Hd (r = 1 → ∃ ff, prs cc kp vp 30001 pz 0 (fun _ => 0) = some (ff, u.1 231 24) ∧ SMr u (fun j => smf ff RR j cc.toNat) n)))) args s 0 0 (sF G)) (F0 m 104 ls [.int (iv ok2)]) := by
                  intro ok2 H locs ls hok2 hW hL hl
                  refine lv_istore_n (lv' := [(1, .int (iv ok2)), (3, .int (iv k3)), (2, .int (iv pv)), (0, .ref (G.2.2.1 + 231))]) hx hb dX12_pairs_104 rfl hl (by decide) rfl (fun ls hl => ?_)
                  refine lv_iload_n hx hb dX12_pairs_105 rfl (lv_at hl 1 rfl) ?_
                  refine lv_istore_n (lv' := [(2, .int (iv k3)), (1, .int (iv ok2)), (3, .int (iv k3)), (0, .ref (G.2.2.1 + 231))]) hx hb dX12_pairs_106 rfl hl (by decide) rfl (fun ls hl => ?_)
                  have hq_20b := hKS.1 (S30.1 231 24 + 2) (by rw [hkd]; decide) (by rw [hkd]; decide)
                  have hq_20 : Hd _ := hQ (S30.1 231 24 + 2) hq_20b.1 (by omega) hkd
                  refine lv_aload_n hx hb dX12_pairs_107 rfl (lv_at hl 3 rfl) ?_
                  refine lv_aload_n hx hb dX12_pairs_108 rfl (lv_at hl 3 rfl) ?_
                  refine g_X12_315 Cx hW (k := 231) (by decide) rfl (v := S30.1 231 24) (gu_13 24 rfl) dX12_pairs_109 ?_
                  refine lv_iconst (v := iv 2) hx hb dX12_pairs_112 (by decide) ?_
                  refine r_iadd hx hb dX12_pairs_113 ?_
                  refine lv_aload_n hx hb dX12_pairs_114 rfl (lv_at hl 3 rfl) ?_
                  refine g_X12_187 Cx hW (k := 231) (by decide) rfl (v := .ref (G.2.2.1 + 289)) (rd_99 iu_13) dX12_pairs_115 ?_
                  refine lv_iconst (v := iv 0) hx hb dX12_pairs_118 (by decide) ?_
                  refine sBv (sV (As := [.int (iv ((S30.1 231 24) + 2)), .ref (G.2.2.1 + 289), .int (iv 0)]) (rest := []) (k := 231) Cx (q_X12_numberAt l G u_13 (tk := (S30.1 231 24) + 2) (ka := 289) (po := 0) (Nka := 10) (Xt := Xt) (Fm := Fm) (Wd := Wd) (Vt := Vt) (xx := vp (S30.1 231 24 + 2)) iu_13 ⟨rfl, by decide, by decide, by decide, rfl⟩ (show (289 : Nat) ≠ 243 by decide) (show (289 : Nat) ≠ 245 by decide) (show (289 : Nat) ≠ 246 by decide) (show (289 : Nat) ≠ 247 by decide) ((funext fun j => ((fu_13 243 rfl).2.1 j).trans (((hL30_ 243 rfl).2.1 j).trans ((hL2_ 243 rfl).2.1 j)) : u_13.2.1 243 = S.2.1 243).trans hX) ((funext fun j => ((fu_13 245 rfl).2.1 j).trans (((hL30_ 245 rfl).2.1 j).trans ((hL2_ 245 rfl).2.1 j)) : u_13.2.1 245 = S.2.1 245).trans hFm) ((funext fun j => ((fu_13 246 rfl).2.1 j).trans (((hL30_ 246 rfl).2.1 j).trans ((hL2_ 246 rfl).2.1 j)) : u_13.2.1 246 = S.2.1 246).trans hWd) ((funext fun j => ((fu_13 247 rfl).2.1 j).trans (((hL30_ 247 rfl).2.1 j).trans ((hL2_ 247 rfl).2.1 j)) : u_13.2.1 247 = S.2.1 247).trans hVt) hq_20.1 hq_20.2 (by omega) (by omega)) (c_X12_703 Cx rfl rfl (rmk_ok (by omega) (by decide))) hW (by decide) rfl rfl rfl hl.1 rfl (Nat.le_of_ble_eq_true rfl) dX12_pairs_119 ⟨Nat.le_of_ble_eq_true rfl, Nat.le_of_ble_eq_true rfl⟩) hL (fun u_21 H locs k_22 hW hL => ?_)
                  obtain ⟨iu_21, fu_21, gu_21, xu_21⟩ := k_22
                  have F_23 := F_15.trans (fu_21.to (pl_sub (by decide)))
                  have F_24 := F_16.trans (fu_21.to (pl_sub (by decide)))
                  have g_25 : FF S u_21 (fl [24]) := FF.trans g_17 (FF.to gu_21 (fl_sub (by decide)))
                  have g_26 : FF S2 u_21 (fl [24]) := FF.trans g_18 (FF.to gu_21 (fl_sub (by decide)))
                  have nv_27 : nv (u_21.2.1 289) 0 = vp (S30.1 231 24 + 2) := xu_21.2.1
                  have hsg2 := xu_21.1.sgn.1
                  rw [xu_21.2.1] at hsg2
                  have hsg2a := hsg2.mp; have hsg2b := hsg2.mpr; clear hsg2
                  have join_140 : ∀ (ok3 : Int) (H : Heap) (locs : List Loc) (ls : Array Slot), ((0 ≤ ok3 ∧ ok3 ≤ 1) ∧ (ok3 = 1 → ok2 = 1 ∧ 0 ≤ vp (S30.1 231 24 + 2)) ∧ (ok2 = 1 → 0 ≤ vp (S30.1 231 24 + 2) → ok3 = 1)) → sW G 294 u_21 H → sL G locs → lv_has ls 5 [(2, .int (iv k3)), (1, .int (iv ok2)), (3, .int (iv k3)), (0, .ref (G.2.2.1 + 231))] → W p l e (rmk 5 0 0) s m args below meth c H locs 0 0 (MQ below (sQi G 294 (fun r u => dX G u ∧ Fr S u (pl [231, 237, 284, 289]) ∧ FF S u (fl [24]) ∧ ((0 ≤ r ∧ r ≤ 1) ∧ gPr kp 30001 pz = some (u.1 231 24) ∧ dSM u ∧ Hd (r = 0 → prs cc kp vp 30001 pz 0 (fun _ => 0) = none) ∧ Hd (r = 1 → ∃ ff, prs cc kp vp 30001 pz 0 (fun _ => 0) = some (ff, u.1 231 24) ∧ SMr u (fun j => smf ff RR j cc.toNat) n)))) args s 0 0 (sF G)) (F0 m 140 ls [.int (iv ok3)]) := by
                    intro ok3 H locs ls hok3 hW hL hl
                    refine lv_istore_n (lv' := [(1, .int (iv ok3)), (2, .int (iv k3)), (3, .int (iv k3)), (0, .ref (G.2.2.1 + 231))]) hx hb dX12_pairs_140 rfl hl (by decide) rfl (fun ls hl => ?_)
                    refine lv_aload_n hx hb dX12_pairs_141 rfl (lv_at hl 3 rfl) ?_
                    refine lv_dup hx hb dX12_pairs_142 rfl ?_
                    refine g_X12_315 Cx hW (k := 231) (by decide) rfl (v := S30.1 231 24) ((gu_21 24 rfl).trans (gu_13 24 rfl)) dX12_pairs_143 ?_
                    refine lv_iconst (v := iv 3) hx hb dX12_pairs_146 (by decide) ?_
                    refine r_iadd hx hb dX12_pairs_147 ?_
                    refine p_X12_315 Cx hW hL (k := 231) (by decide) rfl dX12_pairs_148 (fun H locs hW hL => ?_)
                    have F_28 : Fr S (uF u_21 231 24 ((S30.1 231 24) + 3)) (pl [231, 237, 284, 289]) := F_23.F rfl
                    have F_29 : Fr S2 (uF u_21 231 24 ((S30.1 231 24) + 3)) (pl [231, 237, 284, 289]) := F_24.F rfl
                    have g_30 : FF S (uF u_21 231 24 ((S30.1 231 24) + 3)) (fl [24]) := FF.F g_25 rfl
                    have g_31 : FF S2 (uF u_21 231 24 ((S30.1 231 24) + 3)) (fl [24]) := FF.F g_26 rfl
                    have i_32 : dX G (uF u_21 231 24 ((S30.1 231 24) + 3)) := iu_21.F (i := 24) (show (-2147483648) ≤ (S30.1 231 24) + 3 ∧ (S30.1 231 24) + 3 ≤ 2147483647 from ⟨by omega, by omega⟩)
                    refine lv_iload_n hx hb dX12_pairs_151 rfl (lv_at hl 0 rfl) ?_
                    refine r_if_ne (tgt := 158) hx hb ⟨(by omega), (by omega)⟩ dX12_pairs_152 (by decide) (fun c_33 => ?_) (fun c_33 => ?_)
                    · obtain ⟨i9, ff, hPL, hi9, hSv, hFz⟩ := hP30 (by omega)
                      have hPL : Hd _ := hPL; have hSv : Hd _ := hSv; have hFz : Hd _ := hFz
                      refine lv_iconst (v := iv 0) hx hb dX12_pairs_158 (by decide) ?_
                      refine lv_istore (lv' := [(4, .int (iv 0)), (1, .int (iv ok3)), (2, .int (iv k3)), (3, .int (iv k3)), (0, .ref (G.2.2.1 + 231))]) hx hb dX12_pairs_159 hl (by decide) rfl (fun ls hl => ?_)
                      have loop_161 : ∀ (fuel : Nat) (S161 : sS) (j : Int) (H : Heap) (locs : List Loc) (ls : Array Slot), (S.1 231 46 + 1 - j).toNat < fuel → (dX G S161) → (Fr S S161 (pl [231, 237, 284, 289])) → (Fr S2 S161 (pl [231, 237, 284, 289])) → (Fr ((uF u_21 231 24 ((S30.1 231 24) + 3))) S161 (pl [237, 284])) → (FF S S161 (fl [24])) → (FF S2 S161 (fl [24])) → (FF ((uF u_21 231 24 ((S30.1 231 24) + 3))) S161 (fl [])) → (0 ≤ j ∧ j ≤ S.1 231 46 + 1) → (Hd (∀ t, 0 ≤ t → t ≤ S.1 231 46 → NO (S161.2.1 284) (40 * t) 16)) → (Hd (∀ t, 0 ≤ t → t < j → -(k3 * pw 15) ≤ nv (S161.2.1 284) (40 * t) ∧ nv (S161.2.1 284) (40 * t) ≤ k3 * pw 15)) → (Hd (∀ t, j ≤ t → t ≤ S.1 231 46 → -(pv * pw 15) ≤ nv (S161.2.1 284) (40 * t) ∧ nv (S161.2.1 284) (40 * t) ≤ pv * pw 15)) → (Hd (∀ t, 0 ≤ t → t < j → nv (S161.2.1 284) (40 * t) = smf ff RR t pv.toNat + vp (S30.1 231 24 + 2) * RR k3 t)) → (Hd (∀ t, j ≤ t → t ≤ n → nv (S161.2.1 284) (40 * t) = smf ff RR t pv.toNat)) → sW G 294 S161 H → sL G locs → lv_has ls 5 [(4, .int (iv j)), (1, .int (iv ok3)), (2, .int (iv k3)), (3, .int (iv k3)), (0, .ref (G.2.2.1 + 231))] → W p l e (rmk 5 0 0) s m args below meth c H locs 0 0 (MQ below (sQi G 294 (fun r u => dX G u ∧ Fr S u (pl [231, 237, 284, 289]) ∧ FF S u (fl [24]) ∧ ((0 ≤ r ∧ r ≤ 1) ∧ gPr kp 30001 pz = some (u.1 231 24) ∧ dSM u ∧ Hd (r = 0 → prs cc kp vp 30001 pz 0 (fun _ => 0) = none) ∧ Hd (r = 1 → ∃ ff, prs cc kp vp 30001 pz 0 (fun _ => 0) = some (ff, u.1 231 24) ∧ SMr u (fun j => smf ff RR j cc.toNat) n)))) args s 0 0 (sF G)) (F0 m 161 ls []) := by
                        intro fuel
                        induction fuel with
                        | zero => intro S161 j H locs ls hmeas hI161 hFm161 hFL30161 hL161_ hGm161 hGL30161 gL161_ hj hN161 hA161 hB161 hV161 hW161 hW hL hl; exact absurd hmeas (Nat.not_lt_zero _)
                        | succ fuel ih_161 =>
                          intro S161 j H locs ls hmeas hI161 hFm161 hFL30161 hL161_ hGm161 hGL30161 gL161_ hj hN161 hA161 hB161 hV161 hW161 hW hL hl
                          refine lv_iload hx hb dX12_pairs_161 (lv_at hl 0 rfl) ?_
                          refine lv_aload_n hx hb dX12_pairs_163 rfl (lv_at hl 4 rfl) ?_
                          refine g_X12_465 Cx hW (k := 231) (by decide) rfl (v := S.1 231 46) ((gL161_ 46 rfl).trans ((uF_ne (fun h => absurd h.2 (by decide))).trans ((gu_21 46 rfl).trans ((gu_13 46 rfl).trans ((gL30_ 46 rfl).trans (gL2_ 46 rfl)))))) dX12_pairs_164 ?_
                          refine r_icmp_gt (tgt := 227) hx hb ⟨(by omega), (by omega)⟩ ⟨(by omega), (by omega)⟩ dX12_pairs_167 (by decide) (fun c_34 => ?_) (fun c_34 => ?_)
                          · refine lv_goto (tgt := 30) hx hb dX12_pairs_227 (by decide) ?_
                            have lk_35 : S161.1 231 24 = (S30.1 231 24) + 3 := (gL161_ 24 rfl).trans (uF_on)
                            exact ih_30 S161 k3 ok3 _ _ _ (by omega) hI161 hFm161 hFL30161 hGm161 hGL30161 (by omega) (by have y3 := (show S161.1 231 24 = (S30.1 231 24) + 3 from (gL161_ 24 rfl).trans (uF_on)); have y2 := PGi.kt hpg2 hKT; omega) (by rw [(show S161.1 231 24 = (S30.1 231 24) + 3 from (gL161_ 24 rfl).trans (uF_on))]; exact hpg2) hN161 (fun _ t t0 t1 => by exact hA161 t t0 (by omega)) (fun _ => ⟨i9 + 1, upf ff k3 (vp (S30.1 231 24 + 2)), PLp.go hPL (by have := PLp.le hPL; omega) hkc (by omega) (by omega) rfl (by have y := (show S161.1 231 24 = (S30.1 231 24) + 3 from (gL161_ 24 rfl).trans (uF_on)); omega), by omega, (fun t t0 t1 => by rw [hV161 t t0 (by omega), smf_up (by omega) (by omega) hFz]), (fun k9 z9 => by unfold upf; rw [if_neg (by omega)]; exact hFz k9 (by omega))⟩) (fun z => absurd z (by omega)) hW hL (lv_sub hl [2, 1, 4] rfl)
                          · refine lv_aload_n hx hb dX12_pairs_170 rfl (lv_at hl 4 rfl) ?_
                            refine g_X12_169 Cx hW (k := 231) (by decide) rfl (v := .ref (G.2.2.1 + 283)) (rd_93 hI161) dX12_pairs_171 ?_
                            refine lv_aload_n hx hb dX12_pairs_174 rfl (lv_at hl 4 rfl) ?_
                            refine lv_iload_n hx hb dX12_pairs_175 rfl (lv_at hl 3 rfl) ?_
                            refine lv_iload hx hb dX12_pairs_176 (lv_at hl 0 rfl) ?_
                            refine sBi (sV (As := [.int (iv k3), .int (iv j)]) (rest := [.ref (G.2.2.1 + 283)]) (k := 231) Cx (s_X12_heldCell l G S161 (i := k3) (j := j) (by omega) (by omega)) (c_X12_735 Cx rfl rfl (rmk_ok (by omega) (by decide))) hW (by decide) rfl rfl rfl hl.1 rfl (Nat.le_of_ble_eq_true rfl) dX12_pairs_178 ⟨Nat.le_of_ble_eq_true rfl, Nat.le_of_ble_eq_true rfl⟩) hL (fun q0 u_36 H locs k_37 hW hL => ?_)
                            obtain ⟨eu_36, xu_36⟩ := k_37
                            rw [eu_36] at hW
                            refine lv_aload_n hx hb dX12_pairs_181 rfl (lv_at hl 4 rfl) ?_
                            refine g_X12_187 Cx hW (k := 231) (by decide) rfl (v := .ref (G.2.2.1 + 289)) (rd_99 hI161) dX12_pairs_182 ?_
                            refine lv_iconst (v := iv 0) hx hb dX12_pairs_185 (by decide) ?_
                            refine lv_aload_n hx hb dX12_pairs_186 rfl (lv_at hl 4 rfl) ?_
                            refine g_X12_26 Cx hW (k := 231) (by decide) rfl (v := .ref (G.2.2.1 + 237)) (rd_7 hI161) dX12_pairs_187 ?_
                            refine lv_iconst (v := iv 0) hx hb dX12_pairs_190 (by decide) ?_
                            refine sBv (sSt (As := [.ref (G.2.2.1 + 283), .int (iv q0), .ref (G.2.2.1 + 289), .int (iv 0), .ref (G.2.2.1 + 237), .int (iv 0)]) (rest := []) Cx (s_X12_multiply l G S161 (ka := 283) (po := q0) (kb := 289) (qo := 0) (kc := 237) (ro := 0) (Nka := 5460) (Nkb := 10) (Nkc := 68) (La := 8) (Lb := 7) hI161 ⟨rfl, by decide, by decide, by decide, rfl⟩ ⟨rfl, by decide, by decide, by decide, rfl⟩ ⟨rfl, by decide, by decide, by decide, rfl⟩ (show (237 : Nat) ≠ 289 by decide) (show (237 : Nat) ≠ 283 by decide) (by omega) (by rw [show S161.2.1 283 = S.2.1 283 from (funext fun j => ((hL161_ 283 rfl).2.1 j).trans ((uF_a).trans (((fu_21 283 rfl).2.1 j).trans (((fu_13 283 rfl).2.1 j).trans (((hL30_ 283 rfl).2.1 j).trans ((hL2_ 283 rfl).2.1 j)))))), show q0 = 10 * (13 * k3 + j) by omega]; exact hHA k3 j (by omega) (by omega) (by omega) (by omega)) (by rw [show S161.2.1 289 = u_21.2.1 289 from (funext fun j => ((hL161_ 289 rfl).2.1 j).trans (uF_a))]; exact xu_21.1)) (c_X12_548 Cx rfl rfl (rmk_ok (by omega) (by decide))) hW rfl hl.1 rfl (Nat.le_of_ble_eq_true rfl) dX12_pairs_191 ⟨Nat.le_of_ble_eq_true rfl, Nat.le_of_ble_eq_true rfl⟩) hL (fun u_38 H locs k_39 hW hL => ?_)
                            obtain ⟨iu_38, fu_38, xu_38⟩ := k_39
                            have F_40 := hFm161.trans (fu_38.to (p1_sub rfl))
                            have F_41 := hFL30161.trans (fu_38.to (p1_sub rfl))
                            have F_42 := hL161_.trans (fu_38.to (p1_sub rfl))
                            have g_43 : FF S u_38 (fl [24]) := FF.fr hGm161 fu_38 rfl
                            have g_44 : FF S2 u_38 (fl [24]) := FF.fr hGL30161 fu_38 rfl
                            have g_45 : FF ((uF u_21 231 24 ((S30.1 231 24) + 3))) u_38 (fl []) := FF.fr gL161_ fu_38 rfl
                            have nv_46 : nv (u_38.2.1 237) 0 = (RR k3 j) * (vp (S30.1 231 24 + 2)) := (by rw [xu_38.2.1, (show nv (S161.2.1 283) q0 = RR k3 j by rw [show S161.2.1 283 = S.2.1 283 from (funext fun j => ((hL161_ 283 rfl).2.1 j).trans ((uF_a).trans (((fu_21 283 rfl).2.1 j).trans (((fu_13 283 rfl).2.1 j).trans (((hL30_ 283 rfl).2.1 j).trans ((hL2_ 283 rfl).2.1 j))))))]; exact (by rw [show q0 = 10 * (13 * k3 + j) by omega]; exact hHR.2 k3 j (by omega) (by omega) (by omega) (by omega))), (show nv (S161.2.1 289) 0 = vp (S30.1 231 24 + 2) by rw [show S161.2.1 289 = u_21.2.1 289 from (funext fun j => ((hL161_ 289 rfl).2.1 j).trans (uF_a))]; exact nv_27)])
                            refine lv_aload_n hx hb dX12_pairs_194 rfl (lv_at hl 4 rfl) ?_
                            refine g_X12_172 Cx hW (k := 231) (by decide) rfl (v := .ref (G.2.2.1 + 284)) (rd_94 iu_38) dX12_pairs_195 ?_
                            refine lv_bipush (v := iv 40) hx hb dX12_pairs_198 (by decide) ?_
                            refine lv_iload hx hb dX12_pairs_200 (lv_at hl 0 rfl) ?_
                            refine r_imul hx hb dX12_pairs_202 ?_
                            refine lv_aload_n hx hb dX12_pairs_203 rfl (lv_at hl 4 rfl) ?_
                            refine g_X12_26 Cx hW (k := 231) (by decide) rfl (v := .ref (G.2.2.1 + 237)) (rd_7 iu_38) dX12_pairs_204 ?_
                            refine lv_iconst (v := iv 0) hx hb dX12_pairs_207 (by decide) ?_
                            refine lv_iconst (v := iv 0) hx hb dX12_pairs_208 (by decide) ?_
                            refine lv_aload_n hx hb dX12_pairs_209 rfl (lv_at hl 4 rfl) ?_
                            refine g_X12_172 Cx hW (k := 231) (by decide) rfl (v := .ref (G.2.2.1 + 284)) (rd_94 iu_38) dX12_pairs_210 ?_
                            refine lv_bipush (v := iv 40) hx hb dX12_pairs_213 (by decide) ?_
                            refine lv_iload hx hb dX12_pairs_215 (lv_at hl 0 rfl) ?_
                            refine r_imul hx hb dX12_pairs_217 ?_
                            refine sBv (sSt (As := [.ref (G.2.2.1 + 284), .int (iv (40 * j)), .ref (G.2.2.1 + 237), .int (iv 0), .int (iv 0), .ref (G.2.2.1 + 284), .int (iv (40 * j))]) (rest := []) Cx (s_X12_add l G u_38 (ka := 284) (po := 40 * j) (kb := 237) (qo := 0) (lz := 0) (kc := 284) (ro := 40 * j) (Nka := 520) (Nkb := 68) (Nkc := 520) (La := 16) (Lb := 15) (Lc := 17) iu_38 ⟨rfl, by decide, by decide, by decide, rfl⟩ ⟨rfl, by decide, by decide, by decide, rfl⟩ ⟨rfl, by decide, by decide, by decide, rfl⟩ (show (284 : Nat) ≠ 237 by decide) (fun _ => rfl) (by omega) (by omega) (by rw [show u_38.2.1 284 = S161.2.1 284 from (funext fun j => (fu_38 284 rfl).2.1 j)]; exact hN161 j (by omega) (by omega)) xu_38.1) (c_X12_249 Cx rfl rfl (rmk_ok (by omega) (by decide))) hW rfl hl.1 rfl (Nat.le_of_ble_eq_true rfl) dX12_pairs_218 ⟨Nat.le_of_ble_eq_true rfl, Nat.le_of_ble_eq_true rfl⟩) hL (fun u_47 H locs k_48 hW hL => ?_)
                            obtain ⟨iu_47, fu_47, xu_47⟩ := k_48
                            have F_49 := F_40.trans (fu_47.to (p1_sub rfl))
                            have F_50 := F_41.trans (fu_47.to (p1_sub rfl))
                            have F_51 := F_42.trans (fu_47.to (p1_sub rfl))
                            have g_52 : FF S u_47 (fl [24]) := FF.fr g_43 fu_47 rfl
                            have g_53 : FF S2 u_47 (fl [24]) := FF.fr g_44 fu_47 rfl
                            have g_54 : FF ((uF u_21 231 24 ((S30.1 231 24) + 3))) u_47 (fl []) := FF.fr g_45 fu_47 rfl
                            have nv_55 : nv (u_47.2.1 284) (40 * j) = nv (u_38.2.1 284) (40 * j) + ((RR k3 j) * (vp (S30.1 231 24 + 2))) := (by rw [xu_47.2.1, asn_0, (show nv (u_38.2.1 237) 0 = (RR k3 j) * (vp (S30.1 231 24 + 2)) from nv_46)])
                            refine lv_iinc (v := iv (j + 1)) (lv' := [(4, .int (iv (j + 1))), (1, .int (iv ok3)), (2, .int (iv k3)), (3, .int (iv k3)), (0, .ref (G.2.2.1 + 231))]) hx hb dX12_pairs_221 hl (k := 0) rfl ((Int32.ofInt_add _ _).symm) (by decide) rfl (fun ls hl => ?_)
                            refine lv_goto (tgt := 161) hx hb dX12_pairs_224 (by decide) ?_
                            exact ih_161 u_47 (j + 1) _ _ _ (by omega) iu_47 F_49 F_50 F_51 g_52 g_53 g_54 (by omega) (fun t t0 t1 => if z : t = j then (by rw [z]; have vj : nv (u_47.2.1 284) (40 * j) = nv (S161.2.1 284) (40 * j) + nv (u_38.2.1 237) 0 := (by rw [xu_47.2.1, asn_0, show u_38.2.1 284 = S161.2.1 284 from funext fun j => (fu_38 284 rfl).2.1 j]); have mb := nobd (n := 15) xu_38.1; have bj := pb1 (pv := pv) (k3 := k3) (P := pw 15) (a := nv (S161.2.1 284) (40 * j)) (b := nv (u_38.2.1 237) 0) (Int.le_of_lt (pw_pos 15)) (by omega) (hB161 j (by omega) (by omega)) ⟨Int.le_of_lt mb.1, Int.le_of_lt mb.2⟩; rw [← vj] at bj; exact noof (n := 16) xu_47.1 (pb2 (by omega) bj)) else ((hN161 t t0 t1).same (g := u_47.2.1 284) (fun x x0 x1 => (xu_47.2.2 x (by omega)).trans ((fu_38 284 rfl).2.1 x))).1) (fun t t0 t1 => if z : t = j then (by rw [z]; have vj : nv (u_47.2.1 284) (40 * j) = nv (S161.2.1 284) (40 * j) + nv (u_38.2.1 237) 0 := (by rw [xu_47.2.1, asn_0, show u_38.2.1 284 = S161.2.1 284 from funext fun j => (fu_38 284 rfl).2.1 j]); have mb := nobd (n := 15) xu_38.1; have bj := pb1 (pv := pv) (k3 := k3) (P := pw 15) (a := nv (S161.2.1 284) (40 * j)) (b := nv (u_38.2.1 237) 0) (Int.le_of_lt (pw_pos 15)) (by omega) (hB161 j (by omega) (by omega)) ⟨Int.le_of_lt mb.1, Int.le_of_lt mb.2⟩; rw [← vj] at bj; exact bj) else (by rw [((hN161 t t0 (by omega)).same (g := u_47.2.1 284) (fun x x0 x1 => (xu_47.2.2 x (by omega)).trans ((fu_38 284 rfl).2.1 x))).2]; exact hA161 t t0 (by omega))) (fun t t0 t1 => by rw [((hN161 t (by omega) t1).same (g := u_47.2.1 284) (fun x x0 x1 => (xu_47.2.2 x (by omega)).trans ((fu_38 284 rfl).2.1 x))).2]; exact hB161 t (by omega) t1) (fun t t0 t1 => if z : t = j then (by rw [z]; have vj : nv (u_47.2.1 284) (40 * j) = nv (S161.2.1 284) (40 * j) + nv (u_38.2.1 237) 0 := (by rw [xu_47.2.1, asn_0, show u_38.2.1 284 = S161.2.1 284 from funext fun j => (fu_38 284 rfl).2.1 j]); rw [vj, hW161 j (by omega) (by omega), (show nv (u_38.2.1 237) 0 = (RR k3 j) * (vp (S30.1 231 24 + 2)) from nv_46), Int.mul_comm (RR k3 j)]) else (by rw [((hN161 t t0 (by omega)).same (g := u_47.2.1 284) (fun x x0 x1 => (xu_47.2.2 x (by omega)).trans ((fu_38 284 rfl).2.1 x))).2]; exact hV161 t t0 (by omega))) (fun t t0 t1 => by rw [((hN161 t (by omega) (by omega)).same (g := u_47.2.1 284) (fun x x0 x1 => (xu_47.2.2 x (by omega)).trans ((fu_38 284 rfl).2.1 x))).2]; exact hW161 t (by omega) t1) hW hL (lv_sub hl [0, 1, 2, 3, 4] rfl)
                      exact loop_161 (_ + 1) (uF u_21 231 24 ((S30.1 231 24) + 3)) 0 _ _ _ (Nat.lt_succ_self _) i_32 F_28 F_29 Fr.rf g_30 g_31 FF.rf (by omega) (fun t t0 t1 => by rw [show (uF u_21 231 24 ((S30.1 231 24) + 3)).2.1 284 = S30.2.1 284 from (funext fun j => (uF_a).trans (((fu_21 284 rfl).2.1 j).trans ((fu_13 284 rfl).2.1 j)))]; exact hN30 t t0 t1) (fun t a b => absurd b (by omega)) (fun t t0 t1 => by rw [show (uF u_21 231 24 ((S30.1 231 24) + 3)).2.1 284 = S30.2.1 284 from (funext fun j => (uF_a).trans (((fu_21 284 rfl).2.1 j).trans ((fu_13 284 rfl).2.1 j)))]; exact hB30 (by omega) t t0 t1) (fun t a b => absurd b (by omega)) (fun t t0 t1 => by rw [show (uF u_21 231 24 ((S30.1 231 24) + 3)).2.1 284 = S30.2.1 284 from (funext fun j => (uF_a).trans (((fu_21 284 rfl).2.1 j).trans ((fu_13 284 rfl).2.1 j)))]; exact hSv t t0 t1) hW hL (lv_sub hl [0, 1, 2, 3, 4] rfl)
                    · refine lv_goto (tgt := 30) hx hb dX12_pairs_155 (by decide) ?_
                      have lk_56 : (uF u_21 231 24 ((S30.1 231 24) + 3)).1 231 24 = (S30.1 231 24) + 3 := uF_on
                      exact ih_30 (uF u_21 231 24 ((S30.1 231 24) + 3)) k3 ok3 _ _ _ (by omega) i_32 F_28 F_29 g_30 g_31 (by omega) (by have y3 := (show (uF u_21 231 24 ((S30.1 231 24) + 3)).1 231 24 = (S30.1 231 24) + 3 from uF_on); have y2 := PGi.kt hpg2 hKT; omega) (by rw [(show (uF u_21 231 24 ((S30.1 231 24) + 3)).1 231 24 = (S30.1 231 24) + 3 from uF_on)]; exact hpg2) (fun t t0 t1 => by rw [show (uF u_21 231 24 ((S30.1 231 24) + 3)).2.1 284 = S30.2.1 284 from (funext fun j => (uF_a).trans (((fu_21 284 rfl).2.1 j).trans ((fu_13 284 rfl).2.1 j)))]; exact hN30 t t0 t1) (fun z => absurd z (by omega)) (fun z => absurd z (by omega)) (fun _ => by by_cases q : ok = 0; (exact hZ30 q); (obtain ⟨i9, ff, hPL, _, _, _⟩ := hP30 (by omega); exact hPL.bad hkc (by omega))) hW hL (lv_sub hl [1, 0, 3] rfl)
                  refine lv_iload_n hx hb dX12_pairs_122 rfl (lv_at hl 1 rfl) ?_
                  refine r_if_eq (tgt := 139) hx hb ⟨(by omega), (by omega)⟩ dX12_pairs_123 (by decide) (fun c_57 => ?_) (fun c_57 => ?_)
                  · refine lv_iconst (v := iv 0) hx hb dX12_pairs_139 (by decide) ?_
                    exact join_140 0 _ _ _ (by omega) hW hL (lv_sub hl [0, 1, 2, 3] rfl)
                  · refine lv_aload_n hx hb dX12_pairs_126 rfl (lv_at hl 3 rfl) ?_
                    refine g_X12_187 Cx hW (k := 231) (by decide) rfl (v := .ref (G.2.2.1 + 289)) (rd_99 iu_21) dX12_pairs_127 ?_
                    refine lv_iconst (v := iv 0) hx hb dX12_pairs_130 (by decide) ?_
                    refine rIald Cx hW (k := 289) (by decide) rfl (by decide) (by omega) (by omega) dX12_pairs_131 ?_
                    have q_58 : (-2147483648) ≤ u_21.2.1 289 0 ∧ u_21.2.1 289 0 ≤ 2147483647 := iu_21.ai 289 0
                    refine r_i (b := u_21.2.1 289 0) rfl ?_
                    refine r_if_lt (tgt := 139) hx hb ⟨(by omega), (by omega)⟩ dX12_pairs_132 (by decide) (fun c_59 => ?_) (fun c_59 => ?_)
                    · refine lv_iconst (v := iv 0) hx hb dX12_pairs_139 (by decide) ?_
                      exact join_140 0 _ _ _ (by omega) hW hL (lv_sub hl [0, 1, 2, 3] rfl)
                    · refine lv_iconst (v := iv 1) hx hb dX12_pairs_135 (by decide) ?_
                      refine lv_goto (tgt := 140) hx hb dX12_pairs_136 (by decide) ?_
                      exact join_140 1 _ _ _ (by omega) hW hL (lv_sub hl [0, 1, 2, 3] rfl)
                refine lv_iload_n hx hb dX12_pairs_90 rfl (lv_at hl 2 rfl) ?_
                refine r_if_eq (tgt := 103) hx hb ⟨(by omega), (by omega)⟩ dX12_pairs_91 (by decide) (fun c_60 => ?_) (fun c_60 => ?_)
                · refine lv_iconst (v := iv 0) hx hb dX12_pairs_103 (by decide) ?_
                  exact join_104 0 _ _ _ (by omega) hW hL (lv_sub hl [0, 1, 2, 3] rfl)
                · refine lv_iload_n hx hb dX12_pairs_94 rfl (lv_at hl 0 rfl) ?_
                  refine lv_iload_n hx hb dX12_pairs_95 rfl (lv_at hl 1 rfl) ?_
                  refine r_icmp_le (tgt := 103) hx hb ⟨(by omega), (by omega)⟩ ⟨(by omega), (by omega)⟩ dX12_pairs_96 (by decide) (fun c_61 => ?_) (fun c_61 => ?_)
                  · refine lv_iconst (v := iv 0) hx hb dX12_pairs_103 (by decide) ?_
                    exact join_104 0 _ _ _ (by omega) hW hL (lv_sub hl [0, 1, 2, 3] rfl)
                  · refine lv_iconst (v := iv 1) hx hb dX12_pairs_99 (by decide) ?_
                    refine lv_goto (tgt := 104) hx hb dX12_pairs_100 (by decide) ?_
                    exact join_104 1 _ _ _ (by omega) hW hL (lv_sub hl [0, 1, 2, 3] rfl)
              refine lv_aload_n hx hb dX12_pairs_56 rfl (lv_at hl 2 rfl) ?_
              refine g_X12_187 Cx hW (k := 231) (by decide) rfl (v := .ref (G.2.2.1 + 289)) (rd_99 iu_13) dX12_pairs_57 ?_
              refine lv_iconst (v := iv 0) hx hb dX12_pairs_60 (by decide) ?_
              refine rIald Cx hW (k := 289) (by decide) rfl (by decide) (by omega) (by omega) dX12_pairs_61 ?_
              have q_62 : (-2147483648) ≤ u_13.2.1 289 0 ∧ u_13.2.1 289 0 ≤ 2147483647 := iu_13.ai 289 0
              refine r_i (b := u_13.2.1 289 0) rfl ?_
              refine lv_iconst (v := iv 1) hx hb dX12_pairs_62 (by decide) ?_
              refine r_icmp_ne (tgt := 88) hx hb ⟨(by omega), (by omega)⟩ ⟨(by omega), (by omega)⟩ dX12_pairs_63 (by decide) (fun c_63 => ?_) (fun c_63 => ?_)
              · refine lv_iconst (v := iv 0) hx hb dX12_pairs_88 (by decide) ?_
                exact join_89 0 _ _ _ (by omega) (by omega) hW hL (lv_sub hl [0, 1, 2] rfl)
              · have haln1 : al (u_13.2.1 289) 0 = 1 := by unfold al; rw [if_neg (by omega)]; omega
                have hlbn1 := xu_13.1.2.1 1 (by omega) (by rw [haln1]; omega)
                refine lv_aload_n hx hb dX12_pairs_66 rfl (lv_at hl 2 rfl) ?_
                refine g_X12_187 Cx hW (k := 231) (by decide) rfl (v := .ref (G.2.2.1 + 289)) (rd_99 iu_13) dX12_pairs_67 ?_
                refine lv_iconst (v := iv 1) hx hb dX12_pairs_70 (by decide) ?_
                refine rIald Cx hW (k := 289) (by decide) rfl (by decide) (by omega) (by omega) dX12_pairs_71 ?_
                have q_64 : (-2147483648) ≤ u_13.2.1 289 1 ∧ u_13.2.1 289 1 ≤ 2147483647 := iu_13.ai 289 1
                refine r_i (b := u_13.2.1 289 1) rfl ?_
                refine lv_aload_n hx hb dX12_pairs_72 rfl (lv_at hl 2 rfl) ?_
                have q_65 : (-2147483648) ≤ S.1 231 100 ∧ S.1 231 100 ≤ 2147483647 := hI.fi 100
                refine g_X12_738 Cx hW (k := 231) (by decide) rfl (v := S.1 231 100) ((gu_13 100 rfl).trans ((gL30_ 100 rfl).trans (gL2_ 100 rfl))) dX12_pairs_73 ?_
                refine r_icmp_gt (tgt := 88) hx hb ⟨(by omega), (by omega)⟩ ⟨(by omega), (by omega)⟩ dX12_pairs_76 (by decide) (fun c_66 => ?_) (fun c_66 => ?_)
                · refine lv_iconst (v := iv 0) hx hb dX12_pairs_88 (by decide) ?_
                  exact join_89 0 _ _ _ (by omega) (by omega) hW hL (lv_sub hl [0, 1, 2] rfl)
                · refine lv_aload_n hx hb dX12_pairs_79 rfl (lv_at hl 2 rfl) ?_
                  refine g_X12_187 Cx hW (k := 231) (by decide) rfl (v := .ref (G.2.2.1 + 289)) (rd_99 iu_13) dX12_pairs_80 ?_
                  refine lv_iconst (v := iv 1) hx hb dX12_pairs_83 (by decide) ?_
                  refine rIald Cx hW (k := 289) (by decide) rfl (by decide) (by omega) (by omega) dX12_pairs_84 ?_
                  refine r_i (b := u_13.2.1 289 1) rfl ?_
                  refine lv_goto (tgt := 89) hx hb dX12_pairs_85 (by decide) ?_
                  exact join_89 (u_13.2.1 289 1) _ _ _ (by omega) (by omega) hW hL (lv_sub hl [0, 1, 2] rfl)
        have q_67 : (-2147483648) ≤ S.1 231 24 ∧ S.1 231 24 ≤ 2147483647 := hI.fi 24
        have lk_68 : S2.1 231 24 = S.1 231 24 := gL2_ 24 rfl
        exact loop_30 (_ + 1) S2 0 1 _ _ _ (Nat.lt_succ_self _) hI2 hFm2 Fr.rf hGm2 FF.rf (by omega) (by have y := gPr_le _ _ _ hge; have y3 := (show S2.1 231 24 = S.1 231 24 from gL2_ 24 rfl); have y2 := gPr_kt hge hKT; omega) (by rw [(show S2.1 231 24 = S.1 231 24 from gL2_ 24 rfl), hc]; exact ⟨_, hge⟩) (fun t t0 t1 => NO_z (hz2 t t0 (by omega)) (by omega)) (fun _ t t0 t1 => by rw [nvz0 (hz2 t t0 (by omega)), Int.zero_mul]; omega) (fun _ => ⟨0, (fun _ => 0), (by rw [(show S2.1 231 24 = S.1 231 24 from gL2_ 24 rfl), hc]; exact PLp.in hge rfl), by omega, (fun t t0 t1 => (nvz0 (hz2 t t0 (by omega))).trans rfl), fun _ _ => rfl⟩) (fun z => absurd z (by omega)) hW hL (lv_sub hl [0, 1, 2] rfl)
      · refine lv_aload_n hx hb dX12_pairs_10 rfl (lv_at hl 1 rfl) ?_
        refine g_X12_172 Cx hW (k := 231) (by decide) rfl (v := .ref (G.2.2.1 + 284)) (rd_94 hI2) dX12_pairs_11 ?_
        refine lv_bipush (v := iv 40) hx hb dX12_pairs_14 (by decide) ?_
        refine lv_iload_n hx hb dX12_pairs_16 rfl (lv_at hl 0 rfl) ?_
        refine r_imul hx hb dX12_pairs_17 ?_
        refine lv_iconst (v := iv 0) hx hb dX12_pairs_18 (by decide) ?_
        refine rIast Cx hW hL (k := 284) (by decide) rfl (by decide) (by omega) (by omega) dX12_pairs_19 (fun H locs hW hL => ?_)
        have F_69 : Fr S (uA S2 284 (40 * i) 0) (pl [231, 237, 284, 289]) := hFm2.A rfl
        have F_70 : Fr S (uA S2 284 (40 * i) 0) (pl [284]) := hL2_.A rfl
        have i_71 : dX G (uA S2 284 (40 * i) 0) := hI2.A (k := 284) (show (-2147483648) ≤ 0 ∧ 0 ≤ 2147483647 from ⟨by omega, by omega⟩)
        refine lv_iinc (v := iv (i + 1)) (lv' := [(1, .int (iv (i + 1))), (0, .ref (G.2.2.1 + 231))]) hx hb dX12_pairs_20 hl (k := 0) rfl ((Int32.ofInt_add _ _).symm) (by decide) rfl (fun ls hl => ?_)
        refine lv_goto (tgt := 2) hx hb dX12_pairs_23 (by decide) ?_
        exact ih_2 (uA S2 284 (40 * i) 0) (i + 1) _ _ _ (by omega) i_71 F_69 F_70 hGm2 gL2_ (by omega) (fun t a b => by rw [uA_get]; split; rfl; rename_i z; exact hz2 t a (by omega)) hW hL (lv_sub hl [0, 1] rfl)
  exact loop_2 (_ + 1) S 0 _ _ _ (Nat.lt_succ_self _) hI (Fr.rf : Fr S S (pl [231, 237, 284, 289])) Fr.rf FF.rf FF.rf (by omega) (fun t a b => absurd b (by omega)) hW hL (lv_sub hl [0, 1] rfl)
