set_option maxRecDepth 100000 in
set_option maxHeartbeats 4000000 in
theorem s_X12_trees (l : Launch) (G : sG) (S : sS) {K Xt Fm Wd Vt : Int → Int} {T : Int} {bb pz q : Int} (hI : dX G S) (hK : S.2.1 244 = K) (hX : S.2.1 243 = Xt) (hFm : S.2.1 245 = Fm) (hWd : S.2.1 246 = Wd) (hVt : S.2.1 247 = Vt) (hQ : Hd (∀ t, 0 ≤ t → t < T → K t = 2 → nTk Xt Fm Wd Vt t)) (hbb : 0 ≤ bb ∧ bb ≤ 1) (hm : 0 ≤ S.1 231 46 ∧ S.1 231 46 ≤ 12) (hm2 : 0 ≤ S.1 231 47 ∧ S.1 231 47 ≤ 16) (hHA : dHA S) (hUP : dUP S) (hGM : GM S) (hMD : MD S) (hc : S.1 231 24 = pz) (hg : gTt K Vt 1 pz q) (hpq : 0 ≤ pz ∧ q ≤ T - 1 ∧ T ≤ 30001) (h20 : S.1 231 20 = 0) : Met l yX12_trees (.code yX12_trees cX12_trees 7 none :: tb) (rmk 7 0 0) (sPc G 294 S [.ref (G.2.2.1 + 231), .int (iv bb)]) (sQv G 294 (fun u => dX G u ∧ Fr S u (pl [231, 233, 234, 235, 237, 238, 240, 277, 283, 284, 288, 289, 291, 292, 293]) ∧ FF S u (fl [20, 21, 24, 100]) ∧ (dHA u))) 0 0 (sF G) := by
  refine sEnter (by decide) (Nat.le_of_ble_eq_true rfl) ?_
  intro p e s m args below meth c Cx hr hlk hnm hW ls hl
  have Cx : sC G p m c cX12_trees 7 s args RX12 := Cx
  obtain ⟨hx, hb, hml, hown, hts⟩ := id Cx.1
  have hL : sL G [] := sL_nil
  have hl : lv_has ls 7 [(0, .ref (G.2.2.1 + 231)), (1, .int (iv bb))] := hl
  have hW0 := hW
  refine lv_iconst (v := iv 1) hx hb dX12_trees_0 (by decide) ?_
  refine lv_istore_n (lv' := [(2, .int (iv 1)), (0, .ref (G.2.2.1 + 231)), (1, .int (iv bb))]) hx hb dX12_trees_1 rfl hl (by decide) rfl (fun ls hl => ?_)
  have loop_2 : ∀ (fuel : Nat) (S2 : sS) (i : Int) (H : Heap) (locs : List Loc) (ls : Array Slot), (S.1 231 47 + 1 - i).toNat < fuel → (dX G S2) → (Fr S S2 (pl [231, 233, 234, 235, 237, 238, 240, 277, 283, 284, 288, 289, 291, 292, 293])) → (Fr S S2 (pl [283])) → (FF S S2 (fl [20, 21, 24, 100])) → (FF S S2 (fl [])) → (1 ≤ i ∧ i ≤ S.1 231 47 + 1) → (dHA S2) → sW G 294 S2 H → sL G locs → lv_has ls 7 [(2, .int (iv i)), (0, .ref (G.2.2.1 + 231)), (1, .int (iv bb))] → W p l e (rmk 7 0 0) s m args below meth c H locs 0 0 (MQ below (sQv G 294 (fun u => dX G u ∧ Fr S u (pl [231, 233, 234, 235, 237, 238, 240, 277, 283, 284, 288, 289, 291, 292, 293]) ∧ FF S u (fl [20, 21, 24, 100]) ∧ (dHA u))) args s 0 0 (sF G)) (F0 m 2 ls []) := by
    intro fuel
    induction fuel with
    | zero => intro S2 i H locs ls hmeas hI2 hFm2 hL2_ hGm2 gL2_ hi hA2 hW hL hl; exact absurd hmeas (Nat.not_lt_zero _)
    | succ fuel ih_2 =>
      intro S2 i H locs ls hmeas hI2 hFm2 hL2_ hGm2 gL2_ hi hA2 hW hL hl
      refine lv_iload_n hx hb dX12_trees_2 rfl (lv_at hl 0 rfl) ?_
      refine lv_aload_n hx hb dX12_trees_3 rfl (lv_at hl 1 rfl) ?_
      have q_1 : (-2147483648) ≤ S.1 231 47 ∧ S.1 231 47 ≤ 2147483647 := hI.fi 47
      refine g_X12_468 Cx hW (k := 231) (by decide) rfl (v := S.1 231 47) (gL2_ 47 rfl) dX12_trees_4 ?_
      refine r_icmp_gt (tgt := 56) hx hb ⟨(by omega), (by omega)⟩ ⟨(by omega), (by omega)⟩ dX12_trees_7 (by decide) (fun c_2 => ?_) (fun c_2 => ?_)
      · refine lv_aload_n hx hb dX12_trees_56 rfl (lv_at hl 1 rfl) ?_
        refine lv_aload_n hx hb dX12_trees_57 rfl (lv_at hl 1 rfl) ?_
        refine g_X12_468 Cx hW (k := 231) (by decide) rfl (v := S.1 231 47) (gL2_ 47 rfl) dX12_trees_58 ?_
        refine p_X12_738 Cx hW hL (k := 231) (by decide) rfl dX12_trees_61 (fun H locs hW hL => ?_)
        have F_3 : Fr S (uF S2 231 100 (S.1 231 47)) (pl [231, 233, 234, 235, 237, 238, 240, 277, 283, 284, 288, 289, 291, 292, 293]) := hFm2.F rfl
        have g_4 : FF S (uF S2 231 100 (S.1 231 47)) (fl [20, 21, 24, 100]) := FF.F hGm2 rfl
        have i_5 : dX G (uF S2 231 100 (S.1 231 47)) := hI2.F (i := 100) (show (-2147483648) ≤ S.1 231 47 ∧ S.1 231 47 ≤ 2147483647 from ⟨by omega, by omega⟩)
        refine lv_iconst (v := iv 0) hx hb dX12_trees_64 (by decide) ?_
        refine lv_istore_n (lv' := [(2, .int (iv 0)), (0, .ref (G.2.2.1 + 231)), (1, .int (iv bb))]) hx hb dX12_trees_65 rfl hl (by decide) rfl (fun ls hl => ?_)
        refine lv_iconst (v := iv 0) hx hb dX12_trees_66 (by decide) ?_
        refine lv_istore_n (lv' := [(3, .int (iv 0)), (2, .int (iv 0)), (0, .ref (G.2.2.1 + 231)), (1, .int (iv bb))]) hx hb dX12_trees_67 rfl hl (by decide) rfl (fun ls hl => ?_)
        have loop_68 : ∀ (fuel : Nat) (S68 : sS) (it : Int) (wt : Int) (H : Heap) (locs : List Loc) (ls : Array Slot), (3000 - it).toNat < fuel → (dX G S68) → (Fr S S68 (pl [231, 233, 234, 235, 237, 238, 240, 277, 283, 284, 288, 289, 291, 292, 293])) → (Fr ((uF S2 231 100 (S.1 231 47))) S68 (pl [231, 233, 234, 235, 237, 238, 240, 277, 283, 284, 288, 289, 291, 292, 293])) → (FF S S68 (fl [20, 21, 24, 100])) → (FF ((uF S2 231 100 (S.1 231 47))) S68 (fl [20, 21, 24, 100])) → (0 ≤ wt ∧ wt ≤ it ∧ it ≤ 3000 ∧ 0 ≤ S68.1 231 100 ∧ S68.1 231 100 ≤ 40) → (dHA S68) → (Hd (S68.1 231 20 = 0 → gTt K Vt (wt + 1) (S68.1 231 24) q)) → (Hd (S68.1 231 20 = 0 → 0 ≤ S68.1 231 24)) → (∀ i, 0 ≤ i → i < wt → (0 ≤ S68.2.1 291 i ∧ S68.2.1 291 i ≤ 39) ∧ (0 ≤ S68.2.1 292 i ∧ S68.2.1 292 i ≤ S.1 231 46) ∧ (0 ≤ S68.2.1 293 i ∧ S68.2.1 293 i < T) ∧ K (S68.2.1 293 i) = 2) → sW G 294 S68 H → sL G locs → lv_has ls 7 [(3, .int (iv it)), (2, .int (iv wt)), (0, .ref (G.2.2.1 + 231)), (1, .int (iv bb))] → W p l e (rmk 7 0 0) s m args below meth c H locs 0 0 (MQ below (sQv G 294 (fun u => dX G u ∧ Fr S u (pl [231, 233, 234, 235, 237, 238, 240, 277, 283, 284, 288, 289, 291, 292, 293]) ∧ FF S u (fl [20, 21, 24, 100]) ∧ (dHA u))) args s 0 0 (sF G)) (F0 m 68 ls []) := by
          intro fuel
          induction fuel with
          | zero => intro S68 it wt H locs ls hmeas hI68 hFm68 hL68_ hGm68 gL68_ hwt hA68 hG68 hc68 hW68 hW hL hl; exact absurd hmeas (Nat.not_lt_zero _)
          | succ fuel ih_68 =>
            intro S68 it wt H locs ls hmeas hI68 hFm68 hL68_ hGm68 gL68_ hwt hA68 hG68 hc68 hW68 hW hL hl
            refine lv_aload_n hx hb dX12_trees_68 rfl (lv_at hl 2 rfl) ?_
            have q_6 : (-2147483648) ≤ S68.1 231 20 ∧ S68.1 231 20 ≤ 2147483647 := hI68.fi 20
            refine g_X12_270 Cx hW (k := 231) (by decide) rfl (v := S68.1 231 20) rfl dX12_trees_69 ?_
            refine r_if_ne (tgt := 423) hx hb ⟨(by omega), (by omega)⟩ dX12_trees_72 (by decide) (fun c_7 => ?_) (fun c_7 => ?_)
            · exact sVret Cx hr hlk hW hL ⟨hI68, hFm68, hGm68, hA68⟩ dX12_trees_423
            · have hc8 := hc68 (by omega)
              refine lv_aload_n hx hb dX12_trees_75 rfl (lv_at hl 2 rfl) ?_
              have q_8 : (-2147483648) ≤ S68.1 231 24 ∧ S68.1 231 24 ≤ 2147483647 := hI68.fi 24
              refine g_X12_315 Cx hW (k := 231) (by decide) rfl (v := S68.1 231 24) rfl dX12_trees_76 ?_
              refine lv_istore (lv' := [(4, .int (iv (S68.1 231 24))), (3, .int (iv it)), (2, .int (iv wt)), (0, .ref (G.2.2.1 + 231)), (1, .int (iv bb))]) hx hb dX12_trees_79 hl (by decide) rfl (fun ls hl => ?_)
              have hg8 := hG68 (by omega)
              have hle8 := gTt_le hg8
              have hiv := gTt.inv hg8 (by omega)
              refine lv_aload_n hx hb dX12_trees_81 rfl (lv_at hl 3 rfl) ?_
              refine g_X12_56 Cx hW (k := 231) (by decide) rfl (v := .ref (G.2.2.1 + 247)) (rd_18 hI68) dX12_trees_82 ?_
              refine lv_iload hx hb dX12_trees_85 (lv_at hl 0 rfl) ?_
              refine rIald Cx hW (k := 247) (by decide) rfl (by decide) (by omega) (by omega) dX12_trees_87 ?_
              have q_9 : (-2147483648) ≤ S.2.1 247 (S68.1 231 24) ∧ S.2.1 247 (S68.1 231 24) ≤ 2147483647 := hI.ai 247 (S68.1 231 24)
              refine r_i (b := S.2.1 247 (S68.1 231 24)) (((hL68_ 247 rfl).2.1 (S68.1 231 24)).trans ((uF_a).trans ((hL2_ 247 rfl).2.1 (S68.1 231 24)))) ?_
              have hr2 : Vt (S68.1 231 24) = S.2.1 247 (S68.1 231 24) := by rw [← hVt]
              refine lv_istore (lv' := [(5, .int (iv (S.2.1 247 (S68.1 231 24)))), (4, .int (iv (S68.1 231 24))), (3, .int (iv it)), (2, .int (iv wt)), (0, .ref (G.2.2.1 + 231)), (1, .int (iv bb))]) hx hb dX12_trees_88 hl (by decide) rfl (fun ls hl => ?_)
              refine lv_iinc (v := iv (it + 1)) (lv' := [(3, .int (iv (it + 1))), (5, .int (iv (S.2.1 247 (S68.1 231 24)))), (4, .int (iv (S68.1 231 24))), (2, .int (iv wt)), (0, .ref (G.2.2.1 + 231)), (1, .int (iv bb))]) hx hb dX12_trees_90 hl (k := 2) rfl ((Int32.ofInt_add _ _).symm) (by decide) rfl (fun ls hl => ?_)
              refine lv_iload_n hx hb dX12_trees_93 rfl (lv_at hl 0 rfl) ?_
              refine lv_sipush (v := iv 3000) hx hb dX12_trees_94 (by decide) ?_
              refine r_icmp_le (tgt := 109) hx hb ⟨(by omega), (by omega)⟩ ⟨(by omega), (by omega)⟩ dX12_trees_97 (by decide) (fun c_10 => ?_) (fun c_10 => ?_)
              · refine lv_iload hx hb dX12_trees_109 (lv_at hl 1 rfl) ?_
                refine lv_iconst (v := iv 5) hx hb dX12_trees_111 (by decide) ?_
                refine r_icmp_ne (tgt := 232) hx hb ⟨(by omega), (by omega)⟩ ⟨(by omega), (by omega)⟩ dX12_trees_112 (by decide) (fun c_11 => ?_) (fun c_11 => ?_)
                · obtain ⟨h6, a, hga, ed, hgt, hsem, htt⟩ := hiv.2.resolve_left (fun h => by have := h.1; omega)
                  have hga2 := hga.2
                  have hle9 := gTt_le htt
                  have hle7 := gTl_le (R := gPnE K Vt) (fun c x r => by have := r.2.2; omega) hgt
                  have hv1 : Vt (S68.1 231 24 + 1) = 1 := by have y := (hQ (S68.1 231 24 + 1) (by omega) (by omega) hga.1.1).2.1; have y2 := hga.1.2; omega
                  have hlf : True ∧ gTt K Vt (if Vt (S68.1 231 24) = 6 then wt + 1 else wt + 1 - 1) (ed + 1) q := ⟨trivial, htt⟩
                  refine lv_aload_n hx hb dX12_trees_232 rfl (lv_at hl 4 rfl) ?_
                  refine lv_iload hx hb dX12_trees_233 (lv_at hl 2 rfl) ?_
                  refine lv_iconst (v := iv 1) hx hb dX12_trees_235 (by decide) ?_
                  refine r_iadd hx hb dX12_trees_236 ?_
                  refine lv_aload_n hx hb dX12_trees_237 rfl (lv_at hl 4 rfl) ?_
                  refine g_X12_184 Cx hW (k := 231) (by decide) rfl (v := .ref (G.2.2.1 + 288)) (rd_98 hI68) dX12_trees_238 ?_
                  refine lv_iconst (v := iv 0) hx hb dX12_trees_241 (by decide) ?_
                  refine sBv (sV (As := [.int (iv ((S68.1 231 24) + 1)), .ref (G.2.2.1 + 288), .int (iv 0)]) (rest := []) (k := 231) Cx (s_X12_numberAt l G S68 (tk := (S68.1 231 24) + 1) (ka := 288) (po := 0) (Nka := 10) (Xt := Xt) (Fm := Fm) (Wd := Wd) (Vt := Vt) hI68 ⟨rfl, by decide, by decide, by decide, rfl⟩ (show (288 : Nat) ≠ 243 by decide) (show (288 : Nat) ≠ 245 by decide) (show (288 : Nat) ≠ 246 by decide) (show (288 : Nat) ≠ 247 by decide) ((funext fun j => ((hL68_ 243 rfl).2.1 j).trans ((uF_a).trans ((hL2_ 243 rfl).2.1 j)) : S68.2.1 243 = S.2.1 243).trans hX) ((funext fun j => ((hL68_ 245 rfl).2.1 j).trans ((uF_a).trans ((hL2_ 245 rfl).2.1 j)) : S68.2.1 245 = S.2.1 245).trans hFm) ((funext fun j => ((hL68_ 246 rfl).2.1 j).trans ((uF_a).trans ((hL2_ 246 rfl).2.1 j)) : S68.2.1 246 = S.2.1 246).trans hWd) ((funext fun j => ((hL68_ 247 rfl).2.1 j).trans ((uF_a).trans ((hL2_ 247 rfl).2.1 j)) : S68.2.1 247 = S.2.1 247).trans hVt) (hQ _ (by omega) (by omega) hga.1.1) (by omega) (by omega)) (c_X12_703 Cx rfl rfl (rmk_ok (by omega) (by decide))) hW (by decide) rfl rfl rfl hl.1 rfl (Nat.le_of_ble_eq_true rfl) dX12_trees_242 ⟨Nat.le_of_ble_eq_true rfl, Nat.le_of_ble_eq_true rfl⟩) hL (fun u_12 H locs k_13 hW hL => ?_)
                  obtain ⟨iu_12, fu_12, gu_12, xu_12⟩ := k_13
                  have F_14 := hFm68.trans (fu_12.to (pl_sub (by decide)))
                  have F_15 := hL68_.trans (fu_12.to (pl_sub (by decide)))
                  have g_16 : FF S u_12 (fl [20, 21, 24, 100]) := FF.trans hGm68 (FF.to gu_12 (fl_sub (by decide)))
                  have g_17 : FF ((uF S2 231 100 (S.1 231 47))) u_12 (fl [20, 21, 24, 100]) := FF.trans gL68_ (FF.to gu_12 (fl_sub (by decide)))
                  refine lv_aload_n hx hb dX12_trees_245 rfl (lv_at hl 4 rfl) ?_
                  refine lv_iload hx hb dX12_trees_246 (lv_at hl 2 rfl) ?_
                  refine lv_iconst (v := iv 2) hx hb dX12_trees_248 (by decide) ?_
                  refine r_iadd hx hb dX12_trees_249 ?_
                  refine p_X12_315 Cx hW hL (k := 231) (by decide) rfl dX12_trees_250 (fun H locs hW hL => ?_)
                  have F_18 : Fr S (uF u_12 231 24 ((S68.1 231 24) + 2)) (pl [231, 233, 234, 235, 237, 238, 240, 277, 283, 284, 288, 289, 291, 292, 293]) := F_14.F rfl
                  have F_19 : Fr ((uF S2 231 100 (S.1 231 47))) (uF u_12 231 24 ((S68.1 231 24) + 2)) (pl [231, 233, 234, 235, 237, 238, 240, 277, 283, 284, 288, 289, 291, 292, 293]) := F_15.F rfl
                  have g_20 : FF S (uF u_12 231 24 ((S68.1 231 24) + 2)) (fl [20, 21, 24, 100]) := FF.F g_16 rfl
                  have g_21 : FF ((uF S2 231 100 (S.1 231 47))) (uF u_12 231 24 ((S68.1 231 24) + 2)) (fl [20, 21, 24, 100]) := FF.F g_17 rfl
                  have i_22 : dX G (uF u_12 231 24 ((S68.1 231 24) + 2)) := iu_12.F (i := 24) (show (-2147483648) ≤ (S68.1 231 24) + 2 ∧ (S68.1 231 24) + 2 ≤ 2147483647 from ⟨by omega, by omega⟩)
                  refine lv_aload_n hx hb dX12_trees_253 rfl (lv_at hl 4 rfl) ?_
                  have q_23 : (-2147483648) ≤ S.1 231 46 ∧ S.1 231 46 ≤ 2147483647 := hI.fi 46
                  have lk_24 : (uF u_12 231 24 ((S68.1 231 24) + 2)).1 231 46 = S.1 231 46 := (uF_ne (fun h => absurd h.2 (by decide))).trans ((gu_12 46 rfl).trans ((gL68_ 46 rfl).trans ((uF_ne (fun h => absurd h.2 (by decide))).trans (gL2_ 46 rfl))))
                  have q_25 : (-2147483648) ≤ S68.1 231 100 ∧ S68.1 231 100 ≤ 2147483647 := hI68.fi 100
                  have lk_26 : (uF u_12 231 24 ((S68.1 231 24) + 2)).1 231 100 = S68.1 231 100 := (uF_ne (fun h => absurd h.2 (by decide))).trans (gu_12 100 rfl)
                  have lk_27 : (uF u_12 231 24 ((S68.1 231 24) + 2)).1 231 24 = (S68.1 231 24) + 2 := uF_on
                  refine sBi (sV (As := []) (rest := []) (k := 231) Cx (s_X12_pairs l G (uF u_12 231 24 ((S68.1 231 24) + 2)) (Xt := Xt) (Fm := Fm) (Wd := Wd) (Vt := Vt) (K := K) (T := T) (pz := (S68.1 231 24) + 2) (ed := ed) i_22 ((funext fun j => (uF_a).trans (((fu_12 244 rfl).2.1 j).trans (((hL68_ 244 rfl).2.1 j).trans ((uF_a).trans ((hL2_ 244 rfl).2.1 j)))) : (uF u_12 231 24 ((S68.1 231 24) + 2)).2.1 244 = S.2.1 244).trans hK) ((funext fun j => (uF_a).trans (((fu_12 243 rfl).2.1 j).trans (((hL68_ 243 rfl).2.1 j).trans ((uF_a).trans ((hL2_ 243 rfl).2.1 j)))) : (uF u_12 231 24 ((S68.1 231 24) + 2)).2.1 243 = S.2.1 243).trans hX) ((funext fun j => (uF_a).trans (((fu_12 245 rfl).2.1 j).trans (((hL68_ 245 rfl).2.1 j).trans ((uF_a).trans ((hL2_ 245 rfl).2.1 j)))) : (uF u_12 231 24 ((S68.1 231 24) + 2)).2.1 245 = S.2.1 245).trans hFm) ((funext fun j => (uF_a).trans (((fu_12 246 rfl).2.1 j).trans (((hL68_ 246 rfl).2.1 j).trans ((uF_a).trans ((hL2_ 246 rfl).2.1 j)))) : (uF u_12 231 24 ((S68.1 231 24) + 2)).2.1 246 = S.2.1 246).trans hWd) ((funext fun j => (uF_a).trans (((fu_12 247 rfl).2.1 j).trans (((hL68_ 247 rfl).2.1 j).trans ((uF_a).trans ((hL2_ 247 rfl).2.1 j)))) : (uF u_12 231 24 ((S68.1 231 24) + 2)).2.1 247 = S.2.1 247).trans hVt) (by omega) (by omega) (dHA.sm (S := S68) (u := (uF u_12 231 24 ((S68.1 231 24) + 2))) hA68 (funext fun j => (uF_a).trans ((fu_12 283 rfl).2.1 j))) (by omega) (by rw [show S68.1 231 24 + 2 = a by omega]; exact hgt) hQ (by omega)) (c_X12_748 Cx rfl rfl (rmk_ok (by omega) (by decide))) hW (by decide) rfl rfl rfl hl.1 rfl (Nat.le_of_ble_eq_true rfl) dX12_trees_254 ⟨Nat.le_of_ble_eq_true rfl, Nat.le_of_ble_eq_true rfl⟩) hL (fun okp u_28 H locs k_29 hW hL => ?_)
                  obtain ⟨iu_28, fu_28, gu_28, xu_28⟩ := k_29
                  have F_30 := F_18.trans (fu_28.to (pl_sub (by decide)))
                  have F_31 := F_19.trans (fu_28.to (pl_sub (by decide)))
                  have g_32 : FF S u_28 (fl [20, 21, 24, 100]) := FF.trans g_20 (FF.to gu_28 (fl_sub (by decide)))
                  have g_33 : FF ((uF S2 231 100 (S.1 231 47))) u_28 (fl [20, 21, 24, 100]) := FF.trans g_21 (FF.to gu_28 (fl_sub (by decide)))
                  have hpa := xu_28.2
                  refine lv_istore (lv' := [(6, .int (iv okp)), (3, .int (iv (it + 1))), (5, .int (iv (S.2.1 247 (S68.1 231 24)))), (4, .int (iv (S68.1 231 24))), (2, .int (iv wt)), (0, .ref (G.2.2.1 + 231)), (1, .int (iv bb))]) hx hb dX12_trees_257 hl (by decide) rfl (fun ls hl => ?_)
                  refine lv_iload hx hb dX12_trees_259 (lv_at hl 2 rfl) ?_
                  refine lv_bipush (v := iv 6) hx hb dX12_trees_261 (by decide) ?_
                  refine r_icmp_ne (tgt := 338) hx hb ⟨(by omega), (by omega)⟩ ⟨(by omega), (by omega)⟩ dX12_trees_263 (by decide) (fun c_34 => ?_) (fun c_34 => ?_)
                  · refine lv_iload hx hb dX12_trees_338 (lv_at hl 0 rfl) ?_
                    refine r_if_eq (tgt := 371) hx hb ⟨(by omega), (by omega)⟩ dX12_trees_340 (by decide) (fun c_35 => ?_) (fun c_35 => ?_)
                    · refine lv_aload_n hx hb dX12_trees_371 rfl (lv_at hl 5 rfl) ?_
                      refine lv_iconst (v := iv 4) hx hb dX12_trees_372 (by decide) ?_
                      refine lv_iload hx hb dX12_trees_373 (lv_at hl 3 rfl) ?_
                      refine sBv (sV (As := [.int (iv 4), .int (iv (S68.1 231 24))]) (rest := []) (k := 231) Cx (s_X12_wrong l G u_28 (cd := 4) (tk := S68.1 231 24) iu_28 (by omega) (by omega)) (c_X12_321 Cx rfl rfl (rmk_ok (by omega) (by decide))) hW (by decide) rfl rfl rfl hl.1 rfl (Nat.le_of_ble_eq_true rfl) dX12_trees_375 ⟨Nat.le_of_ble_eq_true rfl, Nat.le_of_ble_eq_true rfl⟩) hL (fun u_36 H locs k_37 hW hL => ?_)
                      obtain ⟨iu_36, fu_36, gu_36, xu_36⟩ := k_37
                      have F_38 := F_30.trans (fu_36.to (pl_sub (by decide)))
                      have F_39 := F_31.trans (fu_36.to (pl_sub (by decide)))
                      have g_40 : FF S u_36 (fl [20, 21, 24, 100]) := FF.trans g_32 (FF.to gu_36 (fl_sub (by decide)))
                      have g_41 : FF ((uF S2 231 100 (S.1 231 47))) u_36 (fl [20, 21, 24, 100]) := FF.trans g_33 (FF.to gu_36 (fl_sub (by decide)))
                      refine lv_iload_n hx hb dX12_trees_378 rfl (lv_at hl 4 rfl) ?_
                      refine r_if_eq (tgt := 389) hx hb ⟨(by omega), (by omega)⟩ dX12_trees_379 (by decide) (fun c_42 => ?_) (fun c_42 => ?_)
                      · exact sVret Cx hr hlk hW hL ⟨iu_36, F_38, g_40, (dHA.sm (S := S68) (u := u_36) hA68 (funext fun j => ((fu_36 283 rfl).2.1 j).trans (((fu_28 283 rfl).2.1 j).trans ((uF_a).trans ((fu_12 283 rfl).2.1 j)))))⟩ dX12_trees_389
                      · refine lv_aload_n hx hb dX12_trees_382 rfl (lv_at hl 5 rfl) ?_
                        have q_43 : (-2147483648) ≤ u_36.1 231 20 ∧ u_36.1 231 20 ≤ 2147483647 := iu_36.fi 20
                        refine g_X12_270 Cx hW (k := 231) (by decide) rfl (v := u_36.1 231 20) rfl dX12_trees_383 ?_
                        refine r_if_eq (tgt := 390) hx hb ⟨(by omega), (by omega)⟩ dX12_trees_386 (by decide) (fun c => absurd c (by omega)) (fun _ => ?_)
                        exact sVret Cx hr hlk hW hL ⟨iu_36, F_38, g_40, (dHA.sm (S := S68) (u := u_36) hA68 (funext fun j => ((fu_36 283 rfl).2.1 j).trans (((fu_28 283 rfl).2.1 j).trans ((uF_a).trans ((fu_12 283 rfl).2.1 j)))))⟩ dX12_trees_389
                    · refine lv_iload hx hb dX12_trees_343 (lv_at hl 2 rfl) ?_
                      refine lv_bipush (v := iv 7) hx hb dX12_trees_345 (by decide) ?_
                      refine r_icmp_ne (tgt := 364) hx hb ⟨(by omega), (by omega)⟩ ⟨(by omega), (by omega)⟩ dX12_trees_347 (by decide) (fun c_44 => ?_) (fun c_44 => ?_)
                      · refine lv_aload_n hx hb dX12_trees_364 rfl (lv_at hl 5 rfl) ?_
                        have lk_45 : u_28.1 231 46 = S.1 231 46 := (gu_28 46 rfl).trans ((uF_ne (fun h => absurd h.2 (by decide))).trans ((gu_12 46 rfl).trans ((gL68_ 46 rfl).trans ((uF_ne (fun h => absurd h.2 (by decide))).trans (gL2_ 46 rfl)))))
                        refine sBi (sV (As := []) (rest := []) (k := 231) Cx (s_X12_isFarkas l G u_28  iu_28 (by omega)) (c_X12_757 Cx rfl rfl (rmk_ok (by omega) (by decide))) hW (by decide) rfl rfl rfl hl.1 rfl (Nat.le_of_ble_eq_true rfl) dX12_trees_365 ⟨Nat.le_of_ble_eq_true rfl, Nat.le_of_ble_eq_true rfl⟩) hL (fun r_48 u_46 H locs k_47 hW hL => ?_)
                        obtain ⟨eu_46, xu_46⟩ := k_47
                        rw [eu_46] at hW
                        refine r_if_ne (tgt := 378) hx hb ⟨(by omega), (by omega)⟩ dX12_trees_368 (by decide) (fun c_49 => ?_) (fun c_49 => ?_)
                        · refine lv_iload_n hx hb dX12_trees_378 rfl (lv_at hl 4 rfl) ?_
                          refine r_if_eq (tgt := 389) hx hb ⟨(by omega), (by omega)⟩ dX12_trees_379 (by decide) (fun c_50 => ?_) (fun c_50 => ?_)
                          · exact sVret Cx hr hlk hW hL ⟨iu_28, F_30, g_32, (dHA.sm (S := S68) (u := u_28) hA68 (funext fun j => ((fu_28 283 rfl).2.1 j).trans ((uF_a).trans ((fu_12 283 rfl).2.1 j))))⟩ dX12_trees_389
                          · refine lv_aload_n hx hb dX12_trees_382 rfl (lv_at hl 5 rfl) ?_
                            refine g_X12_270 Cx hW (k := 231) (by decide) rfl (v := S68.1 231 20) ((gu_28 20 rfl).trans ((uF_ne (fun h => absurd h.2 (by decide))).trans (gu_12 20 rfl))) dX12_trees_383 ?_
                            refine r_if_eq (tgt := 390) hx hb ⟨(by omega), (by omega)⟩ dX12_trees_386 (by decide) (fun _ => ?_) (fun c => absurd (by omega) c)
                            refine lv_iinc (v := iv (wt + (-1))) (lv' := [(2, .int (iv (wt + (-1)))), (6, .int (iv okp)), (3, .int (iv (it + 1))), (5, .int (iv (S.2.1 247 (S68.1 231 24)))), (4, .int (iv (S68.1 231 24))), (0, .ref (G.2.2.1 + 231)), (1, .int (iv bb))]) hx hb dX12_trees_390 hl (k := 4) rfl ((Int32.ofInt_add _ _).symm) (by decide) rfl (fun ls hl => ?_)
                            have hww := hW68 (wt + (-1)) (by omega) (by omega)
                            refine lv_aload_n hx hb dX12_trees_393 rfl (lv_at hl 5 rfl) ?_
                            refine lv_aload_n hx hb dX12_trees_394 rfl (lv_at hl 5 rfl) ?_
                            refine g_X12_193 Cx hW (k := 231) (by decide) rfl (v := .ref (G.2.2.1 + 291)) (rd_102 iu_28) dX12_trees_395 ?_
                            refine lv_iload_n hx hb dX12_trees_398 rfl (lv_at hl 0 rfl) ?_
                            refine rIald Cx hW (k := 291) (by decide) rfl (by decide) (by omega) (by omega) dX12_trees_399 ?_
                            have q_51 : (-2147483648) ≤ S68.2.1 291 (wt + (-1)) ∧ S68.2.1 291 (wt + (-1)) ≤ 2147483647 := hI68.ai 291 (wt + (-1))
                            refine r_i (b := S68.2.1 291 (wt + (-1))) (((fu_28 291 rfl).2.1 (wt + (-1))).trans ((uF_a).trans ((fu_12 291 rfl).2.1 (wt + (-1))))) ?_
                            refine p_X12_738 Cx hW hL (k := 231) (by decide) rfl dX12_trees_400 (fun H locs hW hL => ?_)
                            have F_52 : Fr S (uF u_28 231 100 (S68.2.1 291 (wt + (-1)))) (pl [231, 233, 234, 235, 237, 238, 240, 277, 283, 284, 288, 289, 291, 292, 293]) := F_30.F rfl
                            have F_53 : Fr ((uF S2 231 100 (S.1 231 47))) (uF u_28 231 100 (S68.2.1 291 (wt + (-1)))) (pl [231, 233, 234, 235, 237, 238, 240, 277, 283, 284, 288, 289, 291, 292, 293]) := F_31.F rfl
                            have g_54 : FF S (uF u_28 231 100 (S68.2.1 291 (wt + (-1)))) (fl [20, 21, 24, 100]) := FF.F g_32 rfl
                            have g_55 : FF ((uF S2 231 100 (S.1 231 47))) (uF u_28 231 100 (S68.2.1 291 (wt + (-1)))) (fl [20, 21, 24, 100]) := FF.F g_33 rfl
                            have i_56 : dX G (uF u_28 231 100 (S68.2.1 291 (wt + (-1)))) := iu_28.F (i := 100) (show (-2147483648) ≤ S68.2.1 291 (wt + (-1)) ∧ S68.2.1 291 (wt + (-1)) ≤ 2147483647 from ⟨by omega, by omega⟩)
                            refine lv_aload_n hx hb dX12_trees_403 rfl (lv_at hl 5 rfl) ?_
                            refine lv_aload_n hx hb dX12_trees_404 rfl (lv_at hl 5 rfl) ?_
                            refine g_X12_196 Cx hW (k := 231) (by decide) rfl (v := .ref (G.2.2.1 + 292)) (rd_103 i_56) dX12_trees_405 ?_
                            refine lv_iload_n hx hb dX12_trees_408 rfl (lv_at hl 0 rfl) ?_
                            refine rIald Cx hW (k := 292) (by decide) rfl (by decide) (by omega) (by omega) dX12_trees_409 ?_
                            have q_57 : (-2147483648) ≤ S68.2.1 292 (wt + (-1)) ∧ S68.2.1 292 (wt + (-1)) ≤ 2147483647 := hI68.ai 292 (wt + (-1))
                            refine r_i (b := S68.2.1 292 (wt + (-1))) ((uF_a).trans (((fu_28 292 rfl).2.1 (wt + (-1))).trans ((uF_a).trans ((fu_12 292 rfl).2.1 (wt + (-1)))))) ?_
                            refine lv_aload_n hx hb dX12_trees_410 rfl (lv_at hl 5 rfl) ?_
                            refine g_X12_199 Cx hW (k := 231) (by decide) rfl (v := .ref (G.2.2.1 + 293)) (rd_104 i_56) dX12_trees_411 ?_
                            refine lv_iload_n hx hb dX12_trees_414 rfl (lv_at hl 0 rfl) ?_
                            refine rIald Cx hW (k := 293) (by decide) rfl (by decide) (by omega) (by omega) dX12_trees_415 ?_
                            have q_58 : (-2147483648) ≤ S68.2.1 293 (wt + (-1)) ∧ S68.2.1 293 (wt + (-1)) ≤ 2147483647 := hI68.ai 293 (wt + (-1))
                            refine r_i (b := S68.2.1 293 (wt + (-1))) ((uF_a).trans (((fu_28 293 rfl).2.1 (wt + (-1))).trans ((uF_a).trans ((fu_12 293 rfl).2.1 (wt + (-1)))))) ?_
                            refine lv_iconst (v := iv 1) hx hb dX12_trees_416 (by decide) ?_
                            have lk_59 : (uF u_28 231 100 (S68.2.1 291 (wt + (-1)))).1 231 46 = S.1 231 46 := (uF_ne (fun h => absurd h.2 (by decide))).trans ((gu_28 46 rfl).trans ((uF_ne (fun h => absurd h.2 (by decide))).trans ((gu_12 46 rfl).trans ((gL68_ 46 rfl).trans ((uF_ne (fun h => absurd h.2 (by decide))).trans (gL2_ 46 rfl))))))
                            have lk_60 : (uF u_28 231 100 (S68.2.1 291 (wt + (-1)))).1 231 100 = S68.2.1 291 (wt + (-1)) := uF_on
                            refine sBv (sV (As := [.int (iv (S68.2.1 292 (wt + (-1)))), .int (iv (S68.2.1 293 (wt + (-1)))), .int (iv 1)]) (rest := []) (k := 231) Cx (s_X12_branchRow l G (uF u_28 231 100 (S68.2.1 291 (wt + (-1)))) (k := S68.2.1 292 (wt + (-1))) (tk := S68.2.1 293 (wt + (-1))) (bb := 1) (Xt := Xt) (Fm := Fm) (Wd := Wd) (Vt := Vt) i_56 ((funext fun j => (uF_a).trans (((fu_28 243 rfl).2.1 j).trans ((uF_a).trans (((fu_12 243 rfl).2.1 j).trans (((hL68_ 243 rfl).2.1 j).trans ((uF_a).trans ((hL2_ 243 rfl).2.1 j)))))) : (uF u_28 231 100 (S68.2.1 291 (wt + (-1)))).2.1 243 = S.2.1 243).trans hX) ((funext fun j => (uF_a).trans (((fu_28 245 rfl).2.1 j).trans ((uF_a).trans (((fu_12 245 rfl).2.1 j).trans (((hL68_ 245 rfl).2.1 j).trans ((uF_a).trans ((hL2_ 245 rfl).2.1 j)))))) : (uF u_28 231 100 (S68.2.1 291 (wt + (-1)))).2.1 245 = S.2.1 245).trans hFm) ((funext fun j => (uF_a).trans (((fu_28 246 rfl).2.1 j).trans ((uF_a).trans (((fu_12 246 rfl).2.1 j).trans (((hL68_ 246 rfl).2.1 j).trans ((uF_a).trans ((hL2_ 246 rfl).2.1 j)))))) : (uF u_28 231 100 (S68.2.1 291 (wt + (-1)))).2.1 246 = S.2.1 246).trans hWd) ((funext fun j => (uF_a).trans (((fu_28 247 rfl).2.1 j).trans ((uF_a).trans (((fu_12 247 rfl).2.1 j).trans (((hL68_ 247 rfl).2.1 j).trans ((uF_a).trans ((hL2_ 247 rfl).2.1 j)))))) : (uF u_28 231 100 (S68.2.1 291 (wt + (-1)))).2.1 247 = S.2.1 247).trans hVt) (hQ _ (by omega) (by omega) hww.2.2.2) (by omega) (by omega) (by omega) (by omega) (by omega) (dHA.sm (S := S68) (u := (uF u_28 231 100 (S68.2.1 291 (wt + (-1))))) hA68 (funext fun j => (uF_a).trans (((fu_28 283 rfl).2.1 j).trans ((uF_a).trans ((fu_12 283 rfl).2.1 j)))))) (c_X12_744 Cx rfl rfl (rmk_ok (by omega) (by decide))) hW (by decide) rfl rfl rfl hl.1 rfl (Nat.le_of_ble_eq_true rfl) dX12_trees_417 ⟨Nat.le_of_ble_eq_true rfl, Nat.le_of_ble_eq_true rfl⟩) hL (fun u_61 H locs k_62 hW hL => ?_)
                            obtain ⟨iu_61, fu_61, gu_61, xu_61⟩ := k_62
                            have F_63 := F_52.trans (fu_61.to (pl_sub (by decide)))
                            have F_64 := F_53.trans (fu_61.to (pl_sub (by decide)))
                            have g_65 : FF S u_61 (fl [20, 21, 24, 100]) := FF.trans g_54 (FF.to gu_61 (fl_sub (by decide)))
                            have g_66 : FF ((uF S2 231 100 (S.1 231 47))) u_61 (fl [20, 21, 24, 100]) := FF.trans g_55 (FF.to gu_61 (fl_sub (by decide)))
                            refine lv_goto (tgt := 68) hx hb dX12_trees_420 (by decide) ?_
                            have q_67 : (-2147483648) ≤ u_61.1 231 100 ∧ u_61.1 231 100 ≤ 2147483647 := iu_61.fi 100
                            have lk_68 : u_61.1 231 20 = S68.1 231 20 := (gu_61 20 rfl).trans ((uF_ne (fun h => absurd h.2 (by decide))).trans ((gu_28 20 rfl).trans ((uF_ne (fun h => absurd h.2 (by decide))).trans (gu_12 20 rfl))))
                            have q_69 : (-2147483648) ≤ u_28.1 231 24 ∧ u_28.1 231 24 ≤ 2147483647 := iu_28.fi 24
                            have lk_70 : u_61.1 231 24 = u_28.1 231 24 := (gu_61 24 rfl).trans (uF_ne (fun h => absurd h.2 (by decide)))
                            exact ih_68 u_61 (it + 1) (wt + (-1)) _ _ _ (by omega) iu_61 F_63 F_64 g_65 g_66 (by omega) xu_61.2 (fun _ => by rw [(show u_61.1 231 24 = u_28.1 231 24 from (gu_61 24 rfl).trans (uF_ne (fun h => absurd h.2 (by decide)))), hpa.1, show wt + (-1) + 1 = wt + 1 - 1 by omega]; have y := hlf.2; rw [if_neg (by omega)] at y; exact y) (fun _ => by have y := (show u_61.1 231 24 = u_28.1 231 24 from (gu_61 24 rfl).trans (uF_ne (fun h => absurd h.2 (by decide)))); have y2 := hpa.1; omega) (fun i i0 i1 => by rw [show u_61.2.1 291 i = S68.2.1 291 i from ((fu_61 291 rfl).2.1 i).trans ((uF_a).trans (((fu_28 291 rfl).2.1 i).trans ((uF_a).trans ((fu_12 291 rfl).2.1 i)))), show u_61.2.1 292 i = S68.2.1 292 i from ((fu_61 292 rfl).2.1 i).trans ((uF_a).trans (((fu_28 292 rfl).2.1 i).trans ((uF_a).trans ((fu_12 292 rfl).2.1 i)))), show u_61.2.1 293 i = S68.2.1 293 i from ((fu_61 293 rfl).2.1 i).trans ((uF_a).trans (((fu_28 293 rfl).2.1 i).trans ((uF_a).trans ((fu_12 293 rfl).2.1 i))))]; exact hW68 i i0 (by omega)) hW hL (lv_sub hl [2, 0, 5, 6] rfl)
                        · refine lv_aload_n hx hb dX12_trees_371 rfl (lv_at hl 5 rfl) ?_
                          refine lv_iconst (v := iv 4) hx hb dX12_trees_372 (by decide) ?_
                          refine lv_iload hx hb dX12_trees_373 (lv_at hl 3 rfl) ?_
                          refine sBv (sV (As := [.int (iv 4), .int (iv (S68.1 231 24))]) (rest := []) (k := 231) Cx (s_X12_wrong l G u_28 (cd := 4) (tk := S68.1 231 24) iu_28 (by omega) (by omega)) (c_X12_321 Cx rfl rfl (rmk_ok (by omega) (by decide))) hW (by decide) rfl rfl rfl hl.1 rfl (Nat.le_of_ble_eq_true rfl) dX12_trees_375 ⟨Nat.le_of_ble_eq_true rfl, Nat.le_of_ble_eq_true rfl⟩) hL (fun u_71 H locs k_72 hW hL => ?_)
                          obtain ⟨iu_71, fu_71, gu_71, xu_71⟩ := k_72
                          have F_73 := F_30.trans (fu_71.to (pl_sub (by decide)))
                          have F_74 := F_31.trans (fu_71.to (pl_sub (by decide)))
                          have g_75 : FF S u_71 (fl [20, 21, 24, 100]) := FF.trans g_32 (FF.to gu_71 (fl_sub (by decide)))
                          have g_76 : FF ((uF S2 231 100 (S.1 231 47))) u_71 (fl [20, 21, 24, 100]) := FF.trans g_33 (FF.to gu_71 (fl_sub (by decide)))
                          refine lv_iload_n hx hb dX12_trees_378 rfl (lv_at hl 4 rfl) ?_
                          refine r_if_eq (tgt := 389) hx hb ⟨(by omega), (by omega)⟩ dX12_trees_379 (by decide) (fun c_77 => ?_) (fun c_77 => ?_)
                          · exact sVret Cx hr hlk hW hL ⟨iu_71, F_73, g_75, (dHA.sm (S := S68) (u := u_71) hA68 (funext fun j => ((fu_71 283 rfl).2.1 j).trans (((fu_28 283 rfl).2.1 j).trans ((uF_a).trans ((fu_12 283 rfl).2.1 j)))))⟩ dX12_trees_389
                          · refine lv_aload_n hx hb dX12_trees_382 rfl (lv_at hl 5 rfl) ?_
                            have q_78 : (-2147483648) ≤ u_71.1 231 20 ∧ u_71.1 231 20 ≤ 2147483647 := iu_71.fi 20
                            refine g_X12_270 Cx hW (k := 231) (by decide) rfl (v := u_71.1 231 20) rfl dX12_trees_383 ?_
                            refine r_if_eq (tgt := 390) hx hb ⟨(by omega), (by omega)⟩ dX12_trees_386 (by decide) (fun c => absurd c (by omega)) (fun _ => ?_)
                            exact sVret Cx hr hlk hW hL ⟨iu_71, F_73, g_75, (dHA.sm (S := S68) (u := u_71) hA68 (funext fun j => ((fu_71 283 rfl).2.1 j).trans (((fu_28 283 rfl).2.1 j).trans ((uF_a).trans ((fu_12 283 rfl).2.1 j)))))⟩ dX12_trees_389
                      · refine lv_iload_n hx hb dX12_trees_350 rfl (lv_at hl 6 rfl) ?_
                        refine r_if_eq (tgt := 371) hx hb ⟨(by omega), (by omega)⟩ dX12_trees_351 (by decide) (fun c_79 => ?_) (fun c_79 => ?_)
                        · refine lv_aload_n hx hb dX12_trees_371 rfl (lv_at hl 5 rfl) ?_
                          refine lv_iconst (v := iv 4) hx hb dX12_trees_372 (by decide) ?_
                          refine lv_iload hx hb dX12_trees_373 (lv_at hl 3 rfl) ?_
                          refine sBv (sV (As := [.int (iv 4), .int (iv (S68.1 231 24))]) (rest := []) (k := 231) Cx (s_X12_wrong l G u_28 (cd := 4) (tk := S68.1 231 24) iu_28 (by omega) (by omega)) (c_X12_321 Cx rfl rfl (rmk_ok (by omega) (by decide))) hW (by decide) rfl rfl rfl hl.1 rfl (Nat.le_of_ble_eq_true rfl) dX12_trees_375 ⟨Nat.le_of_ble_eq_true rfl, Nat.le_of_ble_eq_true rfl⟩) hL (fun u_80 H locs k_81 hW hL => ?_)
                          obtain ⟨iu_80, fu_80, gu_80, xu_80⟩ := k_81
                          have F_82 := F_30.trans (fu_80.to (pl_sub (by decide)))
                          have F_83 := F_31.trans (fu_80.to (pl_sub (by decide)))
                          have g_84 : FF S u_80 (fl [20, 21, 24, 100]) := FF.trans g_32 (FF.to gu_80 (fl_sub (by decide)))
                          have g_85 : FF ((uF S2 231 100 (S.1 231 47))) u_80 (fl [20, 21, 24, 100]) := FF.trans g_33 (FF.to gu_80 (fl_sub (by decide)))
                          refine lv_iload_n hx hb dX12_trees_378 rfl (lv_at hl 4 rfl) ?_
                          refine r_if_eq (tgt := 389) hx hb ⟨(by omega), (by omega)⟩ dX12_trees_379 (by decide) (fun c_86 => ?_) (fun c_86 => ?_)
                          · exact sVret Cx hr hlk hW hL ⟨iu_80, F_82, g_84, (dHA.sm (S := S68) (u := u_80) hA68 (funext fun j => ((fu_80 283 rfl).2.1 j).trans (((fu_28 283 rfl).2.1 j).trans ((uF_a).trans ((fu_12 283 rfl).2.1 j)))))⟩ dX12_trees_389
                          · refine lv_aload_n hx hb dX12_trees_382 rfl (lv_at hl 5 rfl) ?_
                            have q_87 : (-2147483648) ≤ u_80.1 231 20 ∧ u_80.1 231 20 ≤ 2147483647 := iu_80.fi 20
                            refine g_X12_270 Cx hW (k := 231) (by decide) rfl (v := u_80.1 231 20) rfl dX12_trees_383 ?_
                            refine r_if_eq (tgt := 390) hx hb ⟨(by omega), (by omega)⟩ dX12_trees_386 (by decide) (fun c => absurd c (by omega)) (fun _ => ?_)
                            exact sVret Cx hr hlk hW hL ⟨iu_80, F_82, g_84, (dHA.sm (S := S68) (u := u_80) hA68 (funext fun j => ((fu_80 283 rfl).2.1 j).trans (((fu_28 283 rfl).2.1 j).trans ((uF_a).trans ((fu_12 283 rfl).2.1 j)))))⟩ dX12_trees_389
                        · refine lv_aload_n hx hb dX12_trees_354 rfl (lv_at hl 5 rfl) ?_
                          have lk_88 : u_28.1 231 46 = S.1 231 46 := (gu_28 46 rfl).trans ((uF_ne (fun h => absurd h.2 (by decide))).trans ((gu_12 46 rfl).trans ((gL68_ 46 rfl).trans ((uF_ne (fun h => absurd h.2 (by decide))).trans (gL2_ 46 rfl)))))
                          refine sBi (sV (As := []) (rest := []) (k := 231) Cx (s_X12_isBound l G u_28  iu_28 (by omega) hpa.2 (dDV.sm (S := u_12) (u := u_28) ⟨xu_12.1, xu_12.2.1 hv1⟩ (funext fun j => ((fu_28 288 rfl).2.1 j).trans (uF_a))) (dUP.sm (S := S) (u := u_28) hUP (funext fun j => ((fu_28 286 rfl).2.1 j).trans ((uF_a).trans (((fu_12 286 rfl).2.1 j).trans (((hL68_ 286 rfl).2.1 j).trans ((uF_a).trans ((hL2_ 286 rfl).2.1 j)))))) (funext fun j => ((fu_28 287 rfl).2.1 j).trans ((uF_a).trans (((fu_12 287 rfl).2.1 j).trans (((hL68_ 287 rfl).2.1 j).trans ((uF_a).trans ((hL2_ 287 rfl).2.1 j))))))) (GM.sm (S := S) (u := u_28) hGM (funext fun j => ((fu_28 260 rfl).2.2.1 j).trans ((uF_l).trans (((fu_12 260 rfl).2.2.1 j).trans (((hL68_ 260 rfl).2.2.1 j).trans ((uF_l).trans ((hL2_ 260 rfl).2.2.1 j)))))) (funext fun j => ((fu_28 290 rfl).2.2.1 j).trans ((uF_l).trans (((fu_12 290 rfl).2.2.1 j).trans (((hL68_ 290 rfl).2.2.1 j).trans ((uF_l).trans ((hL2_ 290 rfl).2.2.1 j))))))) (MD.sm (S := S) (u := u_28) hMD ((gu_28 46 rfl).trans ((uF_ne (fun h => absurd h.2 (by decide))).trans ((gu_12 46 rfl).trans ((gL68_ 46 rfl).trans ((uF_ne (fun h => absurd h.2 (by decide))).trans (gL2_ 46 rfl)))))) ((gu_28 47 rfl).trans ((uF_ne (fun h => absurd h.2 (by decide))).trans ((gu_12 47 rfl).trans ((gL68_ 47 rfl).trans ((uF_ne (fun h => absurd h.2 (by decide))).trans (gL2_ 47 rfl)))))) ((gu_28 63 rfl).trans ((uF_ne (fun h => absurd h.2 (by decide))).trans ((gu_12 63 rfl).trans ((gL68_ 63 rfl).trans ((uF_ne (fun h => absurd h.2 (by decide))).trans (gL2_ 63 rfl)))))))) (c_X12_754 Cx rfl rfl (rmk_ok (by omega) (by decide))) hW (by decide) rfl rfl rfl hl.1 rfl (Nat.le_of_ble_eq_true rfl) dX12_trees_355 ⟨Nat.le_of_ble_eq_true rfl, Nat.le_of_ble_eq_true rfl⟩) hL (fun r_91 u_89 H locs k_90 hW hL => ?_)
                          obtain ⟨iu_89, fu_89, gu_89, xu_89⟩ := k_90
                          have F_92 := F_30.trans (fu_89.to (pl_sub (by decide)))
                          have F_93 := F_31.trans (fu_89.to (pl_sub (by decide)))
                          have g_94 : FF S u_89 (fl [20, 21, 24, 100]) := FF.trans g_32 (FF.to gu_89 (fl_sub (by decide)))
                          have g_95 : FF ((uF S2 231 100 (S.1 231 47))) u_89 (fl [20, 21, 24, 100]) := FF.trans g_33 (FF.to gu_89 (fl_sub (by decide)))
                          refine r_if_ne (tgt := 378) hx hb ⟨(by omega), (by omega)⟩ dX12_trees_358 (by decide) (fun c_96 => ?_) (fun c_96 => ?_)
                          · refine lv_iload_n hx hb dX12_trees_378 rfl (lv_at hl 4 rfl) ?_
                            refine r_if_eq (tgt := 389) hx hb ⟨(by omega), (by omega)⟩ dX12_trees_379 (by decide) (fun c_97 => ?_) (fun c_97 => ?_)
                            · exact sVret Cx hr hlk hW hL ⟨iu_89, F_92, g_94, (dHA.sm (S := S68) (u := u_89) hA68 (funext fun j => ((fu_89 283 rfl).2.1 j).trans (((fu_28 283 rfl).2.1 j).trans ((uF_a).trans ((fu_12 283 rfl).2.1 j)))))⟩ dX12_trees_389
                            · refine lv_aload_n hx hb dX12_trees_382 rfl (lv_at hl 5 rfl) ?_
                              refine g_X12_270 Cx hW (k := 231) (by decide) rfl (v := S68.1 231 20) ((gu_89 20 rfl).trans ((gu_28 20 rfl).trans ((uF_ne (fun h => absurd h.2 (by decide))).trans (gu_12 20 rfl)))) dX12_trees_383 ?_
                              refine r_if_eq (tgt := 390) hx hb ⟨(by omega), (by omega)⟩ dX12_trees_386 (by decide) (fun _ => ?_) (fun c => absurd (by omega) c)
                              refine lv_iinc (v := iv (wt + (-1))) (lv' := [(2, .int (iv (wt + (-1)))), (6, .int (iv okp)), (3, .int (iv (it + 1))), (5, .int (iv (S.2.1 247 (S68.1 231 24)))), (4, .int (iv (S68.1 231 24))), (0, .ref (G.2.2.1 + 231)), (1, .int (iv bb))]) hx hb dX12_trees_390 hl (k := 4) rfl ((Int32.ofInt_add _ _).symm) (by decide) rfl (fun ls hl => ?_)
                              have hww := hW68 (wt + (-1)) (by omega) (by omega)
                              refine lv_aload_n hx hb dX12_trees_393 rfl (lv_at hl 5 rfl) ?_
                              refine lv_aload_n hx hb dX12_trees_394 rfl (lv_at hl 5 rfl) ?_
                              refine g_X12_193 Cx hW (k := 231) (by decide) rfl (v := .ref (G.2.2.1 + 291)) (rd_102 iu_89) dX12_trees_395 ?_
                              refine lv_iload_n hx hb dX12_trees_398 rfl (lv_at hl 0 rfl) ?_
                              refine rIald Cx hW (k := 291) (by decide) rfl (by decide) (by omega) (by omega) dX12_trees_399 ?_
                              have q_98 : (-2147483648) ≤ S68.2.1 291 (wt + (-1)) ∧ S68.2.1 291 (wt + (-1)) ≤ 2147483647 := hI68.ai 291 (wt + (-1))
                              refine r_i (b := S68.2.1 291 (wt + (-1))) (((fu_89 291 rfl).2.1 (wt + (-1))).trans (((fu_28 291 rfl).2.1 (wt + (-1))).trans ((uF_a).trans ((fu_12 291 rfl).2.1 (wt + (-1)))))) ?_
                              refine p_X12_738 Cx hW hL (k := 231) (by decide) rfl dX12_trees_400 (fun H locs hW hL => ?_)
                              have F_99 : Fr S (uF u_89 231 100 (S68.2.1 291 (wt + (-1)))) (pl [231, 233, 234, 235, 237, 238, 240, 277, 283, 284, 288, 289, 291, 292, 293]) := F_92.F rfl
                              have F_100 : Fr ((uF S2 231 100 (S.1 231 47))) (uF u_89 231 100 (S68.2.1 291 (wt + (-1)))) (pl [231, 233, 234, 235, 237, 238, 240, 277, 283, 284, 288, 289, 291, 292, 293]) := F_93.F rfl
                              have g_101 : FF S (uF u_89 231 100 (S68.2.1 291 (wt + (-1)))) (fl [20, 21, 24, 100]) := FF.F g_94 rfl
                              have g_102 : FF ((uF S2 231 100 (S.1 231 47))) (uF u_89 231 100 (S68.2.1 291 (wt + (-1)))) (fl [20, 21, 24, 100]) := FF.F g_95 rfl
                              have i_103 : dX G (uF u_89 231 100 (S68.2.1 291 (wt + (-1)))) := iu_89.F (i := 100) (show (-2147483648) ≤ S68.2.1 291 (wt + (-1)) ∧ S68.2.1 291 (wt + (-1)) ≤ 2147483647 from ⟨by omega, by omega⟩)
                              refine lv_aload_n hx hb dX12_trees_403 rfl (lv_at hl 5 rfl) ?_
                              refine lv_aload_n hx hb dX12_trees_404 rfl (lv_at hl 5 rfl) ?_
                              refine g_X12_196 Cx hW (k := 231) (by decide) rfl (v := .ref (G.2.2.1 + 292)) (rd_103 i_103) dX12_trees_405 ?_
                              refine lv_iload_n hx hb dX12_trees_408 rfl (lv_at hl 0 rfl) ?_
                              refine rIald Cx hW (k := 292) (by decide) rfl (by decide) (by omega) (by omega) dX12_trees_409 ?_
                              have q_104 : (-2147483648) ≤ S68.2.1 292 (wt + (-1)) ∧ S68.2.1 292 (wt + (-1)) ≤ 2147483647 := hI68.ai 292 (wt + (-1))
                              refine r_i (b := S68.2.1 292 (wt + (-1))) ((uF_a).trans (((fu_89 292 rfl).2.1 (wt + (-1))).trans (((fu_28 292 rfl).2.1 (wt + (-1))).trans ((uF_a).trans ((fu_12 292 rfl).2.1 (wt + (-1))))))) ?_
                              refine lv_aload_n hx hb dX12_trees_410 rfl (lv_at hl 5 rfl) ?_
                              refine g_X12_199 Cx hW (k := 231) (by decide) rfl (v := .ref (G.2.2.1 + 293)) (rd_104 i_103) dX12_trees_411 ?_
                              refine lv_iload_n hx hb dX12_trees_414 rfl (lv_at hl 0 rfl) ?_
                              refine rIald Cx hW (k := 293) (by decide) rfl (by decide) (by omega) (by omega) dX12_trees_415 ?_
                              have q_105 : (-2147483648) ≤ S68.2.1 293 (wt + (-1)) ∧ S68.2.1 293 (wt + (-1)) ≤ 2147483647 := hI68.ai 293 (wt + (-1))
                              refine r_i (b := S68.2.1 293 (wt + (-1))) ((uF_a).trans (((fu_89 293 rfl).2.1 (wt + (-1))).trans (((fu_28 293 rfl).2.1 (wt + (-1))).trans ((uF_a).trans ((fu_12 293 rfl).2.1 (wt + (-1))))))) ?_
                              refine lv_iconst (v := iv 1) hx hb dX12_trees_416 (by decide) ?_
                              have lk_106 : (uF u_89 231 100 (S68.2.1 291 (wt + (-1)))).1 231 46 = S.1 231 46 := (uF_ne (fun h => absurd h.2 (by decide))).trans ((gu_89 46 rfl).trans ((gu_28 46 rfl).trans ((uF_ne (fun h => absurd h.2 (by decide))).trans ((gu_12 46 rfl).trans ((gL68_ 46 rfl).trans ((uF_ne (fun h => absurd h.2 (by decide))).trans (gL2_ 46 rfl)))))))
                              have lk_107 : (uF u_89 231 100 (S68.2.1 291 (wt + (-1)))).1 231 100 = S68.2.1 291 (wt + (-1)) := uF_on
                              refine sBv (sV (As := [.int (iv (S68.2.1 292 (wt + (-1)))), .int (iv (S68.2.1 293 (wt + (-1)))), .int (iv 1)]) (rest := []) (k := 231) Cx (s_X12_branchRow l G (uF u_89 231 100 (S68.2.1 291 (wt + (-1)))) (k := S68.2.1 292 (wt + (-1))) (tk := S68.2.1 293 (wt + (-1))) (bb := 1) (Xt := Xt) (Fm := Fm) (Wd := Wd) (Vt := Vt) i_103 ((funext fun j => (uF_a).trans (((fu_89 243 rfl).2.1 j).trans (((fu_28 243 rfl).2.1 j).trans ((uF_a).trans (((fu_12 243 rfl).2.1 j).trans (((hL68_ 243 rfl).2.1 j).trans ((uF_a).trans ((hL2_ 243 rfl).2.1 j))))))) : (uF u_89 231 100 (S68.2.1 291 (wt + (-1)))).2.1 243 = S.2.1 243).trans hX) ((funext fun j => (uF_a).trans (((fu_89 245 rfl).2.1 j).trans (((fu_28 245 rfl).2.1 j).trans ((uF_a).trans (((fu_12 245 rfl).2.1 j).trans (((hL68_ 245 rfl).2.1 j).trans ((uF_a).trans ((hL2_ 245 rfl).2.1 j))))))) : (uF u_89 231 100 (S68.2.1 291 (wt + (-1)))).2.1 245 = S.2.1 245).trans hFm) ((funext fun j => (uF_a).trans (((fu_89 246 rfl).2.1 j).trans (((fu_28 246 rfl).2.1 j).trans ((uF_a).trans (((fu_12 246 rfl).2.1 j).trans (((hL68_ 246 rfl).2.1 j).trans ((uF_a).trans ((hL2_ 246 rfl).2.1 j))))))) : (uF u_89 231 100 (S68.2.1 291 (wt + (-1)))).2.1 246 = S.2.1 246).trans hWd) ((funext fun j => (uF_a).trans (((fu_89 247 rfl).2.1 j).trans (((fu_28 247 rfl).2.1 j).trans ((uF_a).trans (((fu_12 247 rfl).2.1 j).trans (((hL68_ 247 rfl).2.1 j).trans ((uF_a).trans ((hL2_ 247 rfl).2.1 j))))))) : (uF u_89 231 100 (S68.2.1 291 (wt + (-1)))).2.1 247 = S.2.1 247).trans hVt) (hQ _ (by omega) (by omega) hww.2.2.2) (by omega) (by omega) (by omega) (by omega) (by omega) (dHA.sm (S := S68) (u := (uF u_89 231 100 (S68.2.1 291 (wt + (-1))))) hA68 (funext fun j => (uF_a).trans (((fu_89 283 rfl).2.1 j).trans (((fu_28 283 rfl).2.1 j).trans ((uF_a).trans ((fu_12 283 rfl).2.1 j))))))) (c_X12_744 Cx rfl rfl (rmk_ok (by omega) (by decide))) hW (by decide) rfl rfl rfl hl.1 rfl (Nat.le_of_ble_eq_true rfl) dX12_trees_417 ⟨Nat.le_of_ble_eq_true rfl, Nat.le_of_ble_eq_true rfl⟩) hL (fun u_108 H locs k_109 hW hL => ?_)
                              obtain ⟨iu_108, fu_108, gu_108, xu_108⟩ := k_109
                              have F_110 := F_99.trans (fu_108.to (pl_sub (by decide)))
                              have F_111 := F_100.trans (fu_108.to (pl_sub (by decide)))
                              have g_112 : FF S u_108 (fl [20, 21, 24, 100]) := FF.trans g_101 (FF.to gu_108 (fl_sub (by decide)))
                              have g_113 : FF ((uF S2 231 100 (S.1 231 47))) u_108 (fl [20, 21, 24, 100]) := FF.trans g_102 (FF.to gu_108 (fl_sub (by decide)))
                              refine lv_goto (tgt := 68) hx hb dX12_trees_420 (by decide) ?_
                              have q_114 : (-2147483648) ≤ u_108.1 231 100 ∧ u_108.1 231 100 ≤ 2147483647 := iu_108.fi 100
                              have lk_115 : u_108.1 231 20 = S68.1 231 20 := (gu_108 20 rfl).trans ((uF_ne (fun h => absurd h.2 (by decide))).trans ((gu_89 20 rfl).trans ((gu_28 20 rfl).trans ((uF_ne (fun h => absurd h.2 (by decide))).trans (gu_12 20 rfl)))))
                              have q_116 : (-2147483648) ≤ u_28.1 231 24 ∧ u_28.1 231 24 ≤ 2147483647 := iu_28.fi 24
                              have lk_117 : u_108.1 231 24 = u_28.1 231 24 := (gu_108 24 rfl).trans ((uF_ne (fun h => absurd h.2 (by decide))).trans (gu_89 24 rfl))
                              exact ih_68 u_108 (it + 1) (wt + (-1)) _ _ _ (by omega) iu_108 F_110 F_111 g_112 g_113 (by omega) xu_108.2 (fun _ => by rw [(show u_108.1 231 24 = u_28.1 231 24 from (gu_108 24 rfl).trans ((uF_ne (fun h => absurd h.2 (by decide))).trans (gu_89 24 rfl))), hpa.1, show wt + (-1) + 1 = wt + 1 - 1 by omega]; have y := hlf.2; rw [if_neg (by omega)] at y; exact y) (fun _ => by have y := (show u_108.1 231 24 = u_28.1 231 24 from (gu_108 24 rfl).trans ((uF_ne (fun h => absurd h.2 (by decide))).trans (gu_89 24 rfl))); have y2 := hpa.1; omega) (fun i i0 i1 => by rw [show u_108.2.1 291 i = S68.2.1 291 i from ((fu_108 291 rfl).2.1 i).trans ((uF_a).trans (((fu_89 291 rfl).2.1 i).trans (((fu_28 291 rfl).2.1 i).trans ((uF_a).trans ((fu_12 291 rfl).2.1 i))))), show u_108.2.1 292 i = S68.2.1 292 i from ((fu_108 292 rfl).2.1 i).trans ((uF_a).trans (((fu_89 292 rfl).2.1 i).trans (((fu_28 292 rfl).2.1 i).trans ((uF_a).trans ((fu_12 292 rfl).2.1 i))))), show u_108.2.1 293 i = S68.2.1 293 i from ((fu_108 293 rfl).2.1 i).trans ((uF_a).trans (((fu_89 293 rfl).2.1 i).trans (((fu_28 293 rfl).2.1 i).trans ((uF_a).trans ((fu_12 293 rfl).2.1 i)))))]; exact hW68 i i0 (by omega)) hW hL (lv_sub hl [2, 0, 5, 6] rfl)
                          · refine lv_goto (tgt := 371) hx hb dX12_trees_361 (by decide) ?_
                            refine lv_aload_n hx hb dX12_trees_371 rfl (lv_at hl 5 rfl) ?_
                            refine lv_iconst (v := iv 4) hx hb dX12_trees_372 (by decide) ?_
                            refine lv_iload hx hb dX12_trees_373 (lv_at hl 3 rfl) ?_
                            refine sBv (sV (As := [.int (iv 4), .int (iv (S68.1 231 24))]) (rest := []) (k := 231) Cx (s_X12_wrong l G u_89 (cd := 4) (tk := S68.1 231 24) iu_89 (by omega) (by omega)) (c_X12_321 Cx rfl rfl (rmk_ok (by omega) (by decide))) hW (by decide) rfl rfl rfl hl.1 rfl (Nat.le_of_ble_eq_true rfl) dX12_trees_375 ⟨Nat.le_of_ble_eq_true rfl, Nat.le_of_ble_eq_true rfl⟩) hL (fun u_118 H locs k_119 hW hL => ?_)
                            obtain ⟨iu_118, fu_118, gu_118, xu_118⟩ := k_119
                            have F_120 := F_92.trans (fu_118.to (pl_sub (by decide)))
                            have F_121 := F_93.trans (fu_118.to (pl_sub (by decide)))
                            have g_122 : FF S u_118 (fl [20, 21, 24, 100]) := FF.trans g_94 (FF.to gu_118 (fl_sub (by decide)))
                            have g_123 : FF ((uF S2 231 100 (S.1 231 47))) u_118 (fl [20, 21, 24, 100]) := FF.trans g_95 (FF.to gu_118 (fl_sub (by decide)))
                            refine lv_iload_n hx hb dX12_trees_378 rfl (lv_at hl 4 rfl) ?_
                            refine r_if_eq (tgt := 389) hx hb ⟨(by omega), (by omega)⟩ dX12_trees_379 (by decide) (fun c_124 => ?_) (fun c_124 => ?_)
                            · exact sVret Cx hr hlk hW hL ⟨iu_118, F_120, g_122, (dHA.sm (S := S68) (u := u_118) hA68 (funext fun j => ((fu_118 283 rfl).2.1 j).trans (((fu_89 283 rfl).2.1 j).trans (((fu_28 283 rfl).2.1 j).trans ((uF_a).trans ((fu_12 283 rfl).2.1 j))))))⟩ dX12_trees_389
                            · refine lv_aload_n hx hb dX12_trees_382 rfl (lv_at hl 5 rfl) ?_
                              have q_125 : (-2147483648) ≤ u_118.1 231 20 ∧ u_118.1 231 20 ≤ 2147483647 := iu_118.fi 20
                              refine g_X12_270 Cx hW (k := 231) (by decide) rfl (v := u_118.1 231 20) rfl dX12_trees_383 ?_
                              refine r_if_eq (tgt := 390) hx hb ⟨(by omega), (by omega)⟩ dX12_trees_386 (by decide) (fun c => absurd c (by omega)) (fun _ => ?_)
                              exact sVret Cx hr hlk hW hL ⟨iu_118, F_120, g_122, (dHA.sm (S := S68) (u := u_118) hA68 (funext fun j => ((fu_118 283 rfl).2.1 j).trans (((fu_89 283 rfl).2.1 j).trans (((fu_28 283 rfl).2.1 j).trans ((uF_a).trans ((fu_12 283 rfl).2.1 j))))))⟩ dX12_trees_389
                  · refine lv_iload hx hb dX12_trees_266 (lv_at hl 0 rfl) ?_
                    refine r_if_eq (tgt := 282) hx hb ⟨(by omega), (by omega)⟩ dX12_trees_268 (by decide) (fun c_126 => ?_) (fun c_126 => ?_)
                    · refine lv_aload_n hx hb dX12_trees_282 rfl (lv_at hl 5 rfl) ?_
                      refine lv_iconst (v := iv 4) hx hb dX12_trees_283 (by decide) ?_
                      refine lv_iload hx hb dX12_trees_284 (lv_at hl 3 rfl) ?_
                      refine sBv (sV (As := [.int (iv 4), .int (iv (S68.1 231 24))]) (rest := []) (k := 231) Cx (s_X12_wrong l G u_28 (cd := 4) (tk := S68.1 231 24) iu_28 (by omega) (by omega)) (c_X12_321 Cx rfl rfl (rmk_ok (by omega) (by decide))) hW (by decide) rfl rfl rfl hl.1 rfl (Nat.le_of_ble_eq_true rfl) dX12_trees_286 ⟨Nat.le_of_ble_eq_true rfl, Nat.le_of_ble_eq_true rfl⟩) hL (fun u_127 H locs k_128 hW hL => ?_)
                      obtain ⟨iu_127, fu_127, gu_127, xu_127⟩ := k_128
                      have F_129 := F_30.trans (fu_127.to (pl_sub (by decide)))
                      have F_130 := F_31.trans (fu_127.to (pl_sub (by decide)))
                      have g_131 : FF S u_127 (fl [20, 21, 24, 100]) := FF.trans g_32 (FF.to gu_127 (fl_sub (by decide)))
                      have g_132 : FF ((uF S2 231 100 (S.1 231 47))) u_127 (fl [20, 21, 24, 100]) := FF.trans g_33 (FF.to gu_127 (fl_sub (by decide)))
                      refine lv_aload_n hx hb dX12_trees_289 rfl (lv_at hl 5 rfl) ?_
                      have q_133 : (-2147483648) ≤ u_127.1 231 20 ∧ u_127.1 231 20 ≤ 2147483647 := iu_127.fi 20
                      refine g_X12_270 Cx hW (k := 231) (by decide) rfl (v := u_127.1 231 20) rfl dX12_trees_290 ?_
                      refine r_if_ne (tgt := 313) hx hb ⟨(by omega), (by omega)⟩ dX12_trees_293 (by decide) (fun _ => ?_) (fun c => absurd c (by omega))
                      refine lv_aload_n hx hb dX12_trees_313 rfl (lv_at hl 5 rfl) ?_
                      refine g_X12_270 Cx hW (k := 231) (by decide) rfl (v := u_127.1 231 20) rfl dX12_trees_314 ?_
                      refine r_if_ne (tgt := 68) hx hb ⟨(by omega), (by omega)⟩ dX12_trees_317 (by decide) (fun _ => ?_) (fun c => absurd c (by omega))
                      have lk_134 : u_127.1 231 100 = S68.1 231 100 := (gu_127 100 rfl).trans ((gu_28 100 rfl).trans ((uF_ne (fun h => absurd h.2 (by decide))).trans (gu_12 100 rfl)))
                      have q_135 : (-2147483648) ≤ u_28.1 231 24 ∧ u_28.1 231 24 ≤ 2147483647 := iu_28.fi 24
                      have lk_136 : u_127.1 231 24 = u_28.1 231 24 := gu_127 24 rfl
                      exact ih_68 u_127 (it + 1) wt _ _ _ (by omega) iu_127 F_129 F_130 g_131 g_132 (by omega) (dHA.sm (S := S68) (u := u_127) hA68 (funext fun j => ((fu_127 283 rfl).2.1 j).trans (((fu_28 283 rfl).2.1 j).trans ((uF_a).trans ((fu_12 283 rfl).2.1 j))))) (fun h => absurd h (by have e9 := (show u_127.1 231 20 = u_127.1 231 20 from rfl); have a9 := xu_127; omega)) (fun h => absurd h (by have e9 := (show u_127.1 231 20 = u_127.1 231 20 from rfl); have a9 := xu_127; omega)) (fun i i0 i1 => by rw [show u_127.2.1 291 i = S68.2.1 291 i from ((fu_127 291 rfl).2.1 i).trans (((fu_28 291 rfl).2.1 i).trans ((uF_a).trans ((fu_12 291 rfl).2.1 i))), show u_127.2.1 292 i = S68.2.1 292 i from ((fu_127 292 rfl).2.1 i).trans (((fu_28 292 rfl).2.1 i).trans ((uF_a).trans ((fu_12 292 rfl).2.1 i))), show u_127.2.1 293 i = S68.2.1 293 i from ((fu_127 293 rfl).2.1 i).trans (((fu_28 293 rfl).2.1 i).trans ((uF_a).trans ((fu_12 293 rfl).2.1 i)))]; exact hW68 i i0 (by omega)) hW hL (lv_sub hl [1, 4, 5, 6] rfl)
                    · refine lv_aload_n hx hb dX12_trees_271 rfl (lv_at hl 5 rfl) ?_
                      have q_137 : (-2147483648) ≤ S.1 231 48 ∧ S.1 231 48 ≤ 2147483647 := hI.fi 48
                      refine g_X12_471 Cx hW (k := 231) (by decide) rfl (v := S.1 231 48) ((gu_28 48 rfl).trans ((uF_ne (fun h => absurd h.2 (by decide))).trans ((gu_12 48 rfl).trans ((gL68_ 48 rfl).trans ((uF_ne (fun h => absurd h.2 (by decide))).trans (gL2_ 48 rfl)))))) dX12_trees_272 ?_
                      refine lv_aload_n hx hb dX12_trees_275 rfl (lv_at hl 5 rfl) ?_
                      refine g_X12_465 Cx hW (k := 231) (by decide) rfl (v := S.1 231 46) ((gu_28 46 rfl).trans ((uF_ne (fun h => absurd h.2 (by decide))).trans ((gu_12 46 rfl).trans ((gL68_ 46 rfl).trans ((uF_ne (fun h => absurd h.2 (by decide))).trans (gL2_ 46 rfl)))))) dX12_trees_276 ?_
                      refine r_icmp_ge (tgt := 289) hx hb ⟨(by omega), (by omega)⟩ ⟨(by omega), (by omega)⟩ dX12_trees_279 (by decide) (fun c_138 => ?_) (fun c_138 => ?_)
                      · refine lv_aload_n hx hb dX12_trees_289 rfl (lv_at hl 5 rfl) ?_
                        refine g_X12_270 Cx hW (k := 231) (by decide) rfl (v := S68.1 231 20) ((gu_28 20 rfl).trans ((uF_ne (fun h => absurd h.2 (by decide))).trans (gu_12 20 rfl))) dX12_trees_290 ?_
                        refine r_if_ne (tgt := 313) hx hb ⟨(by omega), (by omega)⟩ dX12_trees_293 (by decide) (fun c => absurd (by omega) c) (fun _ => ?_)
                        refine lv_aload_n hx hb dX12_trees_296 rfl (lv_at hl 5 rfl) ?_
                        refine g_X12_738 Cx hW (k := 231) (by decide) rfl (v := S68.1 231 100) ((gu_28 100 rfl).trans ((uF_ne (fun h => absurd h.2 (by decide))).trans (gu_12 100 rfl))) dX12_trees_297 ?_
                        refine lv_bipush (v := iv 40) hx hb dX12_trees_300 (by decide) ?_
                        refine r_icmp_ne (tgt := 313) hx hb ⟨(by omega), (by omega)⟩ ⟨(by omega), (by omega)⟩ dX12_trees_302 (by decide) (fun c_139 => ?_) (fun c_139 => ?_)
                        · refine lv_aload_n hx hb dX12_trees_313 rfl (lv_at hl 5 rfl) ?_
                          refine g_X12_270 Cx hW (k := 231) (by decide) rfl (v := S68.1 231 20) ((gu_28 20 rfl).trans ((uF_ne (fun h => absurd h.2 (by decide))).trans (gu_12 20 rfl))) dX12_trees_314 ?_
                          refine r_if_ne (tgt := 68) hx hb ⟨(by omega), (by omega)⟩ dX12_trees_317 (by decide) (fun c => absurd (by omega) c) (fun _ => ?_)
                          refine lv_aload_n hx hb dX12_trees_320 rfl (lv_at hl 5 rfl) ?_
                          have lk_140 : u_28.1 231 46 = S.1 231 46 := (gu_28 46 rfl).trans ((uF_ne (fun h => absurd h.2 (by decide))).trans ((gu_12 46 rfl).trans ((gL68_ 46 rfl).trans ((uF_ne (fun h => absurd h.2 (by decide))).trans (gL2_ 46 rfl)))))
                          have lk_141 : u_28.1 231 100 = S68.1 231 100 := (gu_28 100 rfl).trans ((uF_ne (fun h => absurd h.2 (by decide))).trans (gu_12 100 rfl))
                          refine sBi (sV (As := []) (rest := []) (k := 231) Cx (s_X12_cutRow l G u_28  iu_28 (by omega) (by omega) hpa.2 (dDV.sm (S := u_12) (u := u_28) ⟨xu_12.1, xu_12.2.1 hv1⟩ (funext fun j => ((fu_28 288 rfl).2.1 j).trans (uF_a))) (dHA.sm (S := S68) (u := u_28) hA68 (funext fun j => ((fu_28 283 rfl).2.1 j).trans ((uF_a).trans ((fu_12 283 rfl).2.1 j))))) (c_X12_751 Cx rfl rfl (rmk_ok (by omega) (by decide))) hW (by decide) rfl rfl rfl hl.1 rfl (Nat.le_of_ble_eq_true rfl) dX12_trees_321 ⟨Nat.le_of_ble_eq_true rfl, Nat.le_of_ble_eq_true rfl⟩) hL (fun r_144 u_142 H locs k_143 hW hL => ?_)
                          obtain ⟨iu_142, fu_142, gu_142, xu_142⟩ := k_143
                          have F_145 := F_30.trans (fu_142.to (pl_sub (by decide)))
                          have F_146 := F_31.trans (fu_142.to (pl_sub (by decide)))
                          have g_147 : FF S u_142 (fl [20, 21, 24, 100]) := FF.trans g_32 (FF.to gu_142 (fl_sub (by decide)))
                          have g_148 : FF ((uF S2 231 100 (S.1 231 47))) u_142 (fl [20, 21, 24, 100]) := FF.trans g_33 (FF.to gu_142 (fl_sub (by decide)))
                          refine r_if_ne (tgt := 68) hx hb ⟨(by omega), (by omega)⟩ dX12_trees_324 (by decide) (fun c_149 => ?_) (fun c_149 => ?_)
                          · have q_150 : (-2147483648) ≤ u_142.1 231 100 ∧ u_142.1 231 100 ≤ 2147483647 := iu_142.fi 100
                            have lk_151 : u_142.1 231 20 = S68.1 231 20 := (gu_142 20 rfl).trans ((gu_28 20 rfl).trans ((uF_ne (fun h => absurd h.2 (by decide))).trans (gu_12 20 rfl)))
                            have q_152 : (-2147483648) ≤ u_28.1 231 24 ∧ u_28.1 231 24 ≤ 2147483647 := iu_28.fi 24
                            have lk_153 : u_142.1 231 24 = u_28.1 231 24 := gu_142 24 rfl
                            exact ih_68 u_142 (it + 1) wt _ _ _ (by omega) iu_142 F_145 F_146 g_147 g_148 (by omega) xu_142.2.2.2 (fun _ => by rw [(show u_142.1 231 24 = u_28.1 231 24 from gu_142 24 rfl), hpa.1]; have y := hlf.2; rw [if_pos (by omega)] at y; exact y) (fun _ => by have y := (show u_142.1 231 24 = u_28.1 231 24 from gu_142 24 rfl); have y2 := hpa.1; omega) (fun i i0 i1 => by rw [show u_142.2.1 291 i = S68.2.1 291 i from ((fu_142 291 rfl).2.1 i).trans (((fu_28 291 rfl).2.1 i).trans ((uF_a).trans ((fu_12 291 rfl).2.1 i))), show u_142.2.1 292 i = S68.2.1 292 i from ((fu_142 292 rfl).2.1 i).trans (((fu_28 292 rfl).2.1 i).trans ((uF_a).trans ((fu_12 292 rfl).2.1 i))), show u_142.2.1 293 i = S68.2.1 293 i from ((fu_142 293 rfl).2.1 i).trans (((fu_28 293 rfl).2.1 i).trans ((uF_a).trans ((fu_12 293 rfl).2.1 i)))]; exact hW68 i i0 (by omega)) hW hL (lv_sub hl [1, 4, 5, 6] rfl)
                          · refine lv_aload_n hx hb dX12_trees_327 rfl (lv_at hl 5 rfl) ?_
                            refine lv_bipush (v := iv 6) hx hb dX12_trees_328 (by decide) ?_
                            refine lv_iload hx hb dX12_trees_330 (lv_at hl 3 rfl) ?_
                            refine sBv (sV (As := [.int (iv 6), .int (iv (S68.1 231 24))]) (rest := []) (k := 231) Cx (s_X12_wrong l G u_142 (cd := 6) (tk := S68.1 231 24) iu_142 (by omega) (by omega)) (c_X12_321 Cx rfl rfl (rmk_ok (by omega) (by decide))) hW (by decide) rfl rfl rfl hl.1 rfl (Nat.le_of_ble_eq_true rfl) dX12_trees_332 ⟨Nat.le_of_ble_eq_true rfl, Nat.le_of_ble_eq_true rfl⟩) hL (fun u_154 H locs k_155 hW hL => ?_)
                            obtain ⟨iu_154, fu_154, gu_154, xu_154⟩ := k_155
                            have F_156 := F_145.trans (fu_154.to (pl_sub (by decide)))
                            have F_157 := F_146.trans (fu_154.to (pl_sub (by decide)))
                            have g_158 : FF S u_154 (fl [20, 21, 24, 100]) := FF.trans g_147 (FF.to gu_154 (fl_sub (by decide)))
                            have g_159 : FF ((uF S2 231 100 (S.1 231 47))) u_154 (fl [20, 21, 24, 100]) := FF.trans g_148 (FF.to gu_154 (fl_sub (by decide)))
                            refine lv_goto (tgt := 68) hx hb dX12_trees_335 (by decide) ?_
                            have q_160 : (-2147483648) ≤ u_142.1 231 100 ∧ u_142.1 231 100 ≤ 2147483647 := iu_142.fi 100
                            have lk_161 : u_154.1 231 100 = u_142.1 231 100 := gu_154 100 rfl
                            have q_162 : (-2147483648) ≤ u_154.1 231 20 ∧ u_154.1 231 20 ≤ 2147483647 := iu_154.fi 20
                            have q_163 : (-2147483648) ≤ u_28.1 231 24 ∧ u_28.1 231 24 ≤ 2147483647 := iu_28.fi 24
                            have lk_164 : u_154.1 231 24 = u_28.1 231 24 := (gu_154 24 rfl).trans (gu_142 24 rfl)
                            exact ih_68 u_154 (it + 1) wt _ _ _ (by omega) iu_154 F_156 F_157 g_158 g_159 (by omega) (dHA.sm (S := u_142) (u := u_154) xu_142.2.2.2 (funext fun j => (fu_154 283 rfl).2.1 j)) (fun h => absurd h (by have e9 := (show u_154.1 231 20 = u_154.1 231 20 from rfl); have a9 := xu_154; omega)) (fun h => absurd h (by have e9 := (show u_154.1 231 20 = u_154.1 231 20 from rfl); have a9 := xu_154; omega)) (fun i i0 i1 => by rw [show u_154.2.1 291 i = S68.2.1 291 i from ((fu_154 291 rfl).2.1 i).trans (((fu_142 291 rfl).2.1 i).trans (((fu_28 291 rfl).2.1 i).trans ((uF_a).trans ((fu_12 291 rfl).2.1 i)))), show u_154.2.1 292 i = S68.2.1 292 i from ((fu_154 292 rfl).2.1 i).trans (((fu_142 292 rfl).2.1 i).trans (((fu_28 292 rfl).2.1 i).trans ((uF_a).trans ((fu_12 292 rfl).2.1 i)))), show u_154.2.1 293 i = S68.2.1 293 i from ((fu_154 293 rfl).2.1 i).trans (((fu_142 293 rfl).2.1 i).trans (((fu_28 293 rfl).2.1 i).trans ((uF_a).trans ((fu_12 293 rfl).2.1 i))))]; exact hW68 i i0 (by omega)) hW hL (lv_sub hl [1, 4, 5, 6] rfl)
                        · refine lv_aload_n hx hb dX12_trees_305 rfl (lv_at hl 5 rfl) ?_
                          refine lv_bipush (v := iv 6) hx hb dX12_trees_306 (by decide) ?_
                          refine lv_iload hx hb dX12_trees_308 (lv_at hl 3 rfl) ?_
                          refine sBv (sV (As := [.int (iv 6), .int (iv (S68.1 231 24))]) (rest := []) (k := 231) Cx (s_X12_wrong l G u_28 (cd := 6) (tk := S68.1 231 24) iu_28 (by omega) (by omega)) (c_X12_321 Cx rfl rfl (rmk_ok (by omega) (by decide))) hW (by decide) rfl rfl rfl hl.1 rfl (Nat.le_of_ble_eq_true rfl) dX12_trees_310 ⟨Nat.le_of_ble_eq_true rfl, Nat.le_of_ble_eq_true rfl⟩) hL (fun u_165 H locs k_166 hW hL => ?_)
                          obtain ⟨iu_165, fu_165, gu_165, xu_165⟩ := k_166
                          have F_167 := F_30.trans (fu_165.to (pl_sub (by decide)))
                          have F_168 := F_31.trans (fu_165.to (pl_sub (by decide)))
                          have g_169 : FF S u_165 (fl [20, 21, 24, 100]) := FF.trans g_32 (FF.to gu_165 (fl_sub (by decide)))
                          have g_170 : FF ((uF S2 231 100 (S.1 231 47))) u_165 (fl [20, 21, 24, 100]) := FF.trans g_33 (FF.to gu_165 (fl_sub (by decide)))
                          refine lv_aload_n hx hb dX12_trees_313 rfl (lv_at hl 5 rfl) ?_
                          have q_171 : (-2147483648) ≤ u_165.1 231 20 ∧ u_165.1 231 20 ≤ 2147483647 := iu_165.fi 20
                          refine g_X12_270 Cx hW (k := 231) (by decide) rfl (v := u_165.1 231 20) rfl dX12_trees_314 ?_
                          refine r_if_ne (tgt := 68) hx hb ⟨(by omega), (by omega)⟩ dX12_trees_317 (by decide) (fun _ => ?_) (fun c => absurd c (by omega))
                          have lk_172 : u_165.1 231 100 = S68.1 231 100 := (gu_165 100 rfl).trans ((gu_28 100 rfl).trans ((uF_ne (fun h => absurd h.2 (by decide))).trans (gu_12 100 rfl)))
                          have q_173 : (-2147483648) ≤ u_28.1 231 24 ∧ u_28.1 231 24 ≤ 2147483647 := iu_28.fi 24
                          have lk_174 : u_165.1 231 24 = u_28.1 231 24 := gu_165 24 rfl
                          exact ih_68 u_165 (it + 1) wt _ _ _ (by omega) iu_165 F_167 F_168 g_169 g_170 (by omega) (dHA.sm (S := S68) (u := u_165) hA68 (funext fun j => ((fu_165 283 rfl).2.1 j).trans (((fu_28 283 rfl).2.1 j).trans ((uF_a).trans ((fu_12 283 rfl).2.1 j))))) (fun h => absurd h (by have e9 := (show u_165.1 231 20 = u_165.1 231 20 from rfl); have a9 := xu_165; omega)) (fun h => absurd h (by have e9 := (show u_165.1 231 20 = u_165.1 231 20 from rfl); have a9 := xu_165; omega)) (fun i i0 i1 => by rw [show u_165.2.1 291 i = S68.2.1 291 i from ((fu_165 291 rfl).2.1 i).trans (((fu_28 291 rfl).2.1 i).trans ((uF_a).trans ((fu_12 291 rfl).2.1 i))), show u_165.2.1 292 i = S68.2.1 292 i from ((fu_165 292 rfl).2.1 i).trans (((fu_28 292 rfl).2.1 i).trans ((uF_a).trans ((fu_12 292 rfl).2.1 i))), show u_165.2.1 293 i = S68.2.1 293 i from ((fu_165 293 rfl).2.1 i).trans (((fu_28 293 rfl).2.1 i).trans ((uF_a).trans ((fu_12 293 rfl).2.1 i)))]; exact hW68 i i0 (by omega)) hW hL (lv_sub hl [1, 4, 5, 6] rfl)
                      · refine lv_aload_n hx hb dX12_trees_282 rfl (lv_at hl 5 rfl) ?_
                        refine lv_iconst (v := iv 4) hx hb dX12_trees_283 (by decide) ?_
                        refine lv_iload hx hb dX12_trees_284 (lv_at hl 3 rfl) ?_
                        refine sBv (sV (As := [.int (iv 4), .int (iv (S68.1 231 24))]) (rest := []) (k := 231) Cx (s_X12_wrong l G u_28 (cd := 4) (tk := S68.1 231 24) iu_28 (by omega) (by omega)) (c_X12_321 Cx rfl rfl (rmk_ok (by omega) (by decide))) hW (by decide) rfl rfl rfl hl.1 rfl (Nat.le_of_ble_eq_true rfl) dX12_trees_286 ⟨Nat.le_of_ble_eq_true rfl, Nat.le_of_ble_eq_true rfl⟩) hL (fun u_175 H locs k_176 hW hL => ?_)
                        obtain ⟨iu_175, fu_175, gu_175, xu_175⟩ := k_176
                        have F_177 := F_30.trans (fu_175.to (pl_sub (by decide)))
                        have F_178 := F_31.trans (fu_175.to (pl_sub (by decide)))
                        have g_179 : FF S u_175 (fl [20, 21, 24, 100]) := FF.trans g_32 (FF.to gu_175 (fl_sub (by decide)))
                        have g_180 : FF ((uF S2 231 100 (S.1 231 47))) u_175 (fl [20, 21, 24, 100]) := FF.trans g_33 (FF.to gu_175 (fl_sub (by decide)))
                        refine lv_aload_n hx hb dX12_trees_289 rfl (lv_at hl 5 rfl) ?_
                        have q_181 : (-2147483648) ≤ u_175.1 231 20 ∧ u_175.1 231 20 ≤ 2147483647 := iu_175.fi 20
                        refine g_X12_270 Cx hW (k := 231) (by decide) rfl (v := u_175.1 231 20) rfl dX12_trees_290 ?_
                        refine r_if_ne (tgt := 313) hx hb ⟨(by omega), (by omega)⟩ dX12_trees_293 (by decide) (fun _ => ?_) (fun c => absurd c (by omega))
                        refine lv_aload_n hx hb dX12_trees_313 rfl (lv_at hl 5 rfl) ?_
                        refine g_X12_270 Cx hW (k := 231) (by decide) rfl (v := u_175.1 231 20) rfl dX12_trees_314 ?_
                        refine r_if_ne (tgt := 68) hx hb ⟨(by omega), (by omega)⟩ dX12_trees_317 (by decide) (fun _ => ?_) (fun c => absurd c (by omega))
                        have lk_182 : u_175.1 231 100 = S68.1 231 100 := (gu_175 100 rfl).trans ((gu_28 100 rfl).trans ((uF_ne (fun h => absurd h.2 (by decide))).trans (gu_12 100 rfl)))
                        have q_183 : (-2147483648) ≤ u_28.1 231 24 ∧ u_28.1 231 24 ≤ 2147483647 := iu_28.fi 24
                        have lk_184 : u_175.1 231 24 = u_28.1 231 24 := gu_175 24 rfl
                        exact ih_68 u_175 (it + 1) wt _ _ _ (by omega) iu_175 F_177 F_178 g_179 g_180 (by omega) (dHA.sm (S := S68) (u := u_175) hA68 (funext fun j => ((fu_175 283 rfl).2.1 j).trans (((fu_28 283 rfl).2.1 j).trans ((uF_a).trans ((fu_12 283 rfl).2.1 j))))) (fun h => absurd h (by have e9 := (show u_175.1 231 20 = u_175.1 231 20 from rfl); have a9 := xu_175; omega)) (fun h => absurd h (by have e9 := (show u_175.1 231 20 = u_175.1 231 20 from rfl); have a9 := xu_175; omega)) (fun i i0 i1 => by rw [show u_175.2.1 291 i = S68.2.1 291 i from ((fu_175 291 rfl).2.1 i).trans (((fu_28 291 rfl).2.1 i).trans ((uF_a).trans ((fu_12 291 rfl).2.1 i))), show u_175.2.1 292 i = S68.2.1 292 i from ((fu_175 292 rfl).2.1 i).trans (((fu_28 292 rfl).2.1 i).trans ((uF_a).trans ((fu_12 292 rfl).2.1 i))), show u_175.2.1 293 i = S68.2.1 293 i from ((fu_175 293 rfl).2.1 i).trans (((fu_28 293 rfl).2.1 i).trans ((uF_a).trans ((fu_12 293 rfl).2.1 i)))]; exact hW68 i i0 (by omega)) hW hL (lv_sub hl [1, 4, 5, 6] rfl)
                · have hbr := hiv.2.resolve_right (fun h => by have := h.1; omega)
                  have hle9 := gTt_le hbr.2.2.2
                  refine lv_aload_n hx hb dX12_trees_115 rfl (lv_at hl 4 rfl) ?_
                  refine lv_iload hx hb dX12_trees_116 (lv_at hl 2 rfl) ?_
                  refine lv_iconst (v := iv 1) hx hb dX12_trees_118 (by decide) ?_
                  refine r_iadd hx hb dX12_trees_119 ?_
                  have q_185 : (-2147483648) ≤ S.1 231 46 ∧ S.1 231 46 ≤ 2147483647 := hI.fi 46
                  have lk_186 : S68.1 231 46 = S.1 231 46 := (gL68_ 46 rfl).trans ((uF_ne (fun h => absurd h.2 (by decide))).trans (gL2_ 46 rfl))
                  refine sBi (sV (As := [.int (iv ((S68.1 231 24) + 1))]) (rest := []) (k := 231) Cx (s_X12_variableAt l G S68 (tk := (S68.1 231 24) + 1) (Xt := Xt) (Fm := Fm) (Wd := Wd) (Vt := Vt) hI68 ((funext fun j => ((hL68_ 243 rfl).2.1 j).trans ((uF_a).trans ((hL2_ 243 rfl).2.1 j)) : S68.2.1 243 = S.2.1 243).trans hX) ((funext fun j => ((hL68_ 245 rfl).2.1 j).trans ((uF_a).trans ((hL2_ 245 rfl).2.1 j)) : S68.2.1 245 = S.2.1 245).trans hFm) ((funext fun j => ((hL68_ 246 rfl).2.1 j).trans ((uF_a).trans ((hL2_ 246 rfl).2.1 j)) : S68.2.1 246 = S.2.1 246).trans hWd) ((funext fun j => ((hL68_ 247 rfl).2.1 j).trans ((uF_a).trans ((hL2_ 247 rfl).2.1 j)) : S68.2.1 247 = S.2.1 247).trans hVt) (hQ _ (by omega) (by omega) hbr.2.1) (by omega) (by omega)) (c_X12_741 Cx rfl rfl (rmk_ok (by omega) (by decide))) hW (by decide) rfl rfl rfl hl.1 rfl (Nat.le_of_ble_eq_true rfl) dX12_trees_120 ⟨Nat.le_of_ble_eq_true rfl, Nat.le_of_ble_eq_true rfl⟩) hL (fun r_189 u_187 H locs k_188 hW hL => ?_)
                  obtain ⟨iu_187, fu_187, gu_187, xu_187⟩ := k_188
                  have F_190 := hFm68.trans (fu_187.to (pl_sub (by decide)))
                  have F_191 := hL68_.trans (fu_187.to (pl_sub (by decide)))
                  have g_192 : FF S u_187 (fl [20, 21, 24, 100]) := FF.trans hGm68 (FF.to gu_187 (fl_sub (by decide)))
                  have g_193 : FF ((uF S2 231 100 (S.1 231 47))) u_187 (fl [20, 21, 24, 100]) := FF.trans gL68_ (FF.to gu_187 (fl_sub (by decide)))
                  refine lv_istore (lv' := [(6, .int (iv r_189)), (3, .int (iv (it + 1))), (5, .int (iv (S.2.1 247 (S68.1 231 24)))), (4, .int (iv (S68.1 231 24))), (2, .int (iv wt)), (0, .ref (G.2.2.1 + 231)), (1, .int (iv bb))]) hx hb dX12_trees_123 hl (by decide) rfl (fun ls hl => ?_)
                  refine lv_iload hx hb dX12_trees_125 (lv_at hl 0 rfl) ?_
                  refine r_if_eq (tgt := 140) hx hb ⟨(by omega), (by omega)⟩ dX12_trees_127 (by decide) (fun c_194 => ?_) (fun c_194 => ?_)
                  · refine lv_aload_n hx hb dX12_trees_140 rfl (lv_at hl 5 rfl) ?_
                    refine lv_iconst (v := iv 4) hx hb dX12_trees_141 (by decide) ?_
                    refine lv_iload hx hb dX12_trees_142 (lv_at hl 3 rfl) ?_
                    refine sBv (sV (As := [.int (iv 4), .int (iv (S68.1 231 24))]) (rest := []) (k := 231) Cx (s_X12_wrong l G u_187 (cd := 4) (tk := S68.1 231 24) iu_187 (by omega) (by omega)) (c_X12_321 Cx rfl rfl (rmk_ok (by omega) (by decide))) hW (by decide) rfl rfl rfl hl.1 rfl (Nat.le_of_ble_eq_true rfl) dX12_trees_144 ⟨Nat.le_of_ble_eq_true rfl, Nat.le_of_ble_eq_true rfl⟩) hL (fun u_195 H locs k_196 hW hL => ?_)
                    obtain ⟨iu_195, fu_195, gu_195, xu_195⟩ := k_196
                    have F_197 := F_190.trans (fu_195.to (pl_sub (by decide)))
                    have F_198 := F_191.trans (fu_195.to (pl_sub (by decide)))
                    have g_199 : FF S u_195 (fl [20, 21, 24, 100]) := FF.trans g_192 (FF.to gu_195 (fl_sub (by decide)))
                    have g_200 : FF ((uF S2 231 100 (S.1 231 47))) u_195 (fl [20, 21, 24, 100]) := FF.trans g_193 (FF.to gu_195 (fl_sub (by decide)))
                    refine lv_aload_n hx hb dX12_trees_147 rfl (lv_at hl 5 rfl) ?_
                    have q_201 : (-2147483648) ≤ u_195.1 231 20 ∧ u_195.1 231 20 ≤ 2147483647 := iu_195.fi 20
                    refine g_X12_270 Cx hW (k := 231) (by decide) rfl (v := u_195.1 231 20) rfl dX12_trees_148 ?_
                    refine r_if_ne (tgt := 171) hx hb ⟨(by omega), (by omega)⟩ dX12_trees_151 (by decide) (fun _ => ?_) (fun c => absurd c (by omega))
                    refine lv_aload_n hx hb dX12_trees_171 rfl (lv_at hl 5 rfl) ?_
                    refine g_X12_270 Cx hW (k := 231) (by decide) rfl (v := u_195.1 231 20) rfl dX12_trees_172 ?_
                    refine r_if_eq (tgt := 179) hx hb ⟨(by omega), (by omega)⟩ dX12_trees_175 (by decide) (fun c => absurd c (by omega)) (fun _ => ?_)
                    exact sVret Cx hr hlk hW hL ⟨iu_195, F_197, g_199, (dHA.sm (S := S68) (u := u_195) hA68 (funext fun j => ((fu_195 283 rfl).2.1 j).trans ((fu_187 283 rfl).2.1 j)))⟩ dX12_trees_178
                  · refine lv_aload_n hx hb dX12_trees_130 rfl (lv_at hl 5 rfl) ?_
                    refine g_X12_94 Cx hW (k := 231) (by decide) rfl (v := .ref (G.2.2.1 + 259)) (rd_50 iu_187) dX12_trees_131 ?_
                    refine lv_iload hx hb dX12_trees_134 (lv_at hl 0 rfl) ?_
                    refine rZald Cx hW (k := 259) (by decide) rfl (by decide) (by omega) (by omega) dX12_trees_136 ?_
                    have q_202 : 0 ≤ S.2.1 259 r_189 ∧ S.2.1 259 r_189 ≤ 1 := hI.ai 259 r_189
                    refine r_i (b := S.2.1 259 r_189) (((fu_187 259 rfl).2.1 r_189).trans (((hL68_ 259 rfl).2.1 r_189).trans ((uF_a).trans ((hL2_ 259 rfl).2.1 r_189)))) ?_
                    refine r_if_ne (tgt := 147) hx hb ⟨(by omega), (by omega)⟩ dX12_trees_137 (by decide) (fun c_203 => ?_) (fun c_203 => ?_)
                    · refine lv_aload_n hx hb dX12_trees_147 rfl (lv_at hl 5 rfl) ?_
                      refine g_X12_270 Cx hW (k := 231) (by decide) rfl (v := S68.1 231 20) (gu_187 20 rfl) dX12_trees_148 ?_
                      refine r_if_ne (tgt := 171) hx hb ⟨(by omega), (by omega)⟩ dX12_trees_151 (by decide) (fun c => absurd (by omega) c) (fun _ => ?_)
                      refine lv_aload_n hx hb dX12_trees_154 rfl (lv_at hl 5 rfl) ?_
                      have q_204 : (-2147483648) ≤ S68.1 231 100 ∧ S68.1 231 100 ≤ 2147483647 := hI68.fi 100
                      refine g_X12_738 Cx hW (k := 231) (by decide) rfl (v := S68.1 231 100) (gu_187 100 rfl) dX12_trees_155 ?_
                      refine lv_bipush (v := iv 40) hx hb dX12_trees_158 (by decide) ?_
                      refine r_icmp_ne (tgt := 171) hx hb ⟨(by omega), (by omega)⟩ ⟨(by omega), (by omega)⟩ dX12_trees_160 (by decide) (fun c_205 => ?_) (fun c_205 => ?_)
                      · refine lv_aload_n hx hb dX12_trees_171 rfl (lv_at hl 5 rfl) ?_
                        refine g_X12_270 Cx hW (k := 231) (by decide) rfl (v := S68.1 231 20) (gu_187 20 rfl) dX12_trees_172 ?_
                        refine r_if_eq (tgt := 179) hx hb ⟨(by omega), (by omega)⟩ dX12_trees_175 (by decide) (fun _ => ?_) (fun c => absurd (by omega) c)
                        refine lv_aload_n hx hb dX12_trees_179 rfl (lv_at hl 5 rfl) ?_
                        refine g_X12_193 Cx hW (k := 231) (by decide) rfl (v := .ref (G.2.2.1 + 291)) (rd_102 iu_187) dX12_trees_180 ?_
                        refine lv_iload_n hx hb dX12_trees_183 rfl (lv_at hl 4 rfl) ?_
                        refine lv_aload_n hx hb dX12_trees_184 rfl (lv_at hl 5 rfl) ?_
                        refine g_X12_738 Cx hW (k := 231) (by decide) rfl (v := S68.1 231 100) (gu_187 100 rfl) dX12_trees_185 ?_
                        refine rIast Cx hW hL (k := 291) (by decide) rfl (by decide) (by omega) (by omega) dX12_trees_188 (fun H locs hW hL => ?_)
                        have F_206 : Fr S (uA u_187 291 wt (S68.1 231 100)) (pl [231, 233, 234, 235, 237, 238, 240, 277, 283, 284, 288, 289, 291, 292, 293]) := F_190.A rfl
                        have F_207 : Fr ((uF S2 231 100 (S.1 231 47))) (uA u_187 291 wt (S68.1 231 100)) (pl [231, 233, 234, 235, 237, 238, 240, 277, 283, 284, 288, 289, 291, 292, 293]) := F_191.A rfl
                        have i_208 : dX G (uA u_187 291 wt (S68.1 231 100)) := iu_187.A (k := 291) (show (-2147483648) ≤ S68.1 231 100 ∧ S68.1 231 100 ≤ 2147483647 from ⟨by omega, by omega⟩)
                        refine lv_aload_n hx hb dX12_trees_189 rfl (lv_at hl 5 rfl) ?_
                        refine g_X12_196 Cx hW (k := 231) (by decide) rfl (v := .ref (G.2.2.1 + 292)) (rd_103 i_208) dX12_trees_190 ?_
                        refine lv_iload_n hx hb dX12_trees_193 rfl (lv_at hl 4 rfl) ?_
                        refine lv_iload hx hb dX12_trees_194 (lv_at hl 0 rfl) ?_
                        refine rIast Cx hW hL (k := 292) (by decide) rfl (by decide) (by omega) (by omega) dX12_trees_196 (fun H locs hW hL => ?_)
                        have F_209 : Fr S (uA (uA u_187 291 wt (S68.1 231 100)) 292 wt r_189) (pl [231, 233, 234, 235, 237, 238, 240, 277, 283, 284, 288, 289, 291, 292, 293]) := F_206.A rfl
                        have F_210 : Fr ((uF S2 231 100 (S.1 231 47))) (uA (uA u_187 291 wt (S68.1 231 100)) 292 wt r_189) (pl [231, 233, 234, 235, 237, 238, 240, 277, 283, 284, 288, 289, 291, 292, 293]) := F_207.A rfl
                        have i_211 : dX G (uA (uA u_187 291 wt (S68.1 231 100)) 292 wt r_189) := i_208.A (k := 292) (show (-2147483648) ≤ r_189 ∧ r_189 ≤ 2147483647 from ⟨by omega, by omega⟩)
                        refine lv_aload_n hx hb dX12_trees_197 rfl (lv_at hl 5 rfl) ?_
                        refine g_X12_199 Cx hW (k := 231) (by decide) rfl (v := .ref (G.2.2.1 + 293)) (rd_104 i_211) dX12_trees_198 ?_
                        refine lv_iload_n hx hb dX12_trees_201 rfl (lv_at hl 4 rfl) ?_
                        refine lv_iload hx hb dX12_trees_202 (lv_at hl 3 rfl) ?_
                        refine lv_iconst (v := iv 2) hx hb dX12_trees_204 (by decide) ?_
                        refine r_iadd hx hb dX12_trees_205 ?_
                        refine rIast Cx hW hL (k := 293) (by decide) rfl (by decide) (by omega) (by omega) dX12_trees_206 (fun H locs hW hL => ?_)
                        have F_212 : Fr S (uA (uA (uA u_187 291 wt (S68.1 231 100)) 292 wt r_189) 293 wt ((S68.1 231 24) + 2)) (pl [231, 233, 234, 235, 237, 238, 240, 277, 283, 284, 288, 289, 291, 292, 293]) := F_209.A rfl
                        have F_213 : Fr ((uF S2 231 100 (S.1 231 47))) (uA (uA (uA u_187 291 wt (S68.1 231 100)) 292 wt r_189) 293 wt ((S68.1 231 24) + 2)) (pl [231, 233, 234, 235, 237, 238, 240, 277, 283, 284, 288, 289, 291, 292, 293]) := F_210.A rfl
                        have i_214 : dX G (uA (uA (uA u_187 291 wt (S68.1 231 100)) 292 wt r_189) 293 wt ((S68.1 231 24) + 2)) := i_211.A (k := 293) (show (-2147483648) ≤ (S68.1 231 24) + 2 ∧ (S68.1 231 24) + 2 ≤ 2147483647 from ⟨by omega, by omega⟩)
                        refine lv_iinc (v := iv (wt + 1)) (lv' := [(2, .int (iv (wt + 1))), (6, .int (iv r_189)), (3, .int (iv (it + 1))), (5, .int (iv (S.2.1 247 (S68.1 231 24)))), (4, .int (iv (S68.1 231 24))), (0, .ref (G.2.2.1 + 231)), (1, .int (iv bb))]) hx hb dX12_trees_207 hl (k := 4) rfl ((Int32.ofInt_add _ _).symm) (by decide) rfl (fun ls hl => ?_)
                        refine lv_aload_n hx hb dX12_trees_210 rfl (lv_at hl 5 rfl) ?_
                        refine lv_iload hx hb dX12_trees_211 (lv_at hl 1 rfl) ?_
                        refine lv_iload hx hb dX12_trees_213 (lv_at hl 4 rfl) ?_
                        refine lv_iconst (v := iv 2) hx hb dX12_trees_215 (by decide) ?_
                        refine r_iadd hx hb dX12_trees_216 ?_
                        refine lv_iconst (v := iv 0) hx hb dX12_trees_217 (by decide) ?_
                        have lk_215 : (uA (uA (uA u_187 291 wt (S68.1 231 100)) 292 wt r_189) 293 wt ((S68.1 231 24) + 2)).1 231 46 = S.1 231 46 := (uA_f).trans ((uA_f).trans ((uA_f).trans ((gu_187 46 rfl).trans ((gL68_ 46 rfl).trans ((uF_ne (fun h => absurd h.2 (by decide))).trans (gL2_ 46 rfl))))))
                        have lk_216 : (uA (uA (uA u_187 291 wt (S68.1 231 100)) 292 wt r_189) 293 wt ((S68.1 231 24) + 2)).1 231 100 = S68.1 231 100 := (uA_f).trans ((uA_f).trans ((uA_f).trans (gu_187 100 rfl)))
                        refine sBv (sV (As := [.int (iv r_189), .int (iv ((S68.1 231 24) + 2)), .int (iv 0)]) (rest := []) (k := 231) Cx (s_X12_branchRow l G (uA (uA (uA u_187 291 wt (S68.1 231 100)) 292 wt r_189) 293 wt ((S68.1 231 24) + 2)) (k := r_189) (tk := (S68.1 231 24) + 2) (bb := 0) (Xt := Xt) (Fm := Fm) (Wd := Wd) (Vt := Vt) i_214 ((funext fun j => (uA_ne (fun h => absurd h.1 (by decide))).trans ((uA_ne (fun h => absurd h.1 (by decide))).trans ((uA_ne (fun h => absurd h.1 (by decide))).trans (((fu_187 243 rfl).2.1 j).trans (((hL68_ 243 rfl).2.1 j).trans ((uF_a).trans ((hL2_ 243 rfl).2.1 j)))))) : (uA (uA (uA u_187 291 wt (S68.1 231 100)) 292 wt r_189) 293 wt ((S68.1 231 24) + 2)).2.1 243 = S.2.1 243).trans hX) ((funext fun j => (uA_ne (fun h => absurd h.1 (by decide))).trans ((uA_ne (fun h => absurd h.1 (by decide))).trans ((uA_ne (fun h => absurd h.1 (by decide))).trans (((fu_187 245 rfl).2.1 j).trans (((hL68_ 245 rfl).2.1 j).trans ((uF_a).trans ((hL2_ 245 rfl).2.1 j)))))) : (uA (uA (uA u_187 291 wt (S68.1 231 100)) 292 wt r_189) 293 wt ((S68.1 231 24) + 2)).2.1 245 = S.2.1 245).trans hFm) ((funext fun j => (uA_ne (fun h => absurd h.1 (by decide))).trans ((uA_ne (fun h => absurd h.1 (by decide))).trans ((uA_ne (fun h => absurd h.1 (by decide))).trans (((fu_187 246 rfl).2.1 j).trans (((hL68_ 246 rfl).2.1 j).trans ((uF_a).trans ((hL2_ 246 rfl).2.1 j)))))) : (uA (uA (uA u_187 291 wt (S68.1 231 100)) 292 wt r_189) 293 wt ((S68.1 231 24) + 2)).2.1 246 = S.2.1 246).trans hWd) ((funext fun j => (uA_ne (fun h => absurd h.1 (by decide))).trans ((uA_ne (fun h => absurd h.1 (by decide))).trans ((uA_ne (fun h => absurd h.1 (by decide))).trans (((fu_187 247 rfl).2.1 j).trans (((hL68_ 247 rfl).2.1 j).trans ((uF_a).trans ((hL2_ 247 rfl).2.1 j)))))) : (uA (uA (uA u_187 291 wt (S68.1 231 100)) 292 wt r_189) 293 wt ((S68.1 231 24) + 2)).2.1 247 = S.2.1 247).trans hVt) (hQ _ (by omega) (by omega) hbr.2.2.1) (by omega) (by omega) (by omega) (by omega) (by omega) (dHA.sm (S := S68) (u := (uA (uA (uA u_187 291 wt (S68.1 231 100)) 292 wt r_189) 293 wt ((S68.1 231 24) + 2))) hA68 (funext fun j => (uA_ne (fun h => absurd h.1 (by decide))).trans ((uA_ne (fun h => absurd h.1 (by decide))).trans ((uA_ne (fun h => absurd h.1 (by decide))).trans ((fu_187 283 rfl).2.1 j)))))) (c_X12_744 Cx rfl rfl (rmk_ok (by omega) (by decide))) hW (by decide) rfl rfl rfl hl.1 rfl (Nat.le_of_ble_eq_true rfl) dX12_trees_218 ⟨Nat.le_of_ble_eq_true rfl, Nat.le_of_ble_eq_true rfl⟩) hL (fun u_217 H locs k_218 hW hL => ?_)
                        obtain ⟨iu_217, fu_217, gu_217, xu_217⟩ := k_218
                        have F_219 := F_212.trans (fu_217.to (pl_sub (by decide)))
                        have F_220 := F_213.trans (fu_217.to (pl_sub (by decide)))
                        have g_221 : FF S u_217 (fl [20, 21, 24, 100]) := FF.trans g_192 (FF.to gu_217 (fl_sub (by decide)))
                        have g_222 : FF ((uF S2 231 100 (S.1 231 47))) u_217 (fl [20, 21, 24, 100]) := FF.trans g_193 (FF.to gu_217 (fl_sub (by decide)))
                        refine lv_aload_n hx hb dX12_trees_221 rfl (lv_at hl 5 rfl) ?_
                        refine lv_iload hx hb dX12_trees_222 (lv_at hl 4 rfl) ?_
                        refine lv_iconst (v := iv 3) hx hb dX12_trees_224 (by decide) ?_
                        refine r_iadd hx hb dX12_trees_225 ?_
                        refine p_X12_315 Cx hW hL (k := 231) (by decide) rfl dX12_trees_226 (fun H locs hW hL => ?_)
                        have F_223 : Fr S (uF u_217 231 24 ((S68.1 231 24) + 3)) (pl [231, 233, 234, 235, 237, 238, 240, 277, 283, 284, 288, 289, 291, 292, 293]) := F_219.F rfl
                        have F_224 : Fr ((uF S2 231 100 (S.1 231 47))) (uF u_217 231 24 ((S68.1 231 24) + 3)) (pl [231, 233, 234, 235, 237, 238, 240, 277, 283, 284, 288, 289, 291, 292, 293]) := F_220.F rfl
                        have g_225 : FF S (uF u_217 231 24 ((S68.1 231 24) + 3)) (fl [20, 21, 24, 100]) := FF.F g_221 rfl
                        have g_226 : FF ((uF S2 231 100 (S.1 231 47))) (uF u_217 231 24 ((S68.1 231 24) + 3)) (fl [20, 21, 24, 100]) := FF.F g_222 rfl
                        have i_227 : dX G (uF u_217 231 24 ((S68.1 231 24) + 3)) := iu_217.F (i := 24) (show (-2147483648) ≤ (S68.1 231 24) + 3 ∧ (S68.1 231 24) + 3 ≤ 2147483647 from ⟨by omega, by omega⟩)
                        refine lv_goto (tgt := 68) hx hb dX12_trees_229 (by decide) ?_
                        have q_228 : (-2147483648) ≤ u_217.1 231 100 ∧ u_217.1 231 100 ≤ 2147483647 := iu_217.fi 100
                        have lk_229 : (uF u_217 231 24 ((S68.1 231 24) + 3)).1 231 100 = u_217.1 231 100 := uF_ne (fun h => absurd h.2 (by decide))
                        have lk_230 : (uF u_217 231 24 ((S68.1 231 24) + 3)).1 231 20 = S68.1 231 20 := (uF_ne (fun h => absurd h.2 (by decide))).trans ((gu_217 20 rfl).trans ((uA_f).trans ((uA_f).trans ((uA_f).trans (gu_187 20 rfl)))))
                        have lk_231 : (uF u_217 231 24 ((S68.1 231 24) + 3)).1 231 24 = (S68.1 231 24) + 3 := uF_on
                        exact ih_68 (uF u_217 231 24 ((S68.1 231 24) + 3)) (it + 1) (wt + 1) _ _ _ (by omega) i_227 F_223 F_224 g_225 g_226 (by omega) (dHA.sm (S := u_217) (u := (uF u_217 231 24 ((S68.1 231 24) + 3))) xu_217.2 (funext fun j => uF_a)) (fun _ => by rw [(show (uF u_217 231 24 ((S68.1 231 24) + 3)).1 231 24 = (S68.1 231 24) + 3 from uF_on)]; exact hbr.2.2.2) (fun _ => by have y := (show (uF u_217 231 24 ((S68.1 231 24) + 3)).1 231 24 = (S68.1 231 24) + 3 from uF_on); omega) (fun i i0 i1 => by by_cases z : i = wt; (rw [z, (show (uF u_217 231 24 ((S68.1 231 24) + 3)).2.1 291 wt = S68.1 231 100 from ((uF_a).trans (((fu_217 291 rfl).2.1 wt).trans ((uA_ne (fun h => absurd h.1 (by decide))).trans (uA_ne (fun h => absurd h.1 (by decide)))))).trans uA_on), (show (uF u_217 231 24 ((S68.1 231 24) + 3)).2.1 292 wt = r_189 from ((uF_a).trans (((fu_217 292 rfl).2.1 wt).trans (uA_ne (fun h => absurd h.1 (by decide))))).trans uA_on), (show (uF u_217 231 24 ((S68.1 231 24) + 3)).2.1 293 wt = (S68.1 231 24) + 2 from ((uF_a).trans ((fu_217 293 rfl).2.1 wt)).trans uA_on)]; exact ⟨(by omega), (by omega), (by omega), (by rw [show S68.1 231 24 + 2 = S68.1 231 24 + 2 from rfl]; exact hbr.2.2.1)⟩); (rw [(show (uF u_217 231 24 ((S68.1 231 24) + 3)).2.1 291 i = S68.2.1 291 i from ((uF_a).trans (((fu_217 291 rfl).2.1 i).trans ((uA_ne (fun h => absurd h.1 (by decide))).trans (uA_ne (fun h => absurd h.1 (by decide)))))).trans ((uA_ne (fun h => z h.2)).trans ((fu_187 291 rfl).2.1 i))), (show (uF u_217 231 24 ((S68.1 231 24) + 3)).2.1 292 i = S68.2.1 292 i from ((uF_a).trans (((fu_217 292 rfl).2.1 i).trans (uA_ne (fun h => absurd h.1 (by decide))))).trans ((uA_ne (fun h => z h.2)).trans ((uA_ne (fun h => absurd h.1 (by decide))).trans ((fu_187 292 rfl).2.1 i)))), (show (uF u_217 231 24 ((S68.1 231 24) + 3)).2.1 293 i = S68.2.1 293 i from ((uF_a).trans ((fu_217 293 rfl).2.1 i)).trans ((uA_ne (fun h => z h.2)).trans ((uA_ne (fun h => absurd h.1 (by decide))).trans ((uA_ne (fun h => absurd h.1 (by decide))).trans ((fu_187 293 rfl).2.1 i)))))]; exact hW68 i i0 (by omega))) hW hL (lv_sub hl [2, 0, 5, 6] rfl)
                      · refine lv_aload_n hx hb dX12_trees_163 rfl (lv_at hl 5 rfl) ?_
                        refine lv_bipush (v := iv 6) hx hb dX12_trees_164 (by decide) ?_
                        refine lv_iload hx hb dX12_trees_166 (lv_at hl 3 rfl) ?_
                        refine sBv (sV (As := [.int (iv 6), .int (iv (S68.1 231 24))]) (rest := []) (k := 231) Cx (s_X12_wrong l G u_187 (cd := 6) (tk := S68.1 231 24) iu_187 (by omega) (by omega)) (c_X12_321 Cx rfl rfl (rmk_ok (by omega) (by decide))) hW (by decide) rfl rfl rfl hl.1 rfl (Nat.le_of_ble_eq_true rfl) dX12_trees_168 ⟨Nat.le_of_ble_eq_true rfl, Nat.le_of_ble_eq_true rfl⟩) hL (fun u_232 H locs k_233 hW hL => ?_)
                        obtain ⟨iu_232, fu_232, gu_232, xu_232⟩ := k_233
                        have F_234 := F_190.trans (fu_232.to (pl_sub (by decide)))
                        have F_235 := F_191.trans (fu_232.to (pl_sub (by decide)))
                        have g_236 : FF S u_232 (fl [20, 21, 24, 100]) := FF.trans g_192 (FF.to gu_232 (fl_sub (by decide)))
                        have g_237 : FF ((uF S2 231 100 (S.1 231 47))) u_232 (fl [20, 21, 24, 100]) := FF.trans g_193 (FF.to gu_232 (fl_sub (by decide)))
                        refine lv_aload_n hx hb dX12_trees_171 rfl (lv_at hl 5 rfl) ?_
                        have q_238 : (-2147483648) ≤ u_232.1 231 20 ∧ u_232.1 231 20 ≤ 2147483647 := iu_232.fi 20
                        refine g_X12_270 Cx hW (k := 231) (by decide) rfl (v := u_232.1 231 20) rfl dX12_trees_172 ?_
                        refine r_if_eq (tgt := 179) hx hb ⟨(by omega), (by omega)⟩ dX12_trees_175 (by decide) (fun c => absurd c (by omega)) (fun _ => ?_)
                        exact sVret Cx hr hlk hW hL ⟨iu_232, F_234, g_236, (dHA.sm (S := S68) (u := u_232) hA68 (funext fun j => ((fu_232 283 rfl).2.1 j).trans ((fu_187 283 rfl).2.1 j)))⟩ dX12_trees_178
                    · refine lv_aload_n hx hb dX12_trees_140 rfl (lv_at hl 5 rfl) ?_
                      refine lv_iconst (v := iv 4) hx hb dX12_trees_141 (by decide) ?_
                      refine lv_iload hx hb dX12_trees_142 (lv_at hl 3 rfl) ?_
                      refine sBv (sV (As := [.int (iv 4), .int (iv (S68.1 231 24))]) (rest := []) (k := 231) Cx (s_X12_wrong l G u_187 (cd := 4) (tk := S68.1 231 24) iu_187 (by omega) (by omega)) (c_X12_321 Cx rfl rfl (rmk_ok (by omega) (by decide))) hW (by decide) rfl rfl rfl hl.1 rfl (Nat.le_of_ble_eq_true rfl) dX12_trees_144 ⟨Nat.le_of_ble_eq_true rfl, Nat.le_of_ble_eq_true rfl⟩) hL (fun u_239 H locs k_240 hW hL => ?_)
                      obtain ⟨iu_239, fu_239, gu_239, xu_239⟩ := k_240
                      have F_241 := F_190.trans (fu_239.to (pl_sub (by decide)))
                      have F_242 := F_191.trans (fu_239.to (pl_sub (by decide)))
                      have g_243 : FF S u_239 (fl [20, 21, 24, 100]) := FF.trans g_192 (FF.to gu_239 (fl_sub (by decide)))
                      have g_244 : FF ((uF S2 231 100 (S.1 231 47))) u_239 (fl [20, 21, 24, 100]) := FF.trans g_193 (FF.to gu_239 (fl_sub (by decide)))
                      refine lv_aload_n hx hb dX12_trees_147 rfl (lv_at hl 5 rfl) ?_
                      have q_245 : (-2147483648) ≤ u_239.1 231 20 ∧ u_239.1 231 20 ≤ 2147483647 := iu_239.fi 20
                      refine g_X12_270 Cx hW (k := 231) (by decide) rfl (v := u_239.1 231 20) rfl dX12_trees_148 ?_
                      refine r_if_ne (tgt := 171) hx hb ⟨(by omega), (by omega)⟩ dX12_trees_151 (by decide) (fun _ => ?_) (fun c => absurd c (by omega))
                      refine lv_aload_n hx hb dX12_trees_171 rfl (lv_at hl 5 rfl) ?_
                      refine g_X12_270 Cx hW (k := 231) (by decide) rfl (v := u_239.1 231 20) rfl dX12_trees_172 ?_
                      refine r_if_eq (tgt := 179) hx hb ⟨(by omega), (by omega)⟩ dX12_trees_175 (by decide) (fun c => absurd c (by omega)) (fun _ => ?_)
                      exact sVret Cx hr hlk hW hL ⟨iu_239, F_241, g_243, (dHA.sm (S := S68) (u := u_239) hA68 (funext fun j => ((fu_239 283 rfl).2.1 j).trans ((fu_187 283 rfl).2.1 j)))⟩ dX12_trees_178
              · refine lv_aload_n hx hb dX12_trees_100 rfl (lv_at hl 4 rfl) ?_
                refine lv_bipush (v := iv 6) hx hb dX12_trees_101 (by decide) ?_
                refine lv_iload hx hb dX12_trees_103 (lv_at hl 2 rfl) ?_
                refine sBv (sV (As := [.int (iv 6), .int (iv (S68.1 231 24))]) (rest := []) (k := 231) Cx (s_X12_wrong l G S68 (cd := 6) (tk := S68.1 231 24) hI68 (by omega) (by omega)) (c_X12_321 Cx rfl rfl (rmk_ok (by omega) (by decide))) hW (by decide) rfl rfl rfl hl.1 rfl (Nat.le_of_ble_eq_true rfl) dX12_trees_105 ⟨Nat.le_of_ble_eq_true rfl, Nat.le_of_ble_eq_true rfl⟩) hL (fun u_246 H locs k_247 hW hL => ?_)
                obtain ⟨iu_246, fu_246, gu_246, xu_246⟩ := k_247
                have F_248 := hFm68.trans (fu_246.to (pl_sub (by decide)))
                have F_249 := hL68_.trans (fu_246.to (pl_sub (by decide)))
                have g_250 : FF S u_246 (fl [20, 21, 24, 100]) := FF.trans hGm68 (FF.to gu_246 (fl_sub (by decide)))
                have g_251 : FF ((uF S2 231 100 (S.1 231 47))) u_246 (fl [20, 21, 24, 100]) := FF.trans gL68_ (FF.to gu_246 (fl_sub (by decide)))
                exact sVret Cx hr hlk hW hL ⟨iu_246, F_248, g_250, (dHA.sm (S := S68) (u := u_246) hA68 (funext fun j => (fu_246 283 rfl).2.1 j))⟩ dX12_trees_108
        have lk_252 : (uF S2 231 100 (S.1 231 47)).1 231 100 = S.1 231 47 := uF_on
        have q_253 : (-2147483648) ≤ S.1 231 20 ∧ S.1 231 20 ≤ 2147483647 := hI.fi 20
        have lk_254 : (uF S2 231 100 (S.1 231 47)).1 231 20 = S.1 231 20 := (uF_ne (fun h => absurd h.2 (by decide))).trans (gL2_ 20 rfl)
        have q_255 : (-2147483648) ≤ S.1 231 24 ∧ S.1 231 24 ≤ 2147483647 := hI.fi 24
        have lk_256 : (uF S2 231 100 (S.1 231 47)).1 231 24 = S.1 231 24 := (uF_ne (fun h => absurd h.2 (by decide))).trans (gL2_ 24 rfl)
        exact loop_68 (_ + 1) (uF S2 231 100 (S.1 231 47)) 0 0 _ _ _ (Nat.lt_succ_self _) i_5 F_3 Fr.rf g_4 FF.rf (by omega) (dHA.sm (S := S2) (u := (uF S2 231 100 (S.1 231 47))) hA2 (funext fun j => uF_a)) (fun _ => by rw [(show (uF S2 231 100 (S.1 231 47)).1 231 24 = S.1 231 24 from (uF_ne (fun h => absurd h.2 (by decide))).trans (gL2_ 24 rfl)), hc]; exact hg) (fun _ => by rw [(show (uF S2 231 100 (S.1 231 47)).1 231 24 = S.1 231 24 from (uF_ne (fun h => absurd h.2 (by decide))).trans (gL2_ 24 rfl))]; omega) (fun i a b => absurd b (by omega)) hW hL (lv_sub hl [0, 1, 2, 3] rfl)
      · refine lv_iconst (v := iv 0) hx hb dX12_trees_10 (by decide) ?_
        refine lv_istore_n (lv' := [(3, .int (iv 0)), (2, .int (iv i)), (0, .ref (G.2.2.1 + 231)), (1, .int (iv bb))]) hx hb dX12_trees_11 rfl hl (by decide) rfl (fun ls hl => ?_)
        have loop_12 : ∀ (fuel : Nat) (S12 : sS) (j : Int) (H : Heap) (locs : List Loc) (ls : Array Slot), (S.1 231 46 + 1 - j).toNat < fuel → (dX G S12) → (Fr S S12 (pl [231, 233, 234, 235, 237, 238, 240, 277, 283, 284, 288, 289, 291, 292, 293])) → (Fr S S12 (pl [283])) → (Fr S2 S12 (pl [283])) → (FF S S12 (fl [20, 21, 24, 100])) → (FF S S12 (fl [])) → (FF S2 S12 (fl [])) → (0 ≤ j ∧ j ≤ S.1 231 46 + 1) → (dHA S12) → sW G 294 S12 H → sL G locs → lv_has ls 7 [(3, .int (iv j)), (2, .int (iv i)), (0, .ref (G.2.2.1 + 231)), (1, .int (iv bb))] → W p l e (rmk 7 0 0) s m args below meth c H locs 0 0 (MQ below (sQv G 294 (fun u => dX G u ∧ Fr S u (pl [231, 233, 234, 235, 237, 238, 240, 277, 283, 284, 288, 289, 291, 292, 293]) ∧ FF S u (fl [20, 21, 24, 100]) ∧ (dHA u))) args s 0 0 (sF G)) (F0 m 12 ls []) := by
          intro fuel
          induction fuel with
          | zero => intro S12 j H locs ls hmeas hI12 hFm12 hFL212 hL12_ hGm12 hGL212 gL12_ hj hA12 hW hL hl; exact absurd hmeas (Nat.not_lt_zero _)
          | succ fuel ih_12 =>
            intro S12 j H locs ls hmeas hI12 hFm12 hFL212 hL12_ hGm12 hGL212 gL12_ hj hA12 hW hL hl
            refine lv_iload_n hx hb dX12_trees_12 rfl (lv_at hl 0 rfl) ?_
            refine lv_aload_n hx hb dX12_trees_13 rfl (lv_at hl 2 rfl) ?_
            have q_257 : (-2147483648) ≤ S.1 231 46 ∧ S.1 231 46 ≤ 2147483647 := hI.fi 46
            refine g_X12_465 Cx hW (k := 231) (by decide) rfl (v := S.1 231 46) ((gL12_ 46 rfl).trans (gL2_ 46 rfl)) dX12_trees_14 ?_
            refine r_icmp_gt (tgt := 50) hx hb ⟨(by omega), (by omega)⟩ ⟨(by omega), (by omega)⟩ dX12_trees_17 (by decide) (fun c_258 => ?_) (fun c_258 => ?_)
            · refine lv_iinc (v := iv (i + 1)) (lv' := [(2, .int (iv (i + 1))), (3, .int (iv j)), (0, .ref (G.2.2.1 + 231)), (1, .int (iv bb))]) hx hb dX12_trees_50 hl (k := 1) rfl ((Int32.ofInt_add _ _).symm) (by decide) rfl (fun ls hl => ?_)
              refine lv_goto (tgt := 2) hx hb dX12_trees_53 (by decide) ?_
              exact ih_2 S12 (i + 1) _ _ _ (by omega) hI12 hFm12 hFL212 hGm12 hGL212 (by omega) hA12 hW hL (lv_sub hl [0, 2, 3] rfl)
            · refine lv_aload_n hx hb dX12_trees_20 rfl (lv_at hl 2 rfl) ?_
              refine g_X12_169 Cx hW (k := 231) (by decide) rfl (v := .ref (G.2.2.1 + 283)) (rd_93 hI12) dX12_trees_21 ?_
              refine lv_aload_n hx hb dX12_trees_24 rfl (lv_at hl 2 rfl) ?_
              refine lv_iload_n hx hb dX12_trees_25 rfl (lv_at hl 1 rfl) ?_
              refine lv_iload_n hx hb dX12_trees_26 rfl (lv_at hl 0 rfl) ?_
              refine sBi (sV (As := [.int (iv i), .int (iv j)]) (rest := [.ref (G.2.2.1 + 283)]) (k := 231) Cx (s_X12_heldCell l G S12 (i := i) (j := j) (by omega) (by omega)) (c_X12_735 Cx rfl rfl (rmk_ok (by omega) (by decide))) hW (by decide) rfl rfl rfl hl.1 rfl (Nat.le_of_ble_eq_true rfl) dX12_trees_27 ⟨Nat.le_of_ble_eq_true rfl, Nat.le_of_ble_eq_true rfl⟩) hL (fun q0 u_259 H locs k_260 hW hL => ?_)
              obtain ⟨eu_259, xu_259⟩ := k_260
              rw [eu_259] at hW
              have hgv := hGM.2 (13 * i + j)
              refine lv_aload_n hx hb dX12_trees_30 rfl (lv_at hl 2 rfl) ?_
              refine g_X12_190 Cx hW (k := 231) (by decide) rfl (v := .ref (G.2.2.1 + 290)) (rd_101 hI12) dX12_trees_31 ?_
              refine lv_bipush (v := iv 13) hx hb dX12_trees_34 (by decide) ?_
              refine lv_iload_n hx hb dX12_trees_36 rfl (lv_at hl 1 rfl) ?_
              refine r_imul hx hb dX12_trees_37 ?_
              refine lv_iload_n hx hb dX12_trees_38 rfl (lv_at hl 0 rfl) ?_
              refine r_iadd hx hb dX12_trees_39 ?_
              refine rLald Cx hW (k := 290) (by decide) rfl (by decide) (by omega) (by omega) dX12_trees_40 ?_
              have q_261 : -9223372036854775808 ≤ S.2.2.1 290 ((13 * i) + j) ∧ S.2.2.1 290 ((13 * i) + j) ≤ 9223372036854775807 := hI.li 290 ((13 * i) + j)
              refine r_j (b := S.2.2.1 290 ((13 * i) + j)) (((hL12_ 290 rfl).2.2.1 ((13 * i) + j)).trans ((hL2_ 290 rfl).2.2.1 ((13 * i) + j))) ?_
              refine sBv (sSt (As := [.ref (G.2.2.1 + 283), .int (iv q0), .long (jv (S.2.2.1 290 ((13 * i) + j)))]) (rest := []) Cx (s_X12_put l G S12 (ka := 283) (po := q0) (v := S.2.2.1 290 ((13 * i) + j)) (Nka := 5460) hI12 ⟨rfl, by decide, by decide, by decide, rfl⟩ (by omega) (by omega)) (c_X12_241 Cx rfl rfl (rmk_ok (by omega) (by decide))) hW rfl hl.1 rfl (Nat.le_of_ble_eq_true rfl) dX12_trees_41 ⟨Nat.le_of_ble_eq_true rfl, Nat.le_of_ble_eq_true rfl⟩) hL (fun u_262 H locs k_263 hW hL => ?_)
              obtain ⟨iu_262, fu_262, xu_262⟩ := k_263
              have F_264 := hFm12.trans (fu_262.to (p1_sub rfl))
              have F_265 := hFL212.trans (fu_262.to (p1_sub rfl))
              have F_266 := hL12_.trans (fu_262.to (p1_sub rfl))
              have g_267 : FF S u_262 (fl [20, 21, 24, 100]) := FF.fr hGm12 fu_262 rfl
              have g_268 : FF S u_262 (fl []) := FF.fr hGL212 fu_262 rfl
              have g_269 : FF S2 u_262 (fl []) := FF.fr gL12_ fu_262 rfl
              refine lv_iinc (v := iv (j + 1)) (lv' := [(3, .int (iv (j + 1))), (2, .int (iv i)), (0, .ref (G.2.2.1 + 231)), (1, .int (iv bb))]) hx hb dX12_trees_44 hl (k := 0) rfl ((Int32.ofInt_add _ _).symm) (by decide) rfl (fun ls hl => ?_)
              refine lv_goto (tgt := 12) hx hb dX12_trees_47 (by decide) ?_
              exact ih_12 u_262 (j + 1) _ _ _ (by omega) iu_262 F_264 F_265 F_266 g_267 g_268 g_269 (by omega) (dHf.put (f := S12.2.1 283) (a := i) (b := j) (P := q0) hA12 (by omega) (by omega) (by omega) (xu_262.1.mono (by omega)) (fun x a => xu_262.2.2 x (by omega))) hW hL (lv_sub hl [0, 1, 2, 3] rfl)
        exact loop_12 (_ + 1) S2 0 _ _ _ (Nat.lt_succ_self _) hI2 hFm2 hL2_ Fr.rf hGm2 gL2_ FF.rf (by omega) hA2 hW hL (lv_sub hl [0, 1, 2, 3] rfl)
  exact loop_2 (_ + 1) S 1 _ _ _ (Nat.lt_succ_self _) hI (Fr.rf : Fr S S (pl [231, 233, 234, 235, 237, 238, 240, 277, 283, 284, 288, 289, 291, 292, 293])) Fr.rf FF.rf FF.rf (by omega) hHA hW hL (lv_sub hl [0, 1, 2] rfl)
