theorem NO_z {f : Int → Int} {p L : Int} (h : f p = 0) (hL : 0 ≤ L) : NO f p L := by
  have a := al_e (f := f) (p := p)
  exact ⟨by omega, fun i i0 i1 => by omega, fun z => absurd (by omega : al f p = 0) z⟩
def MD (S : sS) : Prop := (0 ≤ S.1 231 46 ∧ S.1 231 46 ≤ 12) ∧ (0 ≤ S.1 231 47 ∧ S.1 231 47 ≤ 16) ∧ 0 ≤ S.1 231 63 ∧ S.1 231 63 ≤ 40
def BO (S : sS) : Prop := (∀ i, 1 ≤ i → i ≤ S.1 231 58 → 0 ≤ S.2.1 265 i ∧ S.2.1 265 i ≤ S.1 231 46 + S.1 231 63) ∧ ∀ j, 1 ≤ j → j ≤ S.1 231 59 → 0 ≤ S.2.1 266 j ∧ S.2.1 266 j ≤ S.1 231 46 + S.1 231 63
/-- the multipliers -/
def MO (S : sS) : Prop := ∀ k, 0 ≤ k → k ≤ 40 → NO (S.2.1 278) (8 * k) 6
/-- the best point -/
def BS (S : sS) : Prop := NO (S.2.1 272) 0 6 ∧ NO (S.2.1 273) 0 6 ∧ 0 < nv (S.2.1 273) 0 ∧ ∀ j, 1 ≤ j → j ≤ S.1 231 46 → NO (S.2.1 274) (8 * j) 6
theorem c8_far {a k x : Int} (ne : a ≠ k) (hx : 8 * a ≤ x ∧ x ≤ 8 * a + 6) : x < 8 * k ∨ 8 * k + 6 < x := by omega
theorem WX.out {S : sS} (h : WX S) {r : Int} (hr : 1 ≤ r ∧ r ≤ S.1 231 58) (e : S.2.1 265 r = 0) : ∃ j, 1 ≤ j ∧ j ≤ S.1 231 59 ∧ TV S (r + 1) j ≠ 0 := by
  rcases h with ⟨r0, h0, hb0, hbn, hon, hwx, hj⟩ | ⟨hn, _⟩
  · by_cases q : r = r0
    · rw [q]; exact hj
    · exact absurd e (hbn r hr.1 hr.2 q)
  · exact absurd e (hn r hr.1 hr.2)
theorem TV_z {S : sS} (hD : DOK S) {i j : Int} (hi : 0 ≤ i ∧ i ≤ S.1 231 58 + 1) (hw : i = 1 → S.1 231 60 = 1) (hj : 0 ≤ j ∧ j ≤ S.1 231 59) : TV S i j = 0 ↔ S.2.1 262 (8 * (15 * i + j)) = 0 := (hD.at hi hw hj rfl).sgn.2.2
set_option maxRecDepth 100000 in
set_option maxHeartbeats 4000000 in
theorem s_X12_isWholeGoal (l : Launch) (G : sG) (S : sS)  (hI : dX G S) (hM : MD S) : Met l yX12_isWholeGoal (.code yX12_isWholeGoal cX12_isWholeGoal 2 (some .boolean) :: tb) (rmk 1 0 0) (sPc G 294 S [.ref (G.2.2.1 + 231)]) (sQi G 294 (fun r u => u = S ∧ (0 ≤ r ∧ r ≤ 1))) 0 0 (sF G) := by
  refine sEnter (by decide) (Nat.le_of_ble_eq_true rfl) ?_
  intro p e s m args below meth c Cx hr hlk hnm hW ls hl
  have Cx : sC G p m c cX12_isWholeGoal 2 s args RX12 := Cx
  obtain ⟨hx, hb, hml, hown, hts⟩ := id Cx.1
  have hL : sL G [] := sL_nil
  have hl : lv_has ls 2 [(0, .ref (G.2.2.1 + 231))] := hl
  have hW0 := hW
  have hm1 : (0 ≤ S.1 231 46 ∧ S.1 231 46 ≤ 12) ∧ (0 ≤ S.1 231 47 ∧ S.1 231 47 ≤ 16) ∧ 0 ≤ S.1 231 63 ∧ S.1 231 63 ≤ 40 := hM
  refine lv_iconst (v := iv 1) hx hb dX12_isWholeGoal_0 (by decide) ?_
  refine lv_istore_n (lv' := [(1, .int (iv 1)), (0, .ref (G.2.2.1 + 231))]) hx hb dX12_isWholeGoal_1 rfl hl (by decide) rfl (fun ls hl => ?_)
  have loop_2 : ∀ (fuel : Nat) (j : Int) (H : Heap) (locs : List Loc) (ls : Array Slot), (13 - j).toNat < fuel → (1 ≤ j ∧ j ≤ 13) → sW G 294 S H → sL G locs → lv_has ls 2 [(1, .int (iv j)), (0, .ref (G.2.2.1 + 231))] → W p l e (rmk 1 0 0) s m args below meth c H locs 0 0 (MQ below (sQi G 294 (fun r u => u = S ∧ (0 ≤ r ∧ r ≤ 1))) args s 0 0 (sF G)) (F0 m 2 ls []) := by
    intro fuel
    induction fuel with
    | zero => intro j H locs ls hmeas hj hW hL hl; exact absurd hmeas (Nat.not_lt_zero _)
    | succ fuel ih_2 =>
      intro j H locs ls hmeas hj hW hL hl
      refine lv_iload_n hx hb dX12_isWholeGoal_2 rfl (lv_at hl 0 rfl) ?_
      refine lv_aload_n hx hb dX12_isWholeGoal_3 rfl (lv_at hl 1 rfl) ?_
      have q_1 : (-2147483648) ≤ S.1 231 46 ∧ S.1 231 46 ≤ 2147483647 := hI.fi 46
      refine g_X12_465 Cx hW (k := 231) (by decide) rfl (v := S.1 231 46) rfl dX12_isWholeGoal_4 ?_
      refine r_icmp_gt (tgt := 38) hx hb ⟨(by omega), (by omega)⟩ ⟨(by omega), (by omega)⟩ dX12_isWholeGoal_7 (by decide) (fun c_2 => ?_) (fun c_2 => ?_)
      · refine lv_iconst (v := iv 1) hx hb dX12_isWholeGoal_38 (by decide) ?_
        exact sZret Cx hr hlk hW hL (by omega) ⟨rfl, (by omega)⟩ dX12_isWholeGoal_39
      · refine lv_aload_n hx hb dX12_isWholeGoal_10 rfl (lv_at hl 1 rfl) ?_
        refine g_X12_97 Cx hW (k := 231) (by decide) rfl (v := .ref (G.2.2.1 + 260)) (rd_51 hI) dX12_isWholeGoal_11 ?_
        refine lv_iload_n hx hb dX12_isWholeGoal_14 rfl (lv_at hl 0 rfl) ?_
        refine rLald Cx hW (k := 260) (by decide) rfl (by decide) (by omega) (by omega) dX12_isWholeGoal_15 ?_
        have q_3 : -9223372036854775808 ≤ S.2.2.1 260 j ∧ S.2.2.1 260 j ≤ 9223372036854775807 := hI.li 260 j
        refine r_j (b := S.2.2.1 260 j) rfl ?_
        refine lv_lconst (v := jv 0) hx hb dX12_isWholeGoal_16 (by decide) ?_
        refine r_lcmp hx hb ⟨(by omega), (by omega)⟩ ⟨(by omega), (by omega)⟩ dX12_isWholeGoal_17 (fun z_4 az_4 bz_4 cz_4 => ?_)
        refine r_if_eq (tgt := 32) hx hb ⟨(by omega), (by omega)⟩ dX12_isWholeGoal_18 (by decide) (fun c_5 => ?_) (fun c_5 => ?_)
        · refine lv_iinc (v := iv (j + 1)) (lv' := [(1, .int (iv (j + 1))), (0, .ref (G.2.2.1 + 231))]) hx hb dX12_isWholeGoal_32 hl (k := 0) rfl ((Int32.ofInt_add _ _).symm) (by decide) rfl (fun ls hl => ?_)
          refine lv_goto (tgt := 2) hx hb dX12_isWholeGoal_35 (by decide) ?_
          exact ih_2 (j + 1) _ _ _ (by omega) (by omega) hW hL (lv_sub hl [0, 1] rfl)
        · refine lv_aload_n hx hb dX12_isWholeGoal_21 rfl (lv_at hl 1 rfl) ?_
          refine g_X12_94 Cx hW (k := 231) (by decide) rfl (v := .ref (G.2.2.1 + 259)) (rd_50 hI) dX12_isWholeGoal_22 ?_
          refine lv_iload_n hx hb dX12_isWholeGoal_25 rfl (lv_at hl 0 rfl) ?_
          refine rZald Cx hW (k := 259) (by decide) rfl (by decide) (by omega) (by omega) dX12_isWholeGoal_26 ?_
          have q_6 : 0 ≤ S.2.1 259 j ∧ S.2.1 259 j ≤ 1 := hI.ai 259 j
          refine r_i (b := S.2.1 259 j) rfl ?_
          refine r_if_ne (tgt := 32) hx hb ⟨(by omega), (by omega)⟩ dX12_isWholeGoal_27 (by decide) (fun c_7 => ?_) (fun c_7 => ?_)
          · refine lv_iinc (v := iv (j + 1)) (lv' := [(1, .int (iv (j + 1))), (0, .ref (G.2.2.1 + 231))]) hx hb dX12_isWholeGoal_32 hl (k := 0) rfl ((Int32.ofInt_add _ _).symm) (by decide) rfl (fun ls hl => ?_)
            refine lv_goto (tgt := 2) hx hb dX12_isWholeGoal_35 (by decide) ?_
            exact ih_2 (j + 1) _ _ _ (by omega) (by omega) hW hL (lv_sub hl [0, 1] rfl)
          · refine lv_iconst (v := iv 0) hx hb dX12_isWholeGoal_30 (by decide) ?_
            exact sZret Cx hr hlk hW hL (by omega) ⟨rfl, (by omega)⟩ dX12_isWholeGoal_31
  exact loop_2 (_ + 1) 1 _ _ _ (Nat.lt_succ_self _) (by omega) hW hL (lv_sub hl [0, 1] rfl)

set_option maxRecDepth 100000 in
set_option maxHeartbeats 4000000 in
theorem s_X12_isNoBetter (l : Launch) (G : sG) (S : sS)  (hI : dX G S) (hM : MD S) (hD : DOK S) (hBS : BS S) : Met l yX12_isNoBetter (.code yX12_isNoBetter cX12_isNoBetter 1 (some .boolean) :: tb) (rmk 6 0 0) (sPc G 294 S [.ref (G.2.2.1 + 231)]) (sQi G 294 (fun r u => dX G u ∧ Fr S u (pl [233, 234, 235, 237, 238, 240]) ∧ FF S u (fl []) ∧ (0 ≤ r ∧ r ≤ 1))) 0 0 (sF G) := by
  refine sEnter (by decide) (Nat.le_of_ble_eq_true rfl) ?_
  intro p e s m args below meth c Cx hr hlk hnm hW ls hl
  have Cx : sC G p m c cX12_isNoBetter 1 s args RX12 := Cx
  obtain ⟨hx, hb, hml, hown, hts⟩ := id Cx.1
  have hL : sL G [] := sL_nil
  have hl : lv_has ls 1 [(0, .ref (G.2.2.1 + 231))] := hl
  have hW0 := hW
  have hd1 := hD.1
  have hds := hD.2.2.1.sgn
  have hdp := hD.2.2.2
  have hN00 := hD.at (i := 0) (j := 0) (p := 0) (by omega) (by omega) (by omega) rfl
  refine lv_aload_n hx hb dX12_isNoBetter_0 rfl (lv_at hl 0 rfl) ?_
  refine sBi (sV (As := []) (rest := []) (k := 231) Cx (s_X12_isWholeGoal l G S  hI hM) (c_X12_628 Cx rfl rfl (rmk_ok (by omega) (by decide))) hW (by decide) rfl rfl rfl hl.1 rfl (Nat.le_of_ble_eq_true rfl) dX12_isNoBetter_1 ⟨Nat.le_of_ble_eq_true rfl, Nat.le_of_ble_eq_true rfl⟩) hL (fun r_3 u_1 H locs k_2 hW hL => ?_)
  obtain ⟨eu_1, xu_1⟩ := k_2
  rw [eu_1] at hW
  refine r_if_eq (tgt := 71) hx hb ⟨(by omega), (by omega)⟩ dX12_isNoBetter_4 (by decide) (fun c_4 => ?_) (fun c_4 => ?_)
  · refine lv_aload_n hx hb dX12_isNoBetter_71 rfl (lv_at hl 0 rfl) ?_
    refine g_X12_103 Cx hW (k := 231) (by decide) rfl (v := .ref (G.2.2.1 + 262)) (rd_53 hI) dX12_isNoBetter_72 ?_
    refine lv_iconst (v := iv 0) hx hb dX12_isNoBetter_75 (by decide) ?_
    refine lv_aload_n hx hb dX12_isNoBetter_76 rfl (lv_at hl 0 rfl) ?_
    refine g_X12_137 Cx hW (k := 231) (by decide) rfl (v := .ref (G.2.2.1 + 273)) (rd_81 hI) dX12_isNoBetter_77 ?_
    refine lv_iconst (v := iv 0) hx hb dX12_isNoBetter_80 (by decide) ?_
    refine lv_aload_n hx hb dX12_isNoBetter_81 rfl (lv_at hl 0 rfl) ?_
    refine g_X12_26 Cx hW (k := 231) (by decide) rfl (v := .ref (G.2.2.1 + 237)) (rd_7 hI) dX12_isNoBetter_82 ?_
    refine lv_iconst (v := iv 0) hx hb dX12_isNoBetter_85 (by decide) ?_
    refine sBv (sSt (As := [.ref (G.2.2.1 + 262), .int (iv 0), .ref (G.2.2.1 + 273), .int (iv 0), .ref (G.2.2.1 + 237), .int (iv 0)]) (rest := []) Cx (s_X12_multiply l G S (ka := 262) (po := 0) (kb := 273) (qo := 0) (kc := 237) (ro := 0) (Nka := 5280) (Nkb := 8) (Nkc := 68) (La := 6) (Lb := 6) hI ⟨rfl, by decide, by decide, by decide, rfl⟩ ⟨rfl, by decide, by decide, by decide, rfl⟩ ⟨rfl, by decide, by decide, by decide, rfl⟩ (show (237 : Nat) ≠ 273 by decide) (show (237 : Nat) ≠ 262 by decide) (by omega) hN00 hBS.2.1) (c_X12_548 Cx rfl rfl (rmk_ok (by omega) (by decide))) hW rfl hl.1 rfl (Nat.le_of_ble_eq_true rfl) dX12_isNoBetter_86 ⟨Nat.le_of_ble_eq_true rfl, Nat.le_of_ble_eq_true rfl⟩) hL (fun u_5 H locs k_6 hW hL => ?_)
    obtain ⟨iu_5, fu_5, xu_5⟩ := k_6
    have F_7 := (Fr.rf : Fr S S (pl [233, 234, 235, 237, 238, 240])).trans (fu_5.to (p1_sub rfl))
    have g_8 : FF S u_5 (fl []) := FF.fr FF.rf fu_5 rfl
    refine lv_aload_n hx hb dX12_isNoBetter_89 rfl (lv_at hl 0 rfl) ?_
    refine g_X12_134 Cx hW (k := 231) (by decide) rfl (v := .ref (G.2.2.1 + 272)) (rd_80 iu_5) dX12_isNoBetter_90 ?_
    refine lv_iconst (v := iv 0) hx hb dX12_isNoBetter_93 (by decide) ?_
    refine lv_aload_n hx hb dX12_isNoBetter_94 rfl (lv_at hl 0 rfl) ?_
    refine g_X12_109 Cx hW (k := 231) (by decide) rfl (v := .ref (G.2.2.1 + 264)) (rd_55 iu_5) dX12_isNoBetter_95 ?_
    refine lv_iconst (v := iv 0) hx hb dX12_isNoBetter_98 (by decide) ?_
    refine lv_aload_n hx hb dX12_isNoBetter_99 rfl (lv_at hl 0 rfl) ?_
    refine g_X12_29 Cx hW (k := 231) (by decide) rfl (v := .ref (G.2.2.1 + 238)) (rd_8 iu_5) dX12_isNoBetter_100 ?_
    refine lv_iconst (v := iv 0) hx hb dX12_isNoBetter_103 (by decide) ?_
    refine sBv (sSt (As := [.ref (G.2.2.1 + 272), .int (iv 0), .ref (G.2.2.1 + 264), .int (iv 0), .ref (G.2.2.1 + 238), .int (iv 0)]) (rest := []) Cx (s_X12_multiply l G u_5 (ka := 272) (po := 0) (kb := 264) (qo := 0) (kc := 238) (ro := 0) (Nka := 8) (Nkb := 8) (Nkc := 68) (La := 6) (Lb := 6) iu_5 ⟨rfl, by decide, by decide, by decide, rfl⟩ ⟨rfl, by decide, by decide, by decide, rfl⟩ ⟨rfl, by decide, by decide, by decide, rfl⟩ (show (238 : Nat) ≠ 264 by decide) (show (238 : Nat) ≠ 272 by decide) (by omega) (by rw [show u_5.2.1 272 = S.2.1 272 from (funext fun j => (fu_5 272 rfl).2.1 j : u_5.2.1 272 = S.2.1 272)]; exact hBS.1) (by rw [show u_5.2.1 264 = S.2.1 264 from (funext fun j => (fu_5 264 rfl).2.1 j : u_5.2.1 264 = S.2.1 264)]; exact hD.2.2.1)) (c_X12_548 Cx rfl rfl (rmk_ok (by omega) (by decide))) hW rfl hl.1 rfl (Nat.le_of_ble_eq_true rfl) dX12_isNoBetter_104 ⟨Nat.le_of_ble_eq_true rfl, Nat.le_of_ble_eq_true rfl⟩) hL (fun u_9 H locs k_10 hW hL => ?_)
    obtain ⟨iu_9, fu_9, xu_9⟩ := k_10
    have F_11 := F_7.trans (fu_9.to (p1_sub rfl))
    have g_12 : FF S u_9 (fl []) := FF.fr g_8 fu_9 rfl
    refine lv_aload_n hx hb dX12_isNoBetter_107 rfl (lv_at hl 0 rfl) ?_
    refine g_X12_26 Cx hW (k := 231) (by decide) rfl (v := .ref (G.2.2.1 + 237)) (rd_7 iu_9) dX12_isNoBetter_108 ?_
    refine lv_iconst (v := iv 0) hx hb dX12_isNoBetter_111 (by decide) ?_
    refine lv_aload_n hx hb dX12_isNoBetter_112 rfl (lv_at hl 0 rfl) ?_
    refine g_X12_29 Cx hW (k := 231) (by decide) rfl (v := .ref (G.2.2.1 + 238)) (rd_8 iu_9) dX12_isNoBetter_113 ?_
    refine lv_iconst (v := iv 0) hx hb dX12_isNoBetter_116 (by decide) ?_
    refine sBi (sSt (As := [.ref (G.2.2.1 + 237), .int (iv 0), .ref (G.2.2.1 + 238), .int (iv 0)]) (rest := []) Cx (s_X12_compare l G u_9 (ka := 237) (po := 0) (kb := 238) (qo := 0) (Nka := 68) (Nkb := 68) (La := 12) (Lb := 12) iu_9 ⟨rfl, by decide, by decide, by decide, rfl⟩ ⟨rfl, by decide, by decide, by decide, rfl⟩ (by omega) (by rw [show u_9.2.1 237 = u_5.2.1 237 from (funext fun j => (fu_9 237 rfl).2.1 j : u_9.2.1 237 = u_5.2.1 237)]; exact xu_5.1) xu_9.1) (c_X12_552 Cx rfl rfl (rmk_ok (by omega) (by decide))) hW rfl hl.1 rfl (Nat.le_of_ble_eq_true rfl) dX12_isNoBetter_117 ⟨Nat.le_of_ble_eq_true rfl, Nat.le_of_ble_eq_true rfl⟩) hL (fun r_15 u_13 H locs k_14 hW hL => ?_)
    obtain ⟨eu_13, xu_13⟩ := k_14
    rw [eu_13] at hW
    have yu_13 := xu_13.2
    unfold Hd at yu_13
    refine r_if_gt (tgt := 127) hx hb ⟨(by omega), (by omega)⟩ dX12_isNoBetter_120 (by decide) (fun c_16 => ?_) (fun c_16 => ?_)
    · refine lv_iconst (v := iv 0) hx hb dX12_isNoBetter_127 (by decide) ?_
      exact sZret Cx hr hlk hW hL (by omega) ⟨iu_9, F_11, g_12, (by omega)⟩ dX12_isNoBetter_128
    · refine lv_iconst (v := iv 1) hx hb dX12_isNoBetter_123 (by decide) ?_
      refine lv_goto (tgt := 128) hx hb dX12_isNoBetter_124 (by decide) ?_
      exact sZret Cx hr hlk hW hL (by omega) ⟨iu_9, F_11, g_12, (by omega)⟩ dX12_isNoBetter_128
  · refine lv_aload_n hx hb dX12_isNoBetter_7 rfl (lv_at hl 0 rfl) ?_
    refine lv_aload_n hx hb dX12_isNoBetter_8 rfl (lv_at hl 0 rfl) ?_
    refine g_X12_103 Cx hW (k := 231) (by decide) rfl (v := .ref (G.2.2.1 + 262)) (rd_53 hI) dX12_isNoBetter_9 ?_
    refine lv_iconst (v := iv 0) hx hb dX12_isNoBetter_12 (by decide) ?_
    refine lv_aload_n hx hb dX12_isNoBetter_13 rfl (lv_at hl 0 rfl) ?_
    refine g_X12_109 Cx hW (k := 231) (by decide) rfl (v := .ref (G.2.2.1 + 264)) (rd_55 hI) dX12_isNoBetter_14 ?_
    refine lv_iconst (v := iv 0) hx hb dX12_isNoBetter_17 (by decide) ?_
    refine lv_aload_n hx hb dX12_isNoBetter_18 rfl (lv_at hl 0 rfl) ?_
    refine g_X12_26 Cx hW (k := 231) (by decide) rfl (v := .ref (G.2.2.1 + 237)) (rd_7 hI) dX12_isNoBetter_19 ?_
    refine lv_iconst (v := iv 0) hx hb dX12_isNoBetter_22 (by decide) ?_
    refine lv_aload_n hx hb dX12_isNoBetter_23 rfl (lv_at hl 0 rfl) ?_
    refine g_X12_35 Cx hW (k := 231) (by decide) rfl (v := .ref (G.2.2.1 + 240)) (rd_10 hI) dX12_isNoBetter_24 ?_
    refine lv_iconst (v := iv 0) hx hb dX12_isNoBetter_27 (by decide) ?_
    refine sBv (sV (As := [.ref (G.2.2.1 + 262), .int (iv 0), .ref (G.2.2.1 + 264), .int (iv 0), .ref (G.2.2.1 + 237), .int (iv 0), .ref (G.2.2.1 + 240), .int (iv 0)]) (rest := []) (k := 231) Cx (s_X12_divide l G S (ka := 262) (po := 0) (kb := 264) (qo := 0) (kc := 237) (ro := 0) (kd := 240) (eo := 0) (Nka := 5280) (Nkb := 8) (Nkc := 68) (Nkd := 68) (La := 6) (Lb := 6) (Ld := 7) hI ⟨rfl, by decide, by decide, by decide, rfl⟩ ⟨rfl, by decide, by decide, by decide, rfl⟩ ⟨rfl, by decide, by decide, by decide, rfl⟩ ⟨rfl, by decide, by decide, by decide, rfl⟩ (show (237 : Nat) ≠ 262 by decide) (show (240 : Nat) ≠ 262 by decide) (show (237 : Nat) ≠ 264 by decide) (show (240 : Nat) ≠ 264 by decide) (show (237 : Nat) ≠ 240 by decide) (show (262 : Nat) ≠ 233 by decide) (show (264 : Nat) ≠ 233 by decide) (show (264 : Nat) ≠ 234 by decide) (show (264 : Nat) ≠ 235 by decide) (show (237 : Nat) ≠ 233 by decide) (show (237 : Nat) ≠ 234 by decide) (show (237 : Nat) ≠ 235 by decide) (show (240 : Nat) ≠ 233 by decide) (show (240 : Nat) ≠ 234 by decide) (show (240 : Nat) ≠ 235 by decide) (by omega) (by omega) hN00 hD.2.2.1) (c_X12_266 Cx rfl rfl (rmk_ok (by omega) (by decide))) hW (by decide) rfl rfl rfl hl.1 rfl (Nat.le_of_ble_eq_true rfl) dX12_isNoBetter_28 ⟨Nat.le_of_ble_eq_true rfl, Nat.le_of_ble_eq_true rfl⟩) hL (fun u_17 H locs k_18 hW hL => ?_)
    obtain ⟨iu_17, fu_17, xu_17⟩ := k_18
    have F_19 := (Fr.rf : Fr S S (pl [233, 234, 235, 237, 238, 240])).trans (fu_17.to (pl_sub (by decide)))
    have g_20 : FF S u_17 (fl []) := FF.fr FF.rf fu_17 rfl
    refine lv_aload_n hx hb dX12_isNoBetter_31 rfl (lv_at hl 0 rfl) ?_
    refine g_X12_26 Cx hW (k := 231) (by decide) rfl (v := .ref (G.2.2.1 + 237)) (rd_7 iu_17) dX12_isNoBetter_32 ?_
    refine lv_iconst (v := iv 0) hx hb dX12_isNoBetter_35 (by decide) ?_
    refine lv_aload_n hx hb dX12_isNoBetter_36 rfl (lv_at hl 0 rfl) ?_
    refine g_X12_137 Cx hW (k := 231) (by decide) rfl (v := .ref (G.2.2.1 + 273)) (rd_81 iu_17) dX12_isNoBetter_37 ?_
    refine lv_iconst (v := iv 0) hx hb dX12_isNoBetter_40 (by decide) ?_
    refine lv_aload_n hx hb dX12_isNoBetter_41 rfl (lv_at hl 0 rfl) ?_
    refine g_X12_29 Cx hW (k := 231) (by decide) rfl (v := .ref (G.2.2.1 + 238)) (rd_8 iu_17) dX12_isNoBetter_42 ?_
    refine lv_iconst (v := iv 0) hx hb dX12_isNoBetter_45 (by decide) ?_
    refine sBv (sSt (As := [.ref (G.2.2.1 + 237), .int (iv 0), .ref (G.2.2.1 + 273), .int (iv 0), .ref (G.2.2.1 + 238), .int (iv 0)]) (rest := []) Cx (s_X12_multiply l G u_17 (ka := 237) (po := 0) (kb := 273) (qo := 0) (kc := 238) (ro := 0) (Nka := 68) (Nkb := 8) (Nkc := 68) (La := 7) (Lb := 6) iu_17 ⟨rfl, by decide, by decide, by decide, rfl⟩ ⟨rfl, by decide, by decide, by decide, rfl⟩ ⟨rfl, by decide, by decide, by decide, rfl⟩ (show (238 : Nat) ≠ 273 by decide) (show (238 : Nat) ≠ 237 by decide) (by omega) xu_17.1 (by rw [show u_17.2.1 273 = S.2.1 273 from (funext fun j => (fu_17 273 rfl).2.1 j : u_17.2.1 273 = S.2.1 273)]; exact hBS.2.1)) (c_X12_548 Cx rfl rfl (rmk_ok (by omega) (by decide))) hW rfl hl.1 rfl (Nat.le_of_ble_eq_true rfl) dX12_isNoBetter_46 ⟨Nat.le_of_ble_eq_true rfl, Nat.le_of_ble_eq_true rfl⟩) hL (fun u_21 H locs k_22 hW hL => ?_)
    obtain ⟨iu_21, fu_21, xu_21⟩ := k_22
    have F_23 := F_19.trans (fu_21.to (p1_sub rfl))
    have g_24 : FF S u_21 (fl []) := FF.fr g_20 fu_21 rfl
    refine lv_aload_n hx hb dX12_isNoBetter_49 rfl (lv_at hl 0 rfl) ?_
    refine g_X12_29 Cx hW (k := 231) (by decide) rfl (v := .ref (G.2.2.1 + 238)) (rd_8 iu_21) dX12_isNoBetter_50 ?_
    refine lv_iconst (v := iv 0) hx hb dX12_isNoBetter_53 (by decide) ?_
    refine lv_aload_n hx hb dX12_isNoBetter_54 rfl (lv_at hl 0 rfl) ?_
    refine g_X12_134 Cx hW (k := 231) (by decide) rfl (v := .ref (G.2.2.1 + 272)) (rd_80 iu_21) dX12_isNoBetter_55 ?_
    refine lv_iconst (v := iv 0) hx hb dX12_isNoBetter_58 (by decide) ?_
    refine sBi (sSt (As := [.ref (G.2.2.1 + 238), .int (iv 0), .ref (G.2.2.1 + 272), .int (iv 0)]) (rest := []) Cx (s_X12_compare l G u_21 (ka := 238) (po := 0) (kb := 272) (qo := 0) (Nka := 68) (Nkb := 8) (La := 13) (Lb := 6) iu_21 ⟨rfl, by decide, by decide, by decide, rfl⟩ ⟨rfl, by decide, by decide, by decide, rfl⟩ (by omega) xu_21.1 (by rw [show u_21.2.1 272 = S.2.1 272 from (funext fun j => ((fu_21 272 rfl).2.1 j).trans ((fu_17 272 rfl).2.1 j) : u_21.2.1 272 = S.2.1 272)]; exact hBS.1)) (c_X12_552 Cx rfl rfl (rmk_ok (by omega) (by decide))) hW rfl hl.1 rfl (Nat.le_of_ble_eq_true rfl) dX12_isNoBetter_59 ⟨Nat.le_of_ble_eq_true rfl, Nat.le_of_ble_eq_true rfl⟩) hL (fun r_27 u_25 H locs k_26 hW hL => ?_)
    obtain ⟨eu_25, xu_25⟩ := k_26
    rw [eu_25] at hW
    have yu_25 := xu_25.2
    unfold Hd at yu_25
    refine r_if_gt (tgt := 69) hx hb ⟨(by omega), (by omega)⟩ dX12_isNoBetter_62 (by decide) (fun c_28 => ?_) (fun c_28 => ?_)
    · refine lv_iconst (v := iv 0) hx hb dX12_isNoBetter_69 (by decide) ?_
      exact sZret Cx hr hlk hW hL (by omega) ⟨iu_21, F_23, g_24, (by omega)⟩ dX12_isNoBetter_70
    · refine lv_iconst (v := iv 1) hx hb dX12_isNoBetter_65 (by decide) ?_
      refine lv_goto (tgt := 70) hx hb dX12_isNoBetter_66 (by decide) ?_
      exact sZret Cx hr hlk hW hL (by omega) ⟨iu_21, F_23, g_24, (by omega)⟩ dX12_isNoBetter_70

set_option maxRecDepth 100000 in
set_option maxHeartbeats 4000000 in
theorem s_X12_multipliersOf (l : Launch) (G : sG) (S : sS) {ri : Int} (hI : dX G S) (hD : DOK S) (hM : MD S) (hBO : BO S) (hri : (0 ≤ ri ∧ ri ≤ S.1 231 58 + 1) ∧ (ri = 1 → S.1 231 60 = 1)) : Met l yX12_multipliersOf (.code yX12_multipliersOf cX12_multipliersOf 3 none :: tb) (rmk 4 0 0) (sPc G 294 S [.ref (G.2.2.1 + 231), .int (iv ri)]) (sQv G 294 (fun u => dX G u ∧ Fr S u (pl [278]) ∧ FF S u (fl []) ∧ (MO u))) 0 0 (sF G) := by
  refine sEnter (by decide) (Nat.le_of_ble_eq_true rfl) ?_
  intro p e s m args below meth c Cx hr hlk hnm hW ls hl
  have Cx : sC G p m c cX12_multipliersOf 3 s args RX12 := Cx
  obtain ⟨hx, hb, hml, hown, hts⟩ := id Cx.1
  have hL : sL G [] := sL_nil
  have hl : lv_has ls 3 [(0, .ref (G.2.2.1 + 231)), (1, .int (iv ri))] := hl
  have hW0 := hW
  have hd1 := hD.1
  have hm1 : (0 ≤ S.1 231 46 ∧ S.1 231 46 ≤ 12) ∧ (0 ≤ S.1 231 47 ∧ S.1 231 47 ≤ 16) ∧ 0 ≤ S.1 231 63 ∧ S.1 231 63 ≤ 40 := hM
  refine lv_aload_n hx hb dX12_multipliersOf_0 rfl (lv_at hl 0 rfl) ?_
  refine sBv (sV (As := []) (rest := []) (k := 231) Cx (s_X12_clearMultipliers l G S  hI) (c_X12_600 Cx rfl rfl (rmk_ok (by omega) (by decide))) hW (by decide) rfl rfl rfl hl.1 rfl (Nat.le_of_ble_eq_true rfl) dX12_multipliersOf_1 ⟨Nat.le_of_ble_eq_true rfl, Nat.le_of_ble_eq_true rfl⟩) hL (fun u_1 H locs k_2 hW hL => ?_)
  obtain ⟨iu_1, fu_1, gu_1, xu_1⟩ := k_2
  have F_3 := (Fr.rf : Fr S S (pl [278])).trans fu_1
  have g_4 : FF S u_1 (fl []) := FF.trans FF.rf (FF.to gu_1 (fl_sub (by decide)))
  have hz0 : MO u_1 := fun k a b => NO_z (xu_1 k a b) (by omega)
  refine lv_iconst (v := iv 1) hx hb dX12_multipliersOf_4 (by decide) ?_
  refine lv_istore_n (lv' := [(2, .int (iv 1)), (0, .ref (G.2.2.1 + 231)), (1, .int (iv ri))]) hx hb dX12_multipliersOf_5 rfl hl (by decide) rfl (fun ls hl => ?_)
  have loop_6 : ∀ (fuel : Nat) (S6 : sS) (j : Int) (H : Heap) (locs : List Loc) (ls : Array Slot), (14 - j).toNat < fuel → (dX G S6) → (Fr S S6 (pl [278])) → (Fr u_1 S6 (pl [278])) → (FF S S6 (fl [])) → (FF u_1 S6 (fl [])) → (1 ≤ j ∧ j ≤ 14) → (MO S6) → sW G 294 S6 H → sL G locs → lv_has ls 3 [(2, .int (iv j)), (0, .ref (G.2.2.1 + 231)), (1, .int (iv ri))] → W p l e (rmk 4 0 0) s m args below meth c H locs 0 0 (MQ below (sQv G 294 (fun u => dX G u ∧ Fr S u (pl [278]) ∧ FF S u (fl []) ∧ (MO u))) args s 0 0 (sF G)) (F0 m 6 ls []) := by
    intro fuel
    induction fuel with
    | zero => intro S6 j H locs ls hmeas hI6 hFm6 hL6_ hGm6 gL6_ hj hz6 hW hL hl; exact absurd hmeas (Nat.not_lt_zero _)
    | succ fuel ih_6 =>
      intro S6 j H locs ls hmeas hI6 hFm6 hL6_ hGm6 gL6_ hj hz6 hW hL hl
      refine lv_iload_n hx hb dX12_multipliersOf_6 rfl (lv_at hl 0 rfl) ?_
      refine lv_aload_n hx hb dX12_multipliersOf_7 rfl (lv_at hl 1 rfl) ?_
      have q_5 : (-2147483648) ≤ S.1 231 59 ∧ S.1 231 59 ≤ 2147483647 := hI.fi 59
      refine g_X12_526 Cx hW (k := 231) (by decide) rfl (v := S.1 231 59) ((gL6_ 59 rfl).trans (gu_1 59 rfl)) dX12_multipliersOf_8 ?_
      refine r_icmp_gt (tgt := 64) hx hb ⟨(by omega), (by omega)⟩ ⟨(by omega), (by omega)⟩ dX12_multipliersOf_11 (by decide) (fun c_6 => ?_) (fun c_6 => ?_)
      · exact sVret Cx hr hlk hW hL ⟨hI6, hFm6, hGm6, hz6⟩ dX12_multipliersOf_64
      · have hoj := hBO.2 j (by omega) (by omega)
        have join_58 : ∀ (S58 : sS)  (H : Heap) (locs : List Loc) (ls : Array Slot), (dX G S58) → (Fr S S58 (pl [278])) → (Fr u_1 S58 (pl [278])) → (Fr S6 S58 (pl [278])) → (FF S S58 (fl [])) → (FF u_1 S58 (fl [])) → (FF S6 S58 (fl [])) → (MO S58) → sW G 294 S58 H → sL G locs → lv_has ls 3 [(2, .int (iv j)), (0, .ref (G.2.2.1 + 231)), (1, .int (iv ri))] → W p l e (rmk 4 0 0) s m args below meth c H locs 0 0 (MQ below (sQv G 294 (fun u => dX G u ∧ Fr S u (pl [278]) ∧ FF S u (fl []) ∧ (MO u))) args s 0 0 (sF G)) (F0 m 58 ls []) := by
          intro S58  H locs ls hI58 hFm58 hFL658 hL58_ hGm58 hGL658 gL58_ hz58 hW hL hl
          refine lv_iinc (v := iv (j + 1)) (lv' := [(2, .int (iv (j + 1))), (0, .ref (G.2.2.1 + 231)), (1, .int (iv ri))]) hx hb dX12_multipliersOf_58 hl (k := 0) rfl ((Int32.ofInt_add _ _).symm) (by decide) rfl (fun ls hl => ?_)
          refine lv_goto (tgt := 6) hx hb dX12_multipliersOf_61 (by decide) ?_
          exact ih_6 S58 (j + 1) _ _ _ (by omega) hI58 hFm58 hFL658 hGm58 hGL658 (by omega) hz58 hW hL (lv_sub hl [0, 1, 2] rfl)
        refine lv_aload_n hx hb dX12_multipliersOf_14 rfl (lv_at hl 1 rfl) ?_
        refine g_X12_115 Cx hW (k := 231) (by decide) rfl (v := .ref (G.2.2.1 + 266)) (rd_57 hI6) dX12_multipliersOf_15 ?_
        refine lv_iload_n hx hb dX12_multipliersOf_18 rfl (lv_at hl 0 rfl) ?_
        refine rIald Cx hW (k := 266) (by decide) rfl (by decide) (by omega) (by omega) dX12_multipliersOf_19 ?_
        have q_7 : (-2147483648) ≤ S.2.1 266 j ∧ S.2.1 266 j ≤ 2147483647 := hI.ai 266 j
        refine r_i (b := S.2.1 266 j) (((hL6_ 266 rfl).2.1 j).trans ((fu_1 266 rfl).2.1 j)) ?_
        refine lv_aload_n hx hb dX12_multipliersOf_20 rfl (lv_at hl 1 rfl) ?_
        have q_8 : (-2147483648) ≤ S.1 231 46 ∧ S.1 231 46 ≤ 2147483647 := hI.fi 46
        refine g_X12_465 Cx hW (k := 231) (by decide) rfl (v := S.1 231 46) ((gL6_ 46 rfl).trans (gu_1 46 rfl)) dX12_multipliersOf_21 ?_
        refine r_icmp_le (tgt := 58) hx hb ⟨(by omega), (by omega)⟩ ⟨(by omega), (by omega)⟩ dX12_multipliersOf_24 (by decide) (fun c_9 => ?_) (fun c_9 => ?_)
        · exact join_58 S6  _ _ _ hI6 hFm6 hL6_ (Fr.rf : Fr S6 S6 (pl [278])) hGm6 gL6_ (FF.rf : FF S6 S6 (fl [])) hz6 hW hL (lv_sub hl [0, 1, 2] rfl)
        · refine lv_aload_n hx hb dX12_multipliersOf_27 rfl (lv_at hl 1 rfl) ?_
          refine g_X12_103 Cx hW (k := 231) (by decide) rfl (v := .ref (G.2.2.1 + 262)) (rd_53 hI6) dX12_multipliersOf_28 ?_
          refine lv_aload_n hx hb dX12_multipliersOf_31 rfl (lv_at hl 1 rfl) ?_
          refine lv_iload_n hx hb dX12_multipliersOf_32 rfl (lv_at hl 2 rfl) ?_
          refine lv_iload_n hx hb dX12_multipliersOf_33 rfl (lv_at hl 0 rfl) ?_
          refine sBi (sV (As := [.int (iv ri), .int (iv j)]) (rest := [.ref (G.2.2.1 + 262)]) (k := 231) Cx (s_X12_cell l G S6 (i := ri) (j := j) (by omega) (by omega)) (c_X12_529 Cx rfl rfl (rmk_ok (by omega) (by decide))) hW (by decide) rfl rfl rfl hl.1 rfl (Nat.le_of_ble_eq_true rfl) dX12_multipliersOf_34 ⟨Nat.le_of_ble_eq_true rfl, Nat.le_of_ble_eq_true rfl⟩) hL (fun cq u_10 H locs k_11 hW hL => ?_)
          obtain ⟨eu_10, xu_10⟩ := k_11
          rw [eu_10] at hW
          refine lv_aload_n hx hb dX12_multipliersOf_37 rfl (lv_at hl 1 rfl) ?_
          refine g_X12_154 Cx hW (k := 231) (by decide) rfl (v := .ref (G.2.2.1 + 278)) (rd_88 hI6) dX12_multipliersOf_38 ?_
          refine lv_bipush (v := iv 8) hx hb dX12_multipliersOf_41 (by decide) ?_
          refine lv_aload_n hx hb dX12_multipliersOf_43 rfl (lv_at hl 1 rfl) ?_
          refine g_X12_115 Cx hW (k := 231) (by decide) rfl (v := .ref (G.2.2.1 + 266)) (rd_57 hI6) dX12_multipliersOf_44 ?_
          refine lv_iload_n hx hb dX12_multipliersOf_47 rfl (lv_at hl 0 rfl) ?_
          refine rIald Cx hW (k := 266) (by decide) rfl (by decide) (by omega) (by omega) dX12_multipliersOf_48 ?_
          refine r_i (b := S.2.1 266 j) (((hL6_ 266 rfl).2.1 j).trans ((fu_1 266 rfl).2.1 j)) ?_
          refine lv_aload_n hx hb dX12_multipliersOf_49 rfl (lv_at hl 1 rfl) ?_
          refine g_X12_465 Cx hW (k := 231) (by decide) rfl (v := S.1 231 46) ((gL6_ 46 rfl).trans (gu_1 46 rfl)) dX12_multipliersOf_50 ?_
          refine r_isub hx hb dX12_multipliersOf_53 ?_
          refine r_imul hx hb dX12_multipliersOf_54 ?_
          refine sBv (sSt (As := [.ref (G.2.2.1 + 262), .int (iv cq), .ref (G.2.2.1 + 278), .int (iv (8 * ((S.2.1 266 j) - (S.1 231 46))))]) (rest := []) Cx (s_X12_copy l G S6 (ka := 262) (po := cq) (kb := 278) (qo := 8 * ((S.2.1 266 j) - (S.1 231 46))) (Nka := 5280) (Nkb := 336) (La := 6) hI6 ⟨rfl, by decide, by decide, by decide, rfl⟩ ⟨rfl, by decide, by decide, by decide, rfl⟩ (show (278 : Nat) ≠ 262 by decide) (by omega) (by rw [show S6.2.1 262 = S.2.1 262 from (funext fun j => ((hL6_ 262 rfl).2.1 j).trans ((fu_1 262 rfl).2.1 j) : S6.2.1 262 = S.2.1 262)]; exact hD.at (i := ri) (j := j) (by omega) (by omega) (by omega) (by omega))) (c_X12_233 Cx rfl rfl (rmk_ok (by omega) (by decide))) hW rfl hl.1 rfl (Nat.le_of_ble_eq_true rfl) dX12_multipliersOf_55 ⟨Nat.le_of_ble_eq_true rfl, Nat.le_of_ble_eq_true rfl⟩) hL (fun u_12 H locs k_13 hW hL => ?_)
          obtain ⟨iu_12, fu_12, xu_12⟩ := k_13
          have F_14 := hFm6.trans (fu_12.to (p1_sub rfl))
          have F_15 := hL6_.trans (fu_12.to (p1_sub rfl))
          have F_16 := (Fr.rf : Fr S6 S6 (pl [278])).trans (fu_12.to (p1_sub rfl))
          have g_17 : FF S u_12 (fl []) := FF.fr hGm6 fu_12 rfl
          have g_18 : FF u_1 u_12 (fl []) := FF.fr gL6_ fu_12 rfl
          have g_19 : FF S6 u_12 (fl []) := FF.fr (FF.rf : FF S6 S6 (fl [])) fu_12 rfl
          exact join_58 u_12  _ _ _ iu_12 F_14 F_15 F_16 g_17 g_18 g_19 (fun k a b => if e : k = S.2.1 266 j - S.1 231 46 then (by rw [show 8 * k = 8 * (S.2.1 266 j - S.1 231 46) by omega]; exact xu_12.1.1) else ((hz6 k a b).same (fun x x0 x1 => xu_12.2 x (c8_far e ⟨x0, x1⟩))).1) hW hL (lv_sub hl [0, 1, 2] rfl)
  exact loop_6 (_ + 1) u_1 1 _ _ _ (Nat.lt_succ_self _) iu_1 F_3 Fr.rf g_4 FF.rf (by omega) hz0 hW hL (lv_sub hl [0, 1, 2] rfl)

set_option maxRecDepth 100000 in
set_option maxHeartbeats 4000000 in
theorem s_X12_writePairs (l : Launch) (G : sG) (S : sS) {si : Nat} (hI : dX G S) (hsi : si < 38) (hsl : ((strN.getD si 0 : Nat) : Int) ≤ 10) (hD : DOK S) (hM : MD S) (hMO : MO S) (hts : 0 ≤ S.1 231 84 ∧ S.1 231 84 ≤ 30000) : Met l yX12_writePairs (.code yX12_writePairs cX12_writePairs 3 none :: tb) (rmk 6 0 0) (sPc G 294 S [.ref (G.2.2.1 + 231), .ref (G.1.2 100 si)]) (sQv G 294 (fun u => dX G u ∧ Fr S u (pl [231, 236, 275, 277]) ∧ FF S u (fl [6, 61, 84]) ∧ ((0 ≤ u.1 231 84 ∧ u.1 231 84 ≤ 33000) ∧ (30000 < u.1 231 84 → u.1 231 61 = 6) ∧ (u.1 231 84 ≤ 30000 → u.1 231 61 = S.1 231 61)))) 0 0 (sF G) := by
  refine sEnter (by decide) (Nat.le_of_ble_eq_true rfl) ?_
  intro p e s m args below meth c Cx hr hlk hnm hW ls hl
  have Cx : sC G p m c cX12_writePairs 3 s args RX12 := Cx
  obtain ⟨hx, hb, hml, hown, hts⟩ := id Cx.1
  have hL : sL G [] := sL_nil
  have hl : lv_has ls 3 [(0, .ref (G.2.2.1 + 231)), (1, .ref (G.1.2 100 si))] := hl
  have hW0 := hW
  have hd1 := hD.1
  have hm1 : (0 ≤ S.1 231 46 ∧ S.1 231 46 ≤ 12) ∧ (0 ≤ S.1 231 47 ∧ S.1 231 47 ≤ 16) ∧ 0 ≤ S.1 231 63 ∧ S.1 231 63 ≤ 40 := hM
  refine lv_aload_n hx hb dX12_writePairs_0 rfl (lv_at hl 0 rfl) ?_
  refine lv_aload_n hx hb dX12_writePairs_1 rfl (lv_at hl 1 rfl) ?_
  have q_1 : (-2147483648) ≤ S.1 231 84 ∧ S.1 231 84 ≤ 2147483647 := hI.fi 84
  refine sBv (sV (As := [.ref (G.1.2 100 si)]) (rest := []) (k := 231) Cx (s_X12_write l G S (si := si) hI hsi (by omega)) (c_X12_603 Cx rfl rfl (rmk_ok (by omega) (by decide))) hW (by decide) rfl rfl rfl hl.1 rfl (Nat.le_of_ble_eq_true rfl) dX12_writePairs_2 ⟨Nat.le_of_ble_eq_true rfl, Nat.le_of_ble_eq_true rfl⟩) hL (fun u_2 H locs k_3 hW hL => ?_)
  obtain ⟨iu_2, fu_2, gu_2, xu_2⟩ := k_3
  have F_4 := (Fr.rf : Fr S S (pl [231, 236, 275, 277])).trans (fu_2.to (pl_sub (by decide)))
  have g_5 : FF S u_2 (fl [6, 61, 84]) := FF.trans FF.rf (FF.to gu_2 (fl_sub (by decide)))
  refine lv_aload_n hx hb dX12_writePairs_5 rfl (lv_at hl 0 rfl) ?_
  refine lv_aload_n hx hb dX12_writePairs_6 rfl (lv_at hl 0 rfl) ?_
  refine g_X12_109 Cx hW (k := 231) (by decide) rfl (v := .ref (G.2.2.1 + 264)) (rd_55 iu_2) dX12_writePairs_7 ?_
  refine lv_iconst (v := iv 0) hx hb dX12_writePairs_10 (by decide) ?_
  have q_6 : (-2147483648) ≤ u_2.1 231 84 ∧ u_2.1 231 84 ≤ 2147483647 := iu_2.fi 84
  refine sBv (sV (As := [.ref (G.2.2.1 + 264), .int (iv 0)]) (rest := []) (k := 231) Cx (s_X12_writeNumber l G u_2 (ka := 264) (po := 0) (Nka := 8) (La := 6) iu_2 ⟨rfl, by decide, by decide, by decide, rfl⟩ (show (264 : Nat) ≠ 231 by decide) (show (264 : Nat) ≠ 236 by decide) (show (264 : Nat) ≠ 275 by decide) (by omega) (by omega) (by rw [show u_2.2.1 264 = S.2.1 264 from (funext fun j => (fu_2 264 rfl).2.1 j : u_2.2.1 264 = S.2.1 264)]; exact hD.2.2.1)) (c_X12_597 Cx rfl rfl (rmk_ok (by omega) (by decide))) hW (by decide) rfl rfl rfl hl.1 rfl (Nat.le_of_ble_eq_true rfl) dX12_writePairs_11 ⟨Nat.le_of_ble_eq_true rfl, Nat.le_of_ble_eq_true rfl⟩) hL (fun u_7 H locs k_8 hW hL => ?_)
  obtain ⟨iu_7, fu_7, gu_7, xu_7⟩ := k_8
  have F_9 := F_4.trans (fu_7.to (pl_sub (by decide)))
  have g_10 : FF S u_7 (fl [6, 61, 84]) := FF.trans g_5 (FF.to gu_7 (fl_sub (by decide)))
  refine lv_iconst (v := iv 1) hx hb dX12_writePairs_14 (by decide) ?_
  refine lv_istore_n (lv' := [(2, .int (iv 1)), (0, .ref (G.2.2.1 + 231)), (1, .ref (G.1.2 100 si))]) hx hb dX12_writePairs_15 rfl hl (by decide) rfl (fun ls hl => ?_)
  have loop_16 : ∀ (fuel : Nat) (S16 : sS) (k : Int) (H : Heap) (locs : List Loc) (ls : Array Slot), (41 - k).toNat < fuel → (dX G S16) → (Fr S S16 (pl [231, 236, 275, 277])) → (Fr u_7 S16 (pl [231, 236, 275, 277])) → (FF S S16 (fl [6, 61, 84])) → (FF u_7 S16 (fl [6, 84])) → (1 ≤ k ∧ k ≤ 41) → (0 ≤ S16.1 231 84 ∧ S16.1 231 84 ≤ S.1 231 84 + 70 + 71 * (k - 1)) → sW G 294 S16 H → sL G locs → lv_has ls 3 [(2, .int (iv k)), (0, .ref (G.2.2.1 + 231)), (1, .ref (G.1.2 100 si))] → W p l e (rmk 6 0 0) s m args below meth c H locs 0 0 (MQ below (sQv G 294 (fun u => dX G u ∧ Fr S u (pl [231, 236, 275, 277]) ∧ FF S u (fl [6, 61, 84]) ∧ ((0 ≤ u.1 231 84 ∧ u.1 231 84 ≤ 33000) ∧ (30000 < u.1 231 84 → u.1 231 61 = 6) ∧ (u.1 231 84 ≤ 30000 → u.1 231 61 = S.1 231 61)))) args s 0 0 (sF G)) (F0 m 16 ls []) := by
    intro fuel
    induction fuel with
    | zero => intro S16 k H locs ls hmeas hI16 hFm16 hL16_ hGm16 gL16_ hk h16 hW hL hl; exact absurd hmeas (Nat.not_lt_zero _)
    | succ fuel ih_16 =>
      intro S16 k H locs ls hmeas hI16 hFm16 hL16_ hGm16 gL16_ hk h16 hW hL hl
      refine lv_iload_n hx hb dX12_writePairs_16 rfl (lv_at hl 0 rfl) ?_
      refine lv_aload_n hx hb dX12_writePairs_17 rfl (lv_at hl 1 rfl) ?_
      have q_11 : (-2147483648) ≤ S.1 231 63 ∧ S.1 231 63 ≤ 2147483647 := hI.fi 63
      refine g_X12_480 Cx hW (k := 231) (by decide) rfl (v := S.1 231 63) ((gL16_ 63 rfl).trans ((gu_7 63 rfl).trans (gu_2 63 rfl))) dX12_writePairs_18 ?_
      refine r_icmp_gt (tgt := 70) hx hb ⟨(by omega), (by omega)⟩ ⟨(by omega), (by omega)⟩ dX12_writePairs_21 (by decide) (fun c_12 => ?_) (fun c_12 => ?_)
      · refine lv_aload_n hx hb dX12_writePairs_70 rfl (lv_at hl 1 rfl) ?_
        refine zLdcw Cx 26 (by decide) ⟨rfl, rfl⟩ dX12_writePairs_71 ?_
        have q_13 : (-2147483648) ≤ S16.1 231 84 ∧ S16.1 231 84 ≤ 2147483647 := hI16.fi 84
        refine sBv (sV (As := [.ref (G.1.2 100 26)]) (rest := []) (k := 231) Cx (s_X12_write l G S16 (si := 26) hI16 (by decide) (by omega)) (c_X12_603 Cx rfl rfl (rmk_ok (by omega) (by decide))) hW (by decide) rfl rfl rfl hl.1 rfl (Nat.le_of_ble_eq_true rfl) dX12_writePairs_74 ⟨Nat.le_of_ble_eq_true rfl, Nat.le_of_ble_eq_true rfl⟩) hL (fun u_14 H locs k_15 hW hL => ?_)
        obtain ⟨iu_14, fu_14, gu_14, xu_14⟩ := k_15
        have F_16 := hFm16.trans (fu_14.to (pl_sub (by decide)))
        have F_17 := hL16_.trans (fu_14.to (pl_sub (by decide)))
        have g_18 : FF S u_14 (fl [6, 61, 84]) := FF.trans hGm16 (FF.to gu_14 (fl_sub (by decide)))
        have g_19 : FF u_7 u_14 (fl [6, 84]) := FF.trans gL16_ (FF.to gu_14 (fl_sub (by decide)))
        have hsu_14 : ((strN.getD 26 0 : Nat) : Int) = 1 := rfl
        refine lv_aload_n hx hb dX12_writePairs_77 rfl (lv_at hl 1 rfl) ?_
        have q_20 : (-2147483648) ≤ u_14.1 231 84 ∧ u_14.1 231 84 ≤ 2147483647 := iu_14.fi 84
        refine g_X12_520 Cx hW (k := 231) (by decide) rfl (v := u_14.1 231 84) rfl dX12_writePairs_78 ?_
        refine lv_sipush (v := iv 30000) hx hb dX12_writePairs_81 (by decide) ?_
        refine r_icmp_le (tgt := 93) hx hb ⟨(by omega), (by omega)⟩ ⟨(by omega), (by omega)⟩ dX12_writePairs_84 (by decide) (fun c_21 => ?_) (fun c_21 => ?_)
        · have q_22 : (-2147483648) ≤ S.1 231 61 ∧ S.1 231 61 ≤ 2147483647 := hI.fi 61
          have lk_23 : u_14.1 231 61 = S.1 231 61 := (gu_14 61 rfl).trans ((gL16_ 61 rfl).trans ((gu_7 61 rfl).trans (gu_2 61 rfl)))
          exact sVret Cx hr hlk hW hL ⟨iu_14, F_16, g_18, (by omega)⟩ dX12_writePairs_93
        · refine lv_aload_n hx hb dX12_writePairs_87 rfl (lv_at hl 1 rfl) ?_
          refine lv_bipush (v := iv 6) hx hb dX12_writePairs_88 (by decide) ?_
          refine p_X12_477 Cx hW hL (k := 231) (by decide) rfl dX12_writePairs_90 (fun H locs hW hL => ?_)
          have F_24 : Fr S (uF u_14 231 61 6) (pl [231, 236, 275, 277]) := F_16.F rfl
          have F_25 : Fr u_7 (uF u_14 231 61 6) (pl [231, 236, 275, 277]) := F_17.F rfl
          have g_26 : FF S (uF u_14 231 61 6) (fl [6, 61, 84]) := FF.F g_18 rfl
          have i_27 : dX G (uF u_14 231 61 6) := iu_14.F (i := 61) (show (-2147483648) ≤ 6 ∧ 6 ≤ 2147483647 from ⟨by omega, by omega⟩)
          have lk_28 : (uF u_14 231 61 6).1 231 84 = u_14.1 231 84 := uF_ne (fun h => absurd h.2 (by decide))
          have lk_29 : (uF u_14 231 61 6).1 231 61 = 6 := uF_on
          exact sVret Cx hr hlk hW hL ⟨i_27, F_24, g_26, (by omega)⟩ dX12_writePairs_93
      · have join_64 : ∀ (S64 : sS)  (H : Heap) (locs : List Loc) (ls : Array Slot), (dX G S64) → (Fr S S64 (pl [231, 236, 275, 277])) → (Fr u_7 S64 (pl [231, 236, 275, 277])) → (Fr S16 S64 (pl [231, 236, 275, 277])) → (FF S S64 (fl [6, 61, 84])) → (FF u_7 S64 (fl [6, 84])) → (FF S16 S64 (fl [6, 84])) → (0 ≤ S64.1 231 84 ∧ S64.1 231 84 ≤ S.1 231 84 + 70 + 71 * k) → sW G 294 S64 H → sL G locs → lv_has ls 3 [(2, .int (iv k)), (0, .ref (G.2.2.1 + 231)), (1, .ref (G.1.2 100 si))] → W p l e (rmk 6 0 0) s m args below meth c H locs 0 0 (MQ below (sQv G 294 (fun u => dX G u ∧ Fr S u (pl [231, 236, 275, 277]) ∧ FF S u (fl [6, 61, 84]) ∧ ((0 ≤ u.1 231 84 ∧ u.1 231 84 ≤ 33000) ∧ (30000 < u.1 231 84 → u.1 231 61 = 6) ∧ (u.1 231 84 ≤ 30000 → u.1 231 61 = S.1 231 61)))) args s 0 0 (sF G)) (F0 m 64 ls []) := by
          intro S64  H locs ls hI64 hFm64 hFL1664 hL64_ hGm64 hGL1664 gL64_ h64 hW hL hl
          refine lv_iinc (v := iv (k + 1)) (lv' := [(2, .int (iv (k + 1))), (0, .ref (G.2.2.1 + 231)), (1, .ref (G.1.2 100 si))]) hx hb dX12_writePairs_64 hl (k := 0) rfl ((Int32.ofInt_add _ _).symm) (by decide) rfl (fun ls hl => ?_)
          refine lv_goto (tgt := 16) hx hb dX12_writePairs_67 (by decide) ?_
          have q_30 : (-2147483648) ≤ S64.1 231 84 ∧ S64.1 231 84 ≤ 2147483647 := hI64.fi 84
          exact ih_16 S64 (k + 1) _ _ _ (by omega) hI64 hFm64 hFL1664 hGm64 hGL1664 (by omega) (by omega) hW hL (lv_sub hl [0, 1, 2] rfl)
        refine lv_aload_n hx hb dX12_writePairs_24 rfl (lv_at hl 1 rfl) ?_
        refine g_X12_154 Cx hW (k := 231) (by decide) rfl (v := .ref (G.2.2.1 + 278)) (rd_88 hI16) dX12_writePairs_25 ?_
        refine lv_bipush (v := iv 8) hx hb dX12_writePairs_28 (by decide) ?_
        refine lv_iload_n hx hb dX12_writePairs_30 rfl (lv_at hl 0 rfl) ?_
        refine r_imul hx hb dX12_writePairs_31 ?_
        refine rIald Cx hW (k := 278) (by decide) rfl (by decide) (by omega) (by omega) dX12_writePairs_32 ?_
        have q_31 : (-2147483648) ≤ S.2.1 278 (8 * k) ∧ S.2.1 278 (8 * k) ≤ 2147483647 := hI.ai 278 (8 * k)
        refine r_i (b := S.2.1 278 (8 * k)) (((hL16_ 278 rfl).2.1 (8 * k)).trans (((fu_7 278 rfl).2.1 (8 * k)).trans ((fu_2 278 rfl).2.1 (8 * k)))) ?_
        refine r_if_ne (tgt := 39) hx hb ⟨(by omega), (by omega)⟩ dX12_writePairs_33 (by decide) (fun c_32 => ?_) (fun c_32 => ?_)
        · refine lv_aload_n hx hb dX12_writePairs_39 rfl (lv_at hl 1 rfl) ?_
          refine lv_iload_n hx hb dX12_writePairs_40 rfl (lv_at hl 0 rfl) ?_
          refine r_i2l hx hb ⟨(by omega), (by omega)⟩ dX12_writePairs_41 ?_
          have q_33 : (-2147483648) ≤ S16.1 231 84 ∧ S16.1 231 84 ≤ 2147483647 := hI16.fi 84
          refine sBv (sV (As := [.long (jv k)]) (rest := []) (k := 231) Cx (s_X12_writeSmall l G S16 (v := k) hI16 (by omega) (by omega)) (c_X12_607 Cx rfl rfl (rmk_ok (by omega) (by decide))) hW (by decide) rfl rfl rfl hl.1 rfl (Nat.le_of_ble_eq_true rfl) dX12_writePairs_42 ⟨Nat.le_of_ble_eq_true rfl, Nat.le_of_ble_eq_true rfl⟩) hL (fun u_34 H locs k_35 hW hL => ?_)
          obtain ⟨iu_34, fu_34, gu_34, xu_34⟩ := k_35
          have F_36 := hFm16.trans fu_34
          have F_37 := hL16_.trans fu_34
          have F_38 := (Fr.rf : Fr S16 S16 (pl [231, 236, 275, 277])).trans fu_34
          have g_39 : FF S u_34 (fl [6, 61, 84]) := FF.trans hGm16 (FF.to gu_34 (fl_sub (by decide)))
          have g_40 : FF u_7 u_34 (fl [6, 84]) := FF.trans gL16_ (FF.to gu_34 (fl_sub (by decide)))
          have g_41 : FF S16 u_34 (fl [6, 84]) := FF.trans (FF.rf : FF S16 S16 (fl [6, 84])) (FF.to gu_34 (fl_sub (by decide)))
          refine lv_aload_n hx hb dX12_writePairs_45 rfl (lv_at hl 1 rfl) ?_
          refine zLdcw Cx 25 (by decide) ⟨rfl, rfl⟩ dX12_writePairs_46 ?_
          have q_42 : (-2147483648) ≤ u_34.1 231 84 ∧ u_34.1 231 84 ≤ 2147483647 := iu_34.fi 84
          refine sBv (sV (As := [.ref (G.1.2 100 25)]) (rest := []) (k := 231) Cx (s_X12_write l G u_34 (si := 25) iu_34 (by decide) (by omega)) (c_X12_603 Cx rfl rfl (rmk_ok (by omega) (by decide))) hW (by decide) rfl rfl rfl hl.1 rfl (Nat.le_of_ble_eq_true rfl) dX12_writePairs_49 ⟨Nat.le_of_ble_eq_true rfl, Nat.le_of_ble_eq_true rfl⟩) hL (fun u_43 H locs k_44 hW hL => ?_)
          obtain ⟨iu_43, fu_43, gu_43, xu_43⟩ := k_44
          have F_45 := F_36.trans (fu_43.to (pl_sub (by decide)))
          have F_46 := F_37.trans (fu_43.to (pl_sub (by decide)))
          have F_47 := F_38.trans (fu_43.to (pl_sub (by decide)))
          have g_48 : FF S u_43 (fl [6, 61, 84]) := FF.trans g_39 (FF.to gu_43 (fl_sub (by decide)))
          have g_49 : FF u_7 u_43 (fl [6, 84]) := FF.trans g_40 (FF.to gu_43 (fl_sub (by decide)))
          have g_50 : FF S16 u_43 (fl [6, 84]) := FF.trans g_41 (FF.to gu_43 (fl_sub (by decide)))
          have hsu_43 : ((strN.getD 25 0 : Nat) : Int) = 1 := rfl
          refine lv_aload_n hx hb dX12_writePairs_52 rfl (lv_at hl 1 rfl) ?_
          refine lv_aload_n hx hb dX12_writePairs_53 rfl (lv_at hl 1 rfl) ?_
          refine g_X12_154 Cx hW (k := 231) (by decide) rfl (v := .ref (G.2.2.1 + 278)) (rd_88 iu_43) dX12_writePairs_54 ?_
          refine lv_bipush (v := iv 8) hx hb dX12_writePairs_57 (by decide) ?_
          refine lv_iload_n hx hb dX12_writePairs_59 rfl (lv_at hl 0 rfl) ?_
          refine r_imul hx hb dX12_writePairs_60 ?_
          have q_51 : (-2147483648) ≤ u_43.1 231 84 ∧ u_43.1 231 84 ≤ 2147483647 := iu_43.fi 84
          refine sBv (sV (As := [.ref (G.2.2.1 + 278), .int (iv (8 * k))]) (rest := []) (k := 231) Cx (s_X12_writeNumber l G u_43 (ka := 278) (po := 8 * k) (Nka := 336) (La := 6) iu_43 ⟨rfl, by decide, by decide, by decide, rfl⟩ (show (278 : Nat) ≠ 231 by decide) (show (278 : Nat) ≠ 236 by decide) (show (278 : Nat) ≠ 275 by decide) (by omega) (by omega) (by rw [show u_43.2.1 278 = S.2.1 278 from (funext fun j => ((fu_43 278 rfl).2.1 j).trans (((fu_34 278 rfl).2.1 j).trans (((hL16_ 278 rfl).2.1 j).trans (((fu_7 278 rfl).2.1 j).trans ((fu_2 278 rfl).2.1 j)))) : u_43.2.1 278 = S.2.1 278)]; exact hMO k (by omega) (by omega))) (c_X12_597 Cx rfl rfl (rmk_ok (by omega) (by decide))) hW (by decide) rfl rfl rfl hl.1 rfl (Nat.le_of_ble_eq_true rfl) dX12_writePairs_61 ⟨Nat.le_of_ble_eq_true rfl, Nat.le_of_ble_eq_true rfl⟩) hL (fun u_52 H locs k_53 hW hL => ?_)
          obtain ⟨iu_52, fu_52, gu_52, xu_52⟩ := k_53
          have F_54 := F_45.trans (fu_52.to (pl_sub (by decide)))
          have F_55 := F_46.trans (fu_52.to (pl_sub (by decide)))
          have F_56 := F_47.trans (fu_52.to (pl_sub (by decide)))
          have g_57 : FF S u_52 (fl [6, 61, 84]) := FF.trans g_48 (FF.to gu_52 (fl_sub (by decide)))
          have g_58 : FF u_7 u_52 (fl [6, 84]) := FF.trans g_49 (FF.to gu_52 (fl_sub (by decide)))
          have g_59 : FF S16 u_52 (fl [6, 84]) := FF.trans g_50 (FF.to gu_52 (fl_sub (by decide)))
          have q_60 : (-2147483648) ≤ u_52.1 231 84 ∧ u_52.1 231 84 ≤ 2147483647 := iu_52.fi 84
          exact join_64 u_52  _ _ _ iu_52 F_54 F_55 F_56 g_57 g_58 g_59 (by omega) hW hL (lv_sub hl [0, 1, 2] rfl)
        · refine lv_goto (tgt := 64) hx hb dX12_writePairs_36 (by decide) ?_
          have q_61 : (-2147483648) ≤ S16.1 231 84 ∧ S16.1 231 84 ≤ 2147483647 := hI16.fi 84
          exact join_64 S16  _ _ _ hI16 hFm16 hL16_ (Fr.rf : Fr S16 S16 (pl [231, 236, 275, 277])) hGm16 gL16_ (FF.rf : FF S16 S16 (fl [6, 84])) (by omega) hW hL (lv_sub hl [0, 1, 2] rfl)
  have q_62 : (-2147483648) ≤ u_7.1 231 84 ∧ u_7.1 231 84 ≤ 2147483647 := iu_7.fi 84
  exact loop_16 (_ + 1) u_7 1 _ _ _ (Nat.lt_succ_self _) iu_7 F_9 Fr.rf g_10 FF.rf (by omega) (by omega) hW hL (lv_sub hl [0, 1, 2] rfl)

set_option maxRecDepth 100000 in
set_option maxHeartbeats 4000000 in
theorem s_X12_mayBegin (l : Launch) (G : sG) (S : sS)  (hI : dX G S) (hM : MD S) (hpl : (0 ≤ S.1 231 58 ∧ S.1 231 58 ≤ S.1 231 63) ∧ 0 ≤ S.1 231 65 ∧ S.1 231 65 ≤ 1000) : Met l yX12_mayBegin (.code yX12_mayBegin cX12_mayBegin 1 (some .boolean) :: tb) (rmk 1 0 0) (sPc G 294 S [.ref (G.2.2.1 + 231)]) (sQi G 294 (fun r u => dX G u ∧ Fr S u (pl [231, 265]) ∧ FF S u (fl [58, 61, 62, 63, 65]) ∧ ((0 ≤ r ∧ r ≤ 1) ∧ (r = 0 → u.1 231 61 = 6 ∧ u.1 231 58 = S.1 231 58 ∧ u.1 231 63 = S.1 231 63 ∧ u.1 231 65 = S.1 231 65 ∧ u.1 231 62 = S.1 231 62) ∧ (r = 1 → S.1 231 63 ≤ 39 ∧ u.1 231 58 = S.1 231 58 + 1 ∧ u.1 231 63 = S.1 231 63 + 1 ∧ u.1 231 65 = S.1 231 65 + 1 ∧ u.1 231 65 ≤ 1000 ∧ u.1 231 62 = 4 ∧ u.1 231 61 = S.1 231 61) ∧ ∀ x, u.2.1 265 x = if r = 1 ∧ x = S.1 231 58 + 1 then S.1 231 46 + S.1 231 63 + 1 else S.2.1 265 x))) 0 0 (sF G) := by
  refine sEnter (by decide) (Nat.le_of_ble_eq_true rfl) ?_
  intro p e s m args below meth c Cx hr hlk hnm hW ls hl
  have Cx : sC G p m c cX12_mayBegin 1 s args RX12 := Cx
  obtain ⟨hx, hb, hml, hown, hts⟩ := id Cx.1
  have hL : sL G [] := sL_nil
  have hl : lv_has ls 1 [(0, .ref (G.2.2.1 + 231))] := hl
  have hW0 := hW
  have hm1 : (0 ≤ S.1 231 46 ∧ S.1 231 46 ≤ 12) ∧ (0 ≤ S.1 231 47 ∧ S.1 231 47 ≤ 16) ∧ 0 ≤ S.1 231 63 ∧ S.1 231 63 ≤ 40 := hM
  refine lv_aload_n hx hb dX12_mayBegin_0 rfl (lv_at hl 0 rfl) ?_
  have q_1 : (-2147483648) ≤ S.1 231 63 ∧ S.1 231 63 ≤ 2147483647 := hI.fi 63
  refine g_X12_480 Cx hW (k := 231) (by decide) rfl (v := S.1 231 63) rfl dX12_mayBegin_1 ?_
  refine lv_bipush (v := iv 40) hx hb dX12_mayBegin_4 (by decide) ?_
  refine r_icmp_eq (tgt := 19) hx hb ⟨(by omega), (by omega)⟩ ⟨(by omega), (by omega)⟩ dX12_mayBegin_6 (by decide) (fun c_2 => ?_) (fun c_2 => ?_)
  · refine lv_aload_n hx hb dX12_mayBegin_19 rfl (lv_at hl 0 rfl) ?_
    refine lv_bipush (v := iv 6) hx hb dX12_mayBegin_20 (by decide) ?_
    refine p_X12_477 Cx hW hL (k := 231) (by decide) rfl dX12_mayBegin_22 (fun H locs hW hL => ?_)
    have F_3 : Fr S (uF S 231 61 6) (pl [231, 265]) := (Fr.rf : Fr S S (pl [231, 265])).F rfl
    have g_4 : FF S (uF S 231 61 6) (fl [58, 61, 62, 63, 65]) := FF.F FF.rf rfl
    have i_5 : dX G (uF S 231 61 6) := hI.F (i := 61) (show (-2147483648) ≤ 6 ∧ 6 ≤ 2147483647 from ⟨by omega, by omega⟩)
    refine lv_iconst (v := iv 0) hx hb dX12_mayBegin_25 (by decide) ?_
    have lk_6 : (uF S 231 61 6).1 231 61 = 6 := uF_on
    have q_7 : (-2147483648) ≤ S.1 231 58 ∧ S.1 231 58 ≤ 2147483647 := hI.fi 58
    have lk_8 : (uF S 231 61 6).1 231 58 = S.1 231 58 := uF_ne (fun h => absurd h.2 (by decide))
    have lk_9 : (uF S 231 61 6).1 231 63 = S.1 231 63 := uF_ne (fun h => absurd h.2 (by decide))
    have q_10 : (-2147483648) ≤ S.1 231 65 ∧ S.1 231 65 ≤ 2147483647 := hI.fi 65
    have lk_11 : (uF S 231 61 6).1 231 65 = S.1 231 65 := uF_ne (fun h => absurd h.2 (by decide))
    have q_12 : (-2147483648) ≤ S.1 231 62 ∧ S.1 231 62 ≤ 2147483647 := hI.fi 62
    have lk_13 : (uF S 231 61 6).1 231 62 = S.1 231 62 := uF_ne (fun h => absurd h.2 (by decide))
    exact sZret Cx hr hlk hW hL (by omega) ⟨i_5, F_3, g_4, ⟨(by omega), (by omega), (by omega), (fun x => by rw [if_neg (by omega)]; rfl)⟩⟩ dX12_mayBegin_26
  · refine lv_aload_n hx hb dX12_mayBegin_9 rfl (lv_at hl 0 rfl) ?_
    have q_14 : (-2147483648) ≤ S.1 231 65 ∧ S.1 231 65 ≤ 2147483647 := hI.fi 65
    refine g_X12_499 Cx hW (k := 231) (by decide) rfl (v := S.1 231 65) rfl dX12_mayBegin_10 ?_
    refine lv_sipush (v := iv 1000) hx hb dX12_mayBegin_13 (by decide) ?_
    refine r_icmp_ne (tgt := 27) hx hb ⟨(by omega), (by omega)⟩ ⟨(by omega), (by omega)⟩ dX12_mayBegin_16 (by decide) (fun c_15 => ?_) (fun c_15 => ?_)
    · refine lv_aload_n hx hb dX12_mayBegin_27 rfl (lv_at hl 0 rfl) ?_
      refine lv_dup hx hb dX12_mayBegin_28 rfl ?_
      refine g_X12_499 Cx hW (k := 231) (by decide) rfl (v := S.1 231 65) rfl dX12_mayBegin_29 ?_
      refine lv_iconst (v := iv 1) hx hb dX12_mayBegin_32 (by decide) ?_
      refine r_iadd hx hb dX12_mayBegin_33 ?_
      refine p_X12_499 Cx hW hL (k := 231) (by decide) rfl dX12_mayBegin_34 (fun H locs hW hL => ?_)
      have F_16 : Fr S (uF S 231 65 ((S.1 231 65) + 1)) (pl [231, 265]) := (Fr.rf : Fr S S (pl [231, 265])).F rfl
      have g_17 : FF S (uF S 231 65 ((S.1 231 65) + 1)) (fl [58, 61, 62, 63, 65]) := FF.F FF.rf rfl
      have i_18 : dX G (uF S 231 65 ((S.1 231 65) + 1)) := hI.F (i := 65) (show (-2147483648) ≤ (S.1 231 65) + 1 ∧ (S.1 231 65) + 1 ≤ 2147483647 from ⟨by omega, by omega⟩)
      refine lv_aload_n hx hb dX12_mayBegin_37 rfl (lv_at hl 0 rfl) ?_
      refine lv_dup hx hb dX12_mayBegin_38 rfl ?_
      refine g_X12_480 Cx hW (k := 231) (by decide) rfl (v := S.1 231 63) (uF_ne (fun h => absurd h.2 (by decide))) dX12_mayBegin_39 ?_
      refine lv_iconst (v := iv 1) hx hb dX12_mayBegin_42 (by decide) ?_
      refine r_iadd hx hb dX12_mayBegin_43 ?_
      refine p_X12_480 Cx hW hL (k := 231) (by decide) rfl dX12_mayBegin_44 (fun H locs hW hL => ?_)
      have F_19 : Fr S (uF (uF S 231 65 ((S.1 231 65) + 1)) 231 63 ((S.1 231 63) + 1)) (pl [231, 265]) := F_16.F rfl
      have g_20 : FF S (uF (uF S 231 65 ((S.1 231 65) + 1)) 231 63 ((S.1 231 63) + 1)) (fl [58, 61, 62, 63, 65]) := FF.F g_17 rfl
      have i_21 : dX G (uF (uF S 231 65 ((S.1 231 65) + 1)) 231 63 ((S.1 231 63) + 1)) := i_18.F (i := 63) (show (-2147483648) ≤ (S.1 231 63) + 1 ∧ (S.1 231 63) + 1 ≤ 2147483647 from ⟨by omega, by omega⟩)
      refine lv_aload_n hx hb dX12_mayBegin_47 rfl (lv_at hl 0 rfl) ?_
      refine lv_dup hx hb dX12_mayBegin_48 rfl ?_
      have q_22 : (-2147483648) ≤ S.1 231 58 ∧ S.1 231 58 ≤ 2147483647 := hI.fi 58
      refine g_X12_483 Cx hW (k := 231) (by decide) rfl (v := S.1 231 58) ((uF_ne (fun h => absurd h.2 (by decide))).trans (uF_ne (fun h => absurd h.2 (by decide)))) dX12_mayBegin_49 ?_
      refine lv_iconst (v := iv 1) hx hb dX12_mayBegin_52 (by decide) ?_
      refine r_iadd hx hb dX12_mayBegin_53 ?_
      refine p_X12_483 Cx hW hL (k := 231) (by decide) rfl dX12_mayBegin_54 (fun H locs hW hL => ?_)
      have F_23 : Fr S (uF (uF (uF S 231 65 ((S.1 231 65) + 1)) 231 63 ((S.1 231 63) + 1)) 231 58 ((S.1 231 58) + 1)) (pl [231, 265]) := F_19.F rfl
      have g_24 : FF S (uF (uF (uF S 231 65 ((S.1 231 65) + 1)) 231 63 ((S.1 231 63) + 1)) 231 58 ((S.1 231 58) + 1)) (fl [58, 61, 62, 63, 65]) := FF.F g_20 rfl
      have i_25 : dX G (uF (uF (uF S 231 65 ((S.1 231 65) + 1)) 231 63 ((S.1 231 63) + 1)) 231 58 ((S.1 231 58) + 1)) := i_21.F (i := 58) (show (-2147483648) ≤ (S.1 231 58) + 1 ∧ (S.1 231 58) + 1 ≤ 2147483647 from ⟨by omega, by omega⟩)
      refine lv_aload_n hx hb dX12_mayBegin_57 rfl (lv_at hl 0 rfl) ?_
      refine g_X12_112 Cx hW (k := 231) (by decide) rfl (v := .ref (G.2.2.1 + 265)) (rd_56 i_25) dX12_mayBegin_58 ?_
      refine lv_aload_n hx hb dX12_mayBegin_61 rfl (lv_at hl 0 rfl) ?_
      refine g_X12_483 Cx hW (k := 231) (by decide) rfl (v := (S.1 231 58) + 1) uF_on dX12_mayBegin_62 ?_
      refine lv_aload_n hx hb dX12_mayBegin_65 rfl (lv_at hl 0 rfl) ?_
      have q_26 : (-2147483648) ≤ S.1 231 46 ∧ S.1 231 46 ≤ 2147483647 := hI.fi 46
      refine g_X12_465 Cx hW (k := 231) (by decide) rfl (v := S.1 231 46) ((uF_ne (fun h => absurd h.2 (by decide))).trans ((uF_ne (fun h => absurd h.2 (by decide))).trans (uF_ne (fun h => absurd h.2 (by decide))))) dX12_mayBegin_66 ?_
      refine lv_aload_n hx hb dX12_mayBegin_69 rfl (lv_at hl 0 rfl) ?_
      refine g_X12_480 Cx hW (k := 231) (by decide) rfl (v := (S.1 231 63) + 1) ((uF_ne (fun h => absurd h.2 (by decide))).trans (uF_on)) dX12_mayBegin_70 ?_
      refine r_iadd hx hb dX12_mayBegin_73 ?_
      refine rIast Cx hW hL (k := 265) (by decide) rfl (by decide) (by omega) (by omega) dX12_mayBegin_74 (fun H locs hW hL => ?_)
      have F_27 : Fr S (uA (uF (uF (uF S 231 65 ((S.1 231 65) + 1)) 231 63 ((S.1 231 63) + 1)) 231 58 ((S.1 231 58) + 1)) 265 ((S.1 231 58) + 1) ((S.1 231 46) + ((S.1 231 63) + 1))) (pl [231, 265]) := F_23.A rfl
      have i_28 : dX G (uA (uF (uF (uF S 231 65 ((S.1 231 65) + 1)) 231 63 ((S.1 231 63) + 1)) 231 58 ((S.1 231 58) + 1)) 265 ((S.1 231 58) + 1) ((S.1 231 46) + ((S.1 231 63) + 1))) := i_25.A (k := 265) (show (-2147483648) ≤ (S.1 231 46) + ((S.1 231 63) + 1) ∧ (S.1 231 46) + ((S.1 231 63) + 1) ≤ 2147483647 from ⟨by omega, by omega⟩)
      refine lv_aload_n hx hb dX12_mayBegin_75 rfl (lv_at hl 0 rfl) ?_
      refine lv_iconst (v := iv 4) hx hb dX12_mayBegin_76 (by decide) ?_
      refine p_X12_532 Cx hW hL (k := 231) (by decide) rfl dX12_mayBegin_77 (fun H locs hW hL => ?_)
      have F_29 : Fr S (uF (uA (uF (uF (uF S 231 65 ((S.1 231 65) + 1)) 231 63 ((S.1 231 63) + 1)) 231 58 ((S.1 231 58) + 1)) 265 ((S.1 231 58) + 1) ((S.1 231 46) + ((S.1 231 63) + 1))) 231 62 4) (pl [231, 265]) := F_27.F rfl
      have g_30 : FF S (uF (uA (uF (uF (uF S 231 65 ((S.1 231 65) + 1)) 231 63 ((S.1 231 63) + 1)) 231 58 ((S.1 231 58) + 1)) 265 ((S.1 231 58) + 1) ((S.1 231 46) + ((S.1 231 63) + 1))) 231 62 4) (fl [58, 61, 62, 63, 65]) := FF.F g_24 rfl
      have i_31 : dX G (uF (uA (uF (uF (uF S 231 65 ((S.1 231 65) + 1)) 231 63 ((S.1 231 63) + 1)) 231 58 ((S.1 231 58) + 1)) 265 ((S.1 231 58) + 1) ((S.1 231 46) + ((S.1 231 63) + 1))) 231 62 4) := i_28.F (i := 62) (show (-2147483648) ≤ 4 ∧ 4 ≤ 2147483647 from ⟨by omega, by omega⟩)
      refine lv_iconst (v := iv 1) hx hb dX12_mayBegin_80 (by decide) ?_
      have q_32 : (-2147483648) ≤ S.1 231 61 ∧ S.1 231 61 ≤ 2147483647 := hI.fi 61
      have lk_33 : (uF (uA (uF (uF (uF S 231 65 ((S.1 231 65) + 1)) 231 63 ((S.1 231 63) + 1)) 231 58 ((S.1 231 58) + 1)) 265 ((S.1 231 58) + 1) ((S.1 231 46) + ((S.1 231 63) + 1))) 231 62 4).1 231 61 = S.1 231 61 := (uF_ne (fun h => absurd h.2 (by decide))).trans ((uA_f).trans ((uF_ne (fun h => absurd h.2 (by decide))).trans ((uF_ne (fun h => absurd h.2 (by decide))).trans (uF_ne (fun h => absurd h.2 (by decide))))))
      have lk_34 : (uF (uA (uF (uF (uF S 231 65 ((S.1 231 65) + 1)) 231 63 ((S.1 231 63) + 1)) 231 58 ((S.1 231 58) + 1)) 265 ((S.1 231 58) + 1) ((S.1 231 46) + ((S.1 231 63) + 1))) 231 62 4).1 231 58 = (S.1 231 58) + 1 := (uF_ne (fun h => absurd h.2 (by decide))).trans ((uA_f).trans (uF_on))
      have lk_35 : (uF (uA (uF (uF (uF S 231 65 ((S.1 231 65) + 1)) 231 63 ((S.1 231 63) + 1)) 231 58 ((S.1 231 58) + 1)) 265 ((S.1 231 58) + 1) ((S.1 231 46) + ((S.1 231 63) + 1))) 231 62 4).1 231 63 = (S.1 231 63) + 1 := (uF_ne (fun h => absurd h.2 (by decide))).trans ((uA_f).trans ((uF_ne (fun h => absurd h.2 (by decide))).trans (uF_on)))
      have lk_36 : (uF (uA (uF (uF (uF S 231 65 ((S.1 231 65) + 1)) 231 63 ((S.1 231 63) + 1)) 231 58 ((S.1 231 58) + 1)) 265 ((S.1 231 58) + 1) ((S.1 231 46) + ((S.1 231 63) + 1))) 231 62 4).1 231 65 = (S.1 231 65) + 1 := (uF_ne (fun h => absurd h.2 (by decide))).trans ((uA_f).trans ((uF_ne (fun h => absurd h.2 (by decide))).trans ((uF_ne (fun h => absurd h.2 (by decide))).trans (uF_on))))
      have lk_37 : (uF (uA (uF (uF (uF S 231 65 ((S.1 231 65) + 1)) 231 63 ((S.1 231 63) + 1)) 231 58 ((S.1 231 58) + 1)) 265 ((S.1 231 58) + 1) ((S.1 231 46) + ((S.1 231 63) + 1))) 231 62 4).1 231 62 = 4 := uF_on
      exact sZret Cx hr hlk hW hL (by omega) ⟨i_31, F_29, g_30, ⟨(by omega), (by omega), (by omega), (fun x => by show (uA _ _ _ _).2.1 265 x = _; rw [uA_get]; by_cases z : x = S.1 231 58 + 1; (rw [if_pos ⟨rfl, z⟩, if_pos ⟨rfl, z⟩]; omega); rw [if_neg (fun h => z h.2), if_neg (fun h => z h.2)]; rfl)⟩⟩ dX12_mayBegin_81
    · refine lv_aload_n hx hb dX12_mayBegin_19 rfl (lv_at hl 0 rfl) ?_
      refine lv_bipush (v := iv 6) hx hb dX12_mayBegin_20 (by decide) ?_
      refine p_X12_477 Cx hW hL (k := 231) (by decide) rfl dX12_mayBegin_22 (fun H locs hW hL => ?_)
      have F_38 : Fr S (uF S 231 61 6) (pl [231, 265]) := (Fr.rf : Fr S S (pl [231, 265])).F rfl
      have g_39 : FF S (uF S 231 61 6) (fl [58, 61, 62, 63, 65]) := FF.F FF.rf rfl
      have i_40 : dX G (uF S 231 61 6) := hI.F (i := 61) (show (-2147483648) ≤ 6 ∧ 6 ≤ 2147483647 from ⟨by omega, by omega⟩)
      refine lv_iconst (v := iv 0) hx hb dX12_mayBegin_25 (by decide) ?_
      have lk_41 : (uF S 231 61 6).1 231 61 = 6 := uF_on
      have q_42 : (-2147483648) ≤ S.1 231 58 ∧ S.1 231 58 ≤ 2147483647 := hI.fi 58
      have lk_43 : (uF S 231 61 6).1 231 58 = S.1 231 58 := uF_ne (fun h => absurd h.2 (by decide))
      have lk_44 : (uF S 231 61 6).1 231 63 = S.1 231 63 := uF_ne (fun h => absurd h.2 (by decide))
      have lk_45 : (uF S 231 61 6).1 231 65 = S.1 231 65 := uF_ne (fun h => absurd h.2 (by decide))
      have q_46 : (-2147483648) ≤ S.1 231 62 ∧ S.1 231 62 ≤ 2147483647 := hI.fi 62
      have lk_47 : (uF S 231 61 6).1 231 62 = S.1 231 62 := uF_ne (fun h => absurd h.2 (by decide))
      exact sZret Cx hr hlk hW hL (by omega) ⟨i_40, F_38, g_39, ⟨(by omega), (by omega), (by omega), (fun x => by rw [if_neg (by omega)]; rfl)⟩⟩ dX12_mayBegin_26

set_option maxRecDepth 100000 in
set_option maxHeartbeats 4000000 in
theorem s_X12_outOfBasis (l : Launch) (G : sG) (S : sS)  (hI : dX G S) (hD : DOK S) (hWX : WX S) : Met l yX12_outOfBasis (.code yX12_outOfBasis cX12_outOfBasis 4 (some .boolean) :: tb) (rmk 2 0 0) (sPc G 294 S [.ref (G.2.2.1 + 231)]) (sQi G 294 (fun r u => dX G u ∧ Fr S u (pl [231]) ∧ FF S u (fl [62, 71, 72]) ∧ ((0 ≤ r ∧ r ≤ 1) ∧ u.1 231 62 = 5 ∧ Hd (r = 1 → (1 ≤ u.1 231 71 ∧ u.1 231 71 ≤ S.1 231 58) ∧ (1 ≤ u.1 231 72 ∧ u.1 231 72 ≤ S.1 231 59) ∧ S.2.1 262 (8 * (15 * (u.1 231 71 + 1) + u.1 231 72)) ≠ 0)))) 0 0 (sF G) := by
  refine sEnter (by decide) (Nat.le_of_ble_eq_true rfl) ?_
  intro p e s m args below meth c Cx hr hlk hnm hW ls hl
  have Cx : sC G p m c cX12_outOfBasis 4 s args RX12 := Cx
  obtain ⟨hx, hb, hml, hown, hts⟩ := id Cx.1
  have hL : sL G [] := sL_nil
  have hl : lv_has ls 4 [(0, .ref (G.2.2.1 + 231))] := hl
  have hW0 := hW
  have hd1 := hD.1
  refine lv_iconst (v := iv 0) hx hb dX12_outOfBasis_0 (by decide) ?_
  refine lv_istore_n (lv' := [(1, .int (iv 0)), (0, .ref (G.2.2.1 + 231))]) hx hb dX12_outOfBasis_1 rfl hl (by decide) rfl (fun ls hl => ?_)
  refine lv_iconst (v := iv 1) hx hb dX12_outOfBasis_2 (by decide) ?_
  refine lv_istore_n (lv' := [(2, .int (iv 1)), (1, .int (iv 0)), (0, .ref (G.2.2.1 + 231))]) hx hb dX12_outOfBasis_3 rfl hl (by decide) rfl (fun ls hl => ?_)
  have loop_4 : ∀ (fuel : Nat) (i : Int) (r1 : Int) (H : Heap) (locs : List Loc) (ls : Array Slot), (S.1 231 58 + 1 - i).toNat < fuel → (1 ≤ i ∧ i ≤ S.1 231 58 + 1) → (0 ≤ r1 ∧ r1 < i) → (Hd (1 ≤ r1 → S.2.1 265 r1 = 0)) → sW G 294 S H → sL G locs → lv_has ls 4 [(2, .int (iv i)), (1, .int (iv r1)), (0, .ref (G.2.2.1 + 231))] → W p l e (rmk 2 0 0) s m args below meth c H locs 0 0 (MQ below (sQi G 294 (fun r u => dX G u ∧ Fr S u (pl [231]) ∧ FF S u (fl [62, 71, 72]) ∧ ((0 ≤ r ∧ r ≤ 1) ∧ u.1 231 62 = 5 ∧ Hd (r = 1 → (1 ≤ u.1 231 71 ∧ u.1 231 71 ≤ S.1 231 58) ∧ (1 ≤ u.1 231 72 ∧ u.1 231 72 ≤ S.1 231 59) ∧ S.2.1 262 (8 * (15 * (u.1 231 71 + 1) + u.1 231 72)) ≠ 0)))) args s 0 0 (sF G)) (F0 m 4 ls []) := by
    intro fuel
    induction fuel with
    | zero => intro i r1 H locs ls hmeas hi hr1 hrz hW hL hl; exact absurd hmeas (Nat.not_lt_zero _)
    | succ fuel ih_4 =>
      intro i r1 H locs ls hmeas hi hr1 hrz hW hL hl
      refine lv_iload_n hx hb dX12_outOfBasis_4 rfl (lv_at hl 0 rfl) ?_
      refine lv_aload_n hx hb dX12_outOfBasis_5 rfl (lv_at hl 2 rfl) ?_
      have q_1 : (-2147483648) ≤ S.1 231 58 ∧ S.1 231 58 ≤ 2147483647 := hI.fi 58
      refine g_X12_483 Cx hW (k := 231) (by decide) rfl (v := S.1 231 58) rfl dX12_outOfBasis_6 ?_
      refine r_icmp_gt (tgt := 29) hx hb ⟨(by omega), (by omega)⟩ ⟨(by omega), (by omega)⟩ dX12_outOfBasis_9 (by decide) (fun c_2 => ?_) (fun c_2 => ?_)
      · refine lv_iload_n hx hb dX12_outOfBasis_29 rfl (lv_at hl 1 rfl) ?_
        refine r_if_ne (tgt := 40) hx hb ⟨(by omega), (by omega)⟩ dX12_outOfBasis_30 (by decide) (fun c_3 => ?_) (fun c_3 => ?_)
        · refine lv_iconst (v := iv 0) hx hb dX12_outOfBasis_40 (by decide) ?_
          refine lv_istore_n (lv' := [(2, .int (iv 0)), (1, .int (iv r1)), (0, .ref (G.2.2.1 + 231))]) hx hb dX12_outOfBasis_41 rfl hl (by decide) rfl (fun ls hl => ?_)
          refine lv_iconst (v := iv 1) hx hb dX12_outOfBasis_42 (by decide) ?_
          refine lv_istore_n (lv' := [(3, .int (iv 1)), (2, .int (iv 0)), (1, .int (iv r1)), (0, .ref (G.2.2.1 + 231))]) hx hb dX12_outOfBasis_43 rfl hl (by decide) rfl (fun ls hl => ?_)
          have loop_44 : ∀ (fuel : Nat) (j : Int) (s1 : Int) (H : Heap) (locs : List Loc) (ls : Array Slot), (S.1 231 59 + 1 - j).toNat < fuel → (1 ≤ j ∧ j ≤ S.1 231 59 + 1) → (0 ≤ s1 ∧ s1 < j) → (Hd (1 ≤ s1 → S.2.1 262 (8 * (15 * (r1 + 1) + s1)) ≠ 0)) → (Hd (s1 = 0 → ∀ t, 1 ≤ t → t < j → S.2.1 262 (8 * (15 * (r1 + 1) + t)) = 0)) → sW G 294 S H → sL G locs → lv_has ls 4 [(3, .int (iv j)), (2, .int (iv s1)), (1, .int (iv r1)), (0, .ref (G.2.2.1 + 231))] → W p l e (rmk 2 0 0) s m args below meth c H locs 0 0 (MQ below (sQi G 294 (fun r u => dX G u ∧ Fr S u (pl [231]) ∧ FF S u (fl [62, 71, 72]) ∧ ((0 ≤ r ∧ r ≤ 1) ∧ u.1 231 62 = 5 ∧ Hd (r = 1 → (1 ≤ u.1 231 71 ∧ u.1 231 71 ≤ S.1 231 58) ∧ (1 ≤ u.1 231 72 ∧ u.1 231 72 ≤ S.1 231 59) ∧ S.2.1 262 (8 * (15 * (u.1 231 71 + 1) + u.1 231 72)) ≠ 0)))) args s 0 0 (sF G)) (F0 m 44 ls []) := by
            intro fuel
            induction fuel with
            | zero => intro j s1 H locs ls hmeas hj hs1 hsn hsz hW hL hl; exact absurd hmeas (Nat.not_lt_zero _)
            | succ fuel ih_44 =>
              intro j s1 H locs ls hmeas hj hs1 hsn hsz hW hL hl
              refine lv_iload_n hx hb dX12_outOfBasis_44 rfl (lv_at hl 0 rfl) ?_
              refine lv_aload_n hx hb dX12_outOfBasis_45 rfl (lv_at hl 3 rfl) ?_
              have q_4 : (-2147483648) ≤ S.1 231 59 ∧ S.1 231 59 ≤ 2147483647 := hI.fi 59
              refine g_X12_526 Cx hW (k := 231) (by decide) rfl (v := S.1 231 59) rfl dX12_outOfBasis_46 ?_
              refine r_icmp_gt (tgt := 95) hx hb ⟨(by omega), (by omega)⟩ ⟨(by omega), (by omega)⟩ dX12_outOfBasis_49 (by decide) (fun c_5 => ?_) (fun c_5 => ?_)
              · have hs0 : 1 ≤ s1 := by by_cases z : s1 = 0; (exfalso; obtain ⟨t, t0, t1, t2⟩ := hWX.out (r := r1) (by omega) (hrz (by omega)); exact t2 ((TV_z hD (by omega) (by omega) (by omega)).mpr (hsz z t t0 (by omega)))); omega
                refine lv_aload_n hx hb dX12_outOfBasis_95 rfl (lv_at hl 3 rfl) ?_
                refine lv_iload_n hx hb dX12_outOfBasis_96 rfl (lv_at hl 2 rfl) ?_
                refine p_X12_562 Cx hW hL (k := 231) (by decide) rfl dX12_outOfBasis_97 (fun H locs hW hL => ?_)
                have F_6 : Fr S (uF S 231 71 r1) (pl [231]) := (Fr.rf : Fr S S (pl [231])).F rfl
                have g_7 : FF S (uF S 231 71 r1) (fl [62, 71, 72]) := FF.F FF.rf rfl
                have i_8 : dX G (uF S 231 71 r1) := hI.F (i := 71) (show (-2147483648) ≤ r1 ∧ r1 ≤ 2147483647 from ⟨by omega, by omega⟩)
                refine lv_aload_n hx hb dX12_outOfBasis_100 rfl (lv_at hl 3 rfl) ?_
                refine lv_iload_n hx hb dX12_outOfBasis_101 rfl (lv_at hl 1 rfl) ?_
                refine p_X12_555 Cx hW hL (k := 231) (by decide) rfl dX12_outOfBasis_102 (fun H locs hW hL => ?_)
                have F_9 : Fr S (uF (uF S 231 71 r1) 231 72 s1) (pl [231]) := F_6.F rfl
                have g_10 : FF S (uF (uF S 231 71 r1) 231 72 s1) (fl [62, 71, 72]) := FF.F g_7 rfl
                have i_11 : dX G (uF (uF S 231 71 r1) 231 72 s1) := i_8.F (i := 72) (show (-2147483648) ≤ s1 ∧ s1 ≤ 2147483647 from ⟨by omega, by omega⟩)
                refine lv_aload_n hx hb dX12_outOfBasis_105 rfl (lv_at hl 3 rfl) ?_
                refine lv_iconst (v := iv 5) hx hb dX12_outOfBasis_106 (by decide) ?_
                refine p_X12_532 Cx hW hL (k := 231) (by decide) rfl dX12_outOfBasis_107 (fun H locs hW hL => ?_)
                have F_12 : Fr S (uF (uF (uF S 231 71 r1) 231 72 s1) 231 62 5) (pl [231]) := F_9.F rfl
                have g_13 : FF S (uF (uF (uF S 231 71 r1) 231 72 s1) 231 62 5) (fl [62, 71, 72]) := FF.F g_10 rfl
                have i_14 : dX G (uF (uF (uF S 231 71 r1) 231 72 s1) 231 62 5) := i_11.F (i := 62) (show (-2147483648) ≤ 5 ∧ 5 ≤ 2147483647 from ⟨by omega, by omega⟩)
                refine lv_iconst (v := iv 1) hx hb dX12_outOfBasis_110 (by decide) ?_
                have lk_15 : (uF (uF (uF S 231 71 r1) 231 72 s1) 231 62 5).1 231 62 = 5 := uF_on
                have lk_16 : (uF (uF (uF S 231 71 r1) 231 72 s1) 231 62 5).1 231 71 = r1 := (uF_ne (fun h => absurd h.2 (by decide))).trans ((uF_ne (fun h => absurd h.2 (by decide))).trans (uF_on))
                have lk_17 : (uF (uF (uF S 231 71 r1) 231 72 s1) 231 62 5).1 231 72 = s1 := (uF_ne (fun h => absurd h.2 (by decide))).trans (uF_on)
                exact sZret Cx hr hlk hW hL (by omega) ⟨i_14, F_12, g_13, ⟨(by omega), uF_on, (fun _ => by rw [show (uF (uF (uF S 231 71 r1) 231 72 s1) 231 62 5).1 231 71 = r1 from (uF_ne (fun h => absurd h.2 (by decide))).trans ((uF_ne (fun h => absurd h.2 (by decide))).trans (uF_on)), show (uF (uF (uF S 231 71 r1) 231 72 s1) 231 62 5).1 231 72 = s1 from (uF_ne (fun h => absurd h.2 (by decide))).trans (uF_on)]; exact ⟨by omega, by omega, hsn (by omega)⟩)⟩⟩ dX12_outOfBasis_111
              · have join_89 : ∀ (s2 : Int) (H : Heap) (locs : List Loc) (ls : Array Slot), (0 ≤ s2 ∧ s2 ≤ j) → (Hd (1 ≤ s2 → S.2.1 262 (8 * (15 * (r1 + 1) + s2)) ≠ 0)) → (Hd (s2 = 0 → ∀ t, 1 ≤ t → t < j + 1 → S.2.1 262 (8 * (15 * (r1 + 1) + t)) = 0)) → sW G 294 S H → sL G locs → lv_has ls 4 [(3, .int (iv j)), (2, .int (iv s2)), (1, .int (iv r1)), (0, .ref (G.2.2.1 + 231))] → W p l e (rmk 2 0 0) s m args below meth c H locs 0 0 (MQ below (sQi G 294 (fun r u => dX G u ∧ Fr S u (pl [231]) ∧ FF S u (fl [62, 71, 72]) ∧ ((0 ≤ r ∧ r ≤ 1) ∧ u.1 231 62 = 5 ∧ Hd (r = 1 → (1 ≤ u.1 231 71 ∧ u.1 231 71 ≤ S.1 231 58) ∧ (1 ≤ u.1 231 72 ∧ u.1 231 72 ≤ S.1 231 59) ∧ S.2.1 262 (8 * (15 * (u.1 231 71 + 1) + u.1 231 72)) ≠ 0)))) args s 0 0 (sF G)) (F0 m 89 ls []) := by
                  intro s2 H locs ls hs2 hsn2 hsz2 hW hL hl
                  refine lv_iinc (v := iv (j + 1)) (lv' := [(3, .int (iv (j + 1))), (2, .int (iv s2)), (1, .int (iv r1)), (0, .ref (G.2.2.1 + 231))]) hx hb dX12_outOfBasis_89 hl (k := 0) rfl ((Int32.ofInt_add _ _).symm) (by decide) rfl (fun ls hl => ?_)
                  refine lv_goto (tgt := 44) hx hb dX12_outOfBasis_92 (by decide) ?_
                  exact ih_44 (j + 1) s2 _ _ _ (by omega) (by omega) (by omega) hsn2 hsz2 hW hL (lv_sub hl [0, 1, 2, 3] rfl)
                refine lv_aload_n hx hb dX12_outOfBasis_52 rfl (lv_at hl 3 rfl) ?_
                refine g_X12_103 Cx hW (k := 231) (by decide) rfl (v := .ref (G.2.2.1 + 262)) (rd_53 hI) dX12_outOfBasis_53 ?_
                refine lv_aload_n hx hb dX12_outOfBasis_56 rfl (lv_at hl 3 rfl) ?_
                refine lv_iload_n hx hb dX12_outOfBasis_57 rfl (lv_at hl 2 rfl) ?_
                refine lv_iconst (v := iv 1) hx hb dX12_outOfBasis_58 (by decide) ?_
                refine r_iadd hx hb dX12_outOfBasis_59 ?_
                refine lv_iload_n hx hb dX12_outOfBasis_60 rfl (lv_at hl 0 rfl) ?_
                refine sBi (sV (As := [.int (iv (r1 + 1)), .int (iv j)]) (rest := [.ref (G.2.2.1 + 262)]) (k := 231) Cx (s_X12_cell l G S (i := r1 + 1) (j := j) (by omega) (by omega)) (c_X12_529 Cx rfl rfl (rmk_ok (by omega) (by decide))) hW (by decide) rfl rfl rfl hl.1 rfl (Nat.le_of_ble_eq_true rfl) dX12_outOfBasis_61 ⟨Nat.le_of_ble_eq_true rfl, Nat.le_of_ble_eq_true rfl⟩) hL (fun r_20 u_18 H locs k_19 hW hL => ?_)
                obtain ⟨eu_18, xu_18⟩ := k_19
                rw [eu_18] at hW
                refine rIald Cx hW (k := 262) (by decide) rfl (by decide) (by omega) (by omega) dX12_outOfBasis_64 ?_
                have q_21 : (-2147483648) ≤ S.2.1 262 r_20 ∧ S.2.1 262 r_20 ≤ 2147483647 := hI.ai 262 r_20
                refine r_i (b := S.2.1 262 r_20) rfl ?_
                have hrd : S.2.1 262 (8 * (15 * (r1 + 1) + j)) = S.2.1 262 r_20 := congrArg (S.2.1 262) (by omega)
                refine r_if_eq (tgt := 89) hx hb ⟨(by omega), (by omega)⟩ dX12_outOfBasis_65 (by decide) (fun c_22 => ?_) (fun c_22 => ?_)
                · exact join_89 s1 _ _ _ (by omega) hsn (fun q t a b => if e : t = j then (by rw [e]; omega) else hsz q t a (by omega)) hW hL (lv_sub hl [0, 1, 2, 3] rfl)
                · refine lv_iload_n hx hb dX12_outOfBasis_68 rfl (lv_at hl 1 rfl) ?_
                  refine r_if_eq (tgt := 87) hx hb ⟨(by omega), (by omega)⟩ dX12_outOfBasis_69 (by decide) (fun c_23 => ?_) (fun c_23 => ?_)
                  · refine lv_iload_n hx hb dX12_outOfBasis_87 rfl (lv_at hl 0 rfl) ?_
                    refine lv_istore_n (lv' := [(2, .int (iv j)), (3, .int (iv j)), (1, .int (iv r1)), (0, .ref (G.2.2.1 + 231))]) hx hb dX12_outOfBasis_88 rfl hl (by decide) rfl (fun ls hl => ?_)
                    exact join_89 j _ _ _ (by omega) (fun _ => by omega) (fun q => absurd q (by omega)) hW hL (lv_sub hl [1, 0, 2, 3] rfl)
                  · refine lv_aload_n hx hb dX12_outOfBasis_72 rfl (lv_at hl 3 rfl) ?_
                    refine g_X12_115 Cx hW (k := 231) (by decide) rfl (v := .ref (G.2.2.1 + 266)) (rd_57 hI) dX12_outOfBasis_73 ?_
                    refine lv_iload_n hx hb dX12_outOfBasis_76 rfl (lv_at hl 0 rfl) ?_
                    refine rIald Cx hW (k := 266) (by decide) rfl (by decide) (by omega) (by omega) dX12_outOfBasis_77 ?_
                    have q_24 : (-2147483648) ≤ S.2.1 266 j ∧ S.2.1 266 j ≤ 2147483647 := hI.ai 266 j
                    refine r_i (b := S.2.1 266 j) rfl ?_
                    refine lv_aload_n hx hb dX12_outOfBasis_78 rfl (lv_at hl 3 rfl) ?_
                    refine g_X12_115 Cx hW (k := 231) (by decide) rfl (v := .ref (G.2.2.1 + 266)) (rd_57 hI) dX12_outOfBasis_79 ?_
                    refine lv_iload_n hx hb dX12_outOfBasis_82 rfl (lv_at hl 1 rfl) ?_
                    refine rIald Cx hW (k := 266) (by decide) rfl (by decide) (by omega) (by omega) dX12_outOfBasis_83 ?_
                    have q_25 : (-2147483648) ≤ S.2.1 266 s1 ∧ S.2.1 266 s1 ≤ 2147483647 := hI.ai 266 s1
                    refine r_i (b := S.2.1 266 s1) rfl ?_
                    refine r_icmp_ge (tgt := 89) hx hb ⟨(by omega), (by omega)⟩ ⟨(by omega), (by omega)⟩ dX12_outOfBasis_84 (by decide) (fun c_26 => ?_) (fun c_26 => ?_)
                    · exact join_89 s1 _ _ _ (by omega) hsn (fun q t a b => if e : t = j then (by rw [e]; omega) else hsz q t a (by omega)) hW hL (lv_sub hl [0, 1, 2, 3] rfl)
                    · refine lv_iload_n hx hb dX12_outOfBasis_87 rfl (lv_at hl 0 rfl) ?_
                      refine lv_istore_n (lv' := [(2, .int (iv j)), (3, .int (iv j)), (1, .int (iv r1)), (0, .ref (G.2.2.1 + 231))]) hx hb dX12_outOfBasis_88 rfl hl (by decide) rfl (fun ls hl => ?_)
                      exact join_89 j _ _ _ (by omega) (fun _ => by omega) (fun q => absurd q (by omega)) hW hL (lv_sub hl [1, 0, 2, 3] rfl)
          exact loop_44 (_ + 1) 1 0 _ _ _ (Nat.lt_succ_self _) (by omega) (by omega) (fun q => absurd q (by omega)) (fun _ t a b => absurd b (by omega)) hW hL (lv_sub hl [0, 1, 2, 3] rfl)
        · refine lv_aload_n hx hb dX12_outOfBasis_33 rfl (lv_at hl 2 rfl) ?_
          refine lv_iconst (v := iv 5) hx hb dX12_outOfBasis_34 (by decide) ?_
          refine p_X12_532 Cx hW hL (k := 231) (by decide) rfl dX12_outOfBasis_35 (fun H locs hW hL => ?_)
          have F_27 : Fr S (uF S 231 62 5) (pl [231]) := (Fr.rf : Fr S S (pl [231])).F rfl
          have g_28 : FF S (uF S 231 62 5) (fl [62, 71, 72]) := FF.F FF.rf rfl
          have i_29 : dX G (uF S 231 62 5) := hI.F (i := 62) (show (-2147483648) ≤ 5 ∧ 5 ≤ 2147483647 from ⟨by omega, by omega⟩)
          refine lv_iconst (v := iv 0) hx hb dX12_outOfBasis_38 (by decide) ?_
          have lk_30 : (uF S 231 62 5).1 231 62 = 5 := uF_on
          have q_31 : (-2147483648) ≤ S.1 231 71 ∧ S.1 231 71 ≤ 2147483647 := hI.fi 71
          have lk_32 : (uF S 231 62 5).1 231 71 = S.1 231 71 := uF_ne (fun h => absurd h.2 (by decide))
          have q_33 : (-2147483648) ≤ S.1 231 72 ∧ S.1 231 72 ≤ 2147483647 := hI.fi 72
          have lk_34 : (uF S 231 62 5).1 231 72 = S.1 231 72 := uF_ne (fun h => absurd h.2 (by decide))
          exact sZret Cx hr hlk hW hL (by omega) ⟨i_29, F_27, g_28, ⟨(by omega), uF_on, (fun q => absurd q (by omega))⟩⟩ dX12_outOfBasis_39
      · have join_23 : ∀ (r2 : Int) (H : Heap) (locs : List Loc) (ls : Array Slot), (0 ≤ r2 ∧ r2 ≤ i) → (Hd (1 ≤ r2 → S.2.1 265 r2 = 0)) → sW G 294 S H → sL G locs → lv_has ls 4 [(2, .int (iv i)), (1, .int (iv r2)), (0, .ref (G.2.2.1 + 231))] → W p l e (rmk 2 0 0) s m args below meth c H locs 0 0 (MQ below (sQi G 294 (fun r u => dX G u ∧ Fr S u (pl [231]) ∧ FF S u (fl [62, 71, 72]) ∧ ((0 ≤ r ∧ r ≤ 1) ∧ u.1 231 62 = 5 ∧ Hd (r = 1 → (1 ≤ u.1 231 71 ∧ u.1 231 71 ≤ S.1 231 58) ∧ (1 ≤ u.1 231 72 ∧ u.1 231 72 ≤ S.1 231 59) ∧ S.2.1 262 (8 * (15 * (u.1 231 71 + 1) + u.1 231 72)) ≠ 0)))) args s 0 0 (sF G)) (F0 m 23 ls []) := by
          intro r2 H locs ls hr2 hrz2 hW hL hl
          refine lv_iinc (v := iv (i + 1)) (lv' := [(2, .int (iv (i + 1))), (1, .int (iv r2)), (0, .ref (G.2.2.1 + 231))]) hx hb dX12_outOfBasis_23 hl (k := 0) rfl ((Int32.ofInt_add _ _).symm) (by decide) rfl (fun ls hl => ?_)
          refine lv_goto (tgt := 4) hx hb dX12_outOfBasis_26 (by decide) ?_
          exact ih_4 (i + 1) r2 _ _ _ (by omega) (by omega) (by omega) hrz2 hW hL (lv_sub hl [0, 1, 2] rfl)
        refine lv_aload_n hx hb dX12_outOfBasis_12 rfl (lv_at hl 2 rfl) ?_
        refine g_X12_112 Cx hW (k := 231) (by decide) rfl (v := .ref (G.2.2.1 + 265)) (rd_56 hI) dX12_outOfBasis_13 ?_
        refine lv_iload_n hx hb dX12_outOfBasis_16 rfl (lv_at hl 0 rfl) ?_
        refine rIald Cx hW (k := 265) (by decide) rfl (by decide) (by omega) (by omega) dX12_outOfBasis_17 ?_
        have q_35 : (-2147483648) ≤ S.2.1 265 i ∧ S.2.1 265 i ≤ 2147483647 := hI.ai 265 i
        refine r_i (b := S.2.1 265 i) rfl ?_
        refine r_if_ne (tgt := 23) hx hb ⟨(by omega), (by omega)⟩ dX12_outOfBasis_18 (by decide) (fun c_36 => ?_) (fun c_36 => ?_)
        · exact join_23 r1 _ _ _ (by omega) hrz hW hL (lv_sub hl [0, 1, 2] rfl)
        · refine lv_iload_n hx hb dX12_outOfBasis_21 rfl (lv_at hl 0 rfl) ?_
          refine lv_istore_n (lv' := [(1, .int (iv i)), (2, .int (iv i)), (0, .ref (G.2.2.1 + 231))]) hx hb dX12_outOfBasis_22 rfl hl (by decide) rfl (fun ls hl => ?_)
          exact join_23 i _ _ _ (by omega) (fun _ => by omega) hW hL (lv_sub hl [1, 0, 2] rfl)
  exact loop_4 (_ + 1) 1 0 _ _ _ (Nat.lt_succ_self _) (by omega) (by omega) (fun q => absurd q (by omega)) hW hL (lv_sub hl [0, 1, 2] rfl)

set_option maxRecDepth 100000 in
set_option maxHeartbeats 4000000 in
theorem s_X12_dropPlace (l : Launch) (G : sG) (S : sS)  (hI : dX G S) (hD : DOK S) (hw1 : S.1 231 60 = 1 ∧ 1 ≤ S.1 231 59) : Met l yX12_dropPlace (.code yX12_dropPlace cX12_dropPlace 3 none :: tb) (rmk 4 0 0) (sPc G 294 S [.ref (G.2.2.1 + 231)]) (sQv G 294 (fun u => dX G u ∧ Fr S u (pl [231, 262, 266]) ∧ FF S u (fl [59, 60]) ∧ (DOK u ∧ u.1 231 59 = S.1 231 59 - 1 ∧ u.1 231 60 = 0 ∧ Hd (∃ s, (0 ≤ s ∧ s ≤ S.1 231 59) ∧ ∀ x, u.2.1 266 x = if x = s then S.2.1 266 (S.1 231 59) else S.2.1 266 x)))) 0 0 (sF G) := by
  refine sEnter (by decide) (Nat.le_of_ble_eq_true rfl) ?_
  intro p e s m args below meth c Cx hr hlk hnm hW ls hl
  have Cx : sC G p m c cX12_dropPlace 3 s args RX12 := Cx
  obtain ⟨hx, hb, hml, hown, hts⟩ := id Cx.1
  have hL : sL G [] := sL_nil
  have hl : lv_has ls 3 [(0, .ref (G.2.2.1 + 231))] := hl
  have hW0 := hW
  have hd1 := hD.1
  refine lv_iconst (v := iv 0) hx hb dX12_dropPlace_0 (by decide) ?_
  refine lv_istore_n (lv' := [(1, .int (iv 0)), (0, .ref (G.2.2.1 + 231))]) hx hb dX12_dropPlace_1 rfl hl (by decide) rfl (fun ls hl => ?_)
  refine lv_iconst (v := iv 1) hx hb dX12_dropPlace_2 (by decide) ?_
  refine lv_istore_n (lv' := [(2, .int (iv 1)), (1, .int (iv 0)), (0, .ref (G.2.2.1 + 231))]) hx hb dX12_dropPlace_3 rfl hl (by decide) rfl (fun ls hl => ?_)
  have loop_4 : ∀ (fuel : Nat) (j : Int) (s1 : Int) (H : Heap) (locs : List Loc) (ls : Array Slot), (S.1 231 59 + 1 - j).toNat < fuel → (1 ≤ j ∧ j ≤ S.1 231 59 + 1) → (0 ≤ s1 ∧ s1 ≤ S.1 231 59) → sW G 294 S H → sL G locs → lv_has ls 3 [(2, .int (iv j)), (1, .int (iv s1)), (0, .ref (G.2.2.1 + 231))] → W p l e (rmk 4 0 0) s m args below meth c H locs 0 0 (MQ below (sQv G 294 (fun u => dX G u ∧ Fr S u (pl [231, 262, 266]) ∧ FF S u (fl [59, 60]) ∧ (DOK u ∧ u.1 231 59 = S.1 231 59 - 1 ∧ u.1 231 60 = 0 ∧ Hd (∃ s, (0 ≤ s ∧ s ≤ S.1 231 59) ∧ ∀ x, u.2.1 266 x = if x = s then S.2.1 266 (S.1 231 59) else S.2.1 266 x)))) args s 0 0 (sF G)) (F0 m 4 ls []) := by
    intro fuel
    induction fuel with
    | zero => intro j s1 H locs ls hmeas hj hs1 hW hL hl; exact absurd hmeas (Nat.not_lt_zero _)
    | succ fuel ih_4 =>
      intro j s1 H locs ls hmeas hj hs1 hW hL hl
      refine lv_iload_n hx hb dX12_dropPlace_4 rfl (lv_at hl 0 rfl) ?_
      refine lv_aload_n hx hb dX12_dropPlace_5 rfl (lv_at hl 2 rfl) ?_
      have q_1 : (-2147483648) ≤ S.1 231 59 ∧ S.1 231 59 ≤ 2147483647 := hI.fi 59
      refine g_X12_526 Cx hW (k := 231) (by decide) rfl (v := S.1 231 59) rfl dX12_dropPlace_6 ?_
      refine r_icmp_gt (tgt := 29) hx hb ⟨(by omega), (by omega)⟩ ⟨(by omega), (by omega)⟩ dX12_dropPlace_9 (by decide) (fun c_2 => ?_) (fun c_2 => ?_)
      · refine lv_aload_n hx hb dX12_dropPlace_29 rfl (lv_at hl 2 rfl) ?_
        refine g_X12_115 Cx hW (k := 231) (by decide) rfl (v := .ref (G.2.2.1 + 266)) (rd_57 hI) dX12_dropPlace_30 ?_
        refine lv_iload_n hx hb dX12_dropPlace_33 rfl (lv_at hl 1 rfl) ?_
        refine lv_aload_n hx hb dX12_dropPlace_34 rfl (lv_at hl 2 rfl) ?_
        refine g_X12_115 Cx hW (k := 231) (by decide) rfl (v := .ref (G.2.2.1 + 266)) (rd_57 hI) dX12_dropPlace_35 ?_
        refine lv_aload_n hx hb dX12_dropPlace_38 rfl (lv_at hl 2 rfl) ?_
        refine g_X12_526 Cx hW (k := 231) (by decide) rfl (v := S.1 231 59) rfl dX12_dropPlace_39 ?_
        refine rIald Cx hW (k := 266) (by decide) rfl (by decide) (by omega) (by omega) dX12_dropPlace_42 ?_
        have q_3 : (-2147483648) ≤ S.2.1 266 (S.1 231 59) ∧ S.2.1 266 (S.1 231 59) ≤ 2147483647 := hI.ai 266 (S.1 231 59)
        refine r_i (b := S.2.1 266 (S.1 231 59)) rfl ?_
        refine rIast Cx hW hL (k := 266) (by decide) rfl (by decide) (by omega) (by omega) dX12_dropPlace_43 (fun H locs hW hL => ?_)
        have F_4 : Fr S (uA S 266 s1 (S.2.1 266 (S.1 231 59))) (pl [231, 262, 266]) := (Fr.rf : Fr S S (pl [231, 262, 266])).A rfl
        have i_5 : dX G (uA S 266 s1 (S.2.1 266 (S.1 231 59))) := hI.A (k := 266) (show (-2147483648) ≤ S.2.1 266 (S.1 231 59) ∧ S.2.1 266 (S.1 231 59) ≤ 2147483647 from ⟨by omega, by omega⟩)
        refine lv_iconst (v := iv 0) hx hb dX12_dropPlace_44 (by decide) ?_
        refine lv_istore_n (lv' := [(2, .int (iv 0)), (1, .int (iv s1)), (0, .ref (G.2.2.1 + 231))]) hx hb dX12_dropPlace_45 rfl hl (by decide) rfl (fun ls hl => ?_)
        have loop_46 : ∀ (fuel : Nat) (S46 : sS) (i : Int) (H : Heap) (locs : List Loc) (ls : Array Slot), (S.1 231 58 + 2 - i).toNat < fuel → (dX G S46) → (Fr S S46 (pl [231, 262, 266])) → (Fr ((uA S 266 s1 (S.2.1 266 (S.1 231 59)))) S46 (pl [262])) → (FF S S46 (fl [59, 60])) → (FF ((uA S 266 s1 (S.2.1 266 (S.1 231 59)))) S46 (fl [])) → (0 ≤ i ∧ i ≤ S.1 231 58 + 2) → (DKo (S46.2.1 262) (S.1 231 58) (S.1 231 59) 1) → sW G 294 S46 H → sL G locs → lv_has ls 3 [(2, .int (iv i)), (1, .int (iv s1)), (0, .ref (G.2.2.1 + 231))] → W p l e (rmk 4 0 0) s m args below meth c H locs 0 0 (MQ below (sQv G 294 (fun u => dX G u ∧ Fr S u (pl [231, 262, 266]) ∧ FF S u (fl [59, 60]) ∧ (DOK u ∧ u.1 231 59 = S.1 231 59 - 1 ∧ u.1 231 60 = 0 ∧ Hd (∃ s, (0 ≤ s ∧ s ≤ S.1 231 59) ∧ ∀ x, u.2.1 266 x = if x = s then S.2.1 266 (S.1 231 59) else S.2.1 266 x)))) args s 0 0 (sF G)) (F0 m 46 ls []) := by
          intro fuel
          induction fuel with
          | zero => intro S46 i H locs ls hmeas hI46 hFm46 hL46_ hGm46 gL46_ hi hK hW hL hl; exact absurd hmeas (Nat.not_lt_zero _)
          | succ fuel ih_46 =>
            intro S46 i H locs ls hmeas hI46 hFm46 hL46_ hGm46 gL46_ hi hK hW hL hl
            refine lv_iload_n hx hb dX12_dropPlace_46 rfl (lv_at hl 0 rfl) ?_
            refine lv_aload_n hx hb dX12_dropPlace_47 rfl (lv_at hl 2 rfl) ?_
            have q_6 : (-2147483648) ≤ S.1 231 58 ∧ S.1 231 58 ≤ 2147483647 := hI.fi 58
            refine g_X12_483 Cx hW (k := 231) (by decide) rfl (v := S.1 231 58) ((gL46_ 58 rfl).trans (uA_f)) dX12_dropPlace_48 ?_
            refine lv_iconst (v := iv 1) hx hb dX12_dropPlace_51 (by decide) ?_
            refine r_iadd hx hb dX12_dropPlace_52 ?_
            refine r_icmp_gt (tgt := 88) hx hb ⟨(by omega), (by omega)⟩ ⟨(by omega), (by omega)⟩ dX12_dropPlace_53 (by decide) (fun c_7 => ?_) (fun c_7 => ?_)
            · refine lv_aload_n hx hb dX12_dropPlace_88 rfl (lv_at hl 2 rfl) ?_
              refine lv_dup hx hb dX12_dropPlace_89 rfl ?_
              refine g_X12_526 Cx hW (k := 231) (by decide) rfl (v := S.1 231 59) ((gL46_ 59 rfl).trans (uA_f)) dX12_dropPlace_90 ?_
              refine lv_iconst (v := iv 1) hx hb dX12_dropPlace_93 (by decide) ?_
              refine r_isub hx hb dX12_dropPlace_94 ?_
              refine p_X12_526 Cx hW hL (k := 231) (by decide) rfl dX12_dropPlace_95 (fun H locs hW hL => ?_)
              have F_8 : Fr S (uF S46 231 59 ((S.1 231 59) - 1)) (pl [231, 262, 266]) := hFm46.F rfl
              have g_9 : FF S (uF S46 231 59 ((S.1 231 59) - 1)) (fl [59, 60]) := FF.F hGm46 rfl
              have i_10 : dX G (uF S46 231 59 ((S.1 231 59) - 1)) := hI46.F (i := 59) (show (-2147483648) ≤ (S.1 231 59) - 1 ∧ (S.1 231 59) - 1 ≤ 2147483647 from ⟨by omega, by omega⟩)
              refine lv_aload_n hx hb dX12_dropPlace_98 rfl (lv_at hl 2 rfl) ?_
              refine lv_iconst (v := iv 0) hx hb dX12_dropPlace_99 (by decide) ?_
              refine p_X12_535 Cx hW hL (k := 231) (by decide) rfl (by omega) dX12_dropPlace_100 (fun H locs hW hL => ?_)
              have F_11 : Fr S (uF (uF S46 231 59 ((S.1 231 59) - 1)) 231 60 0) (pl [231, 262, 266]) := F_8.F rfl
              have g_12 : FF S (uF (uF S46 231 59 ((S.1 231 59) - 1)) 231 60 0) (fl [59, 60]) := FF.F g_9 rfl
              have i_13 : dX G (uF (uF S46 231 59 ((S.1 231 59) - 1)) 231 60 0) := i_10.F (i := 60) (show 0 ≤ 0 ∧ 0 ≤ 1 from ⟨by omega, by omega⟩)
              have lk_14 : (uF (uF S46 231 59 ((S.1 231 59) - 1)) 231 60 0).1 231 59 = (S.1 231 59) - 1 := (uF_ne (fun h => absurd h.2 (by decide))).trans (uF_on)
              have lk_15 : (uF (uF S46 231 59 ((S.1 231 59) - 1)) 231 60 0).1 231 60 = 0 := uF_on
              exact sVret Cx hr hlk hW hL ⟨i_13, F_11, g_12, ⟨⟨by have e8 : (uF (uF S46 231 59 ((S.1 231 59) - 1)) 231 60 0).1 231 58 = S.1 231 58 := (uF_ne (fun h => absurd h.2 (by decide))).trans ((uF_ne (fun h => absurd h.2 (by decide))).trans ((gL46_ 58 rfl).trans (uA_f))); have e9 : (uF (uF S46 231 59 ((S.1 231 59) - 1)) 231 60 0).1 231 59 = S.1 231 59 - 1 := (uF_ne (fun h => absurd h.2 (by decide))).trans (uF_on); rw [e8, e9]; omega, by have e8 : (uF (uF S46 231 59 ((S.1 231 59) - 1)) 231 60 0).1 231 58 = S.1 231 58 := (uF_ne (fun h => absurd h.2 (by decide))).trans ((uF_ne (fun h => absurd h.2 (by decide))).trans ((gL46_ 58 rfl).trans (uA_f))); have e9 : (uF (uF S46 231 59 ((S.1 231 59) - 1)) 231 60 0).1 231 59 = S.1 231 59 - 1 := (uF_ne (fun h => absurd h.2 (by decide))).trans (uF_on); rw [e8, e9]; exact fun a b a0 a1 a2 b0 b1 => hK a b a0 a1 (fun _ => rfl) b0 (by omega), by rw [show (uF (uF S46 231 59 ((S.1 231 59) - 1)) 231 60 0).2.1 264 = S.2.1 264 from (funext fun j => (uF_a).trans ((uF_a).trans (((hL46_ 264 rfl).2.1 j).trans (uA_ne (fun h => absurd h.1 (by decide))))) : (uF (uF S46 231 59 ((S.1 231 59) - 1)) 231 60 0).2.1 264 = S.2.1 264)]; exact hD.2.2.1, by rw [show (uF (uF S46 231 59 ((S.1 231 59) - 1)) 231 60 0).2.1 264 = S.2.1 264 from (funext fun j => (uF_a).trans ((uF_a).trans (((hL46_ 264 rfl).2.1 j).trans (uA_ne (fun h => absurd h.1 (by decide))))) : (uF (uF S46 231 59 ((S.1 231 59) - 1)) 231 60 0).2.1 264 = S.2.1 264)]; exact hD.2.2.2⟩, (uF_ne (fun h => absurd h.2 (by decide))).trans (uF_on), uF_on, ⟨s1, by omega, fun x => by rw [show (uF (uF S46 231 59 ((S.1 231 59) - 1)) 231 60 0).2.1 266 x = (uA S 266 s1 (S.2.1 266 (S.1 231 59))).2.1 266 x from (uF_a).trans ((uF_a).trans ((hL46_ 266 rfl).2.1 x)), uA_get]; by_cases z : x = s1; (rw [if_pos ⟨rfl, z⟩, if_pos z]); rw [if_neg (fun h => z h.2), if_neg z]⟩⟩⟩ dX12_dropPlace_103
            · refine lv_aload_n hx hb dX12_dropPlace_56 rfl (lv_at hl 2 rfl) ?_
              refine g_X12_103 Cx hW (k := 231) (by decide) rfl (v := .ref (G.2.2.1 + 262)) (rd_53 hI46) dX12_dropPlace_57 ?_
              refine lv_aload_n hx hb dX12_dropPlace_60 rfl (lv_at hl 2 rfl) ?_
              refine lv_iload_n hx hb dX12_dropPlace_61 rfl (lv_at hl 0 rfl) ?_
              refine lv_aload_n hx hb dX12_dropPlace_62 rfl (lv_at hl 2 rfl) ?_
              refine g_X12_526 Cx hW (k := 231) (by decide) rfl (v := S.1 231 59) ((gL46_ 59 rfl).trans (uA_f)) dX12_dropPlace_63 ?_
              refine sBi (sV (As := [.int (iv i), .int (iv (S.1 231 59))]) (rest := [.ref (G.2.2.1 + 262)]) (k := 231) Cx (s_X12_cell l G S46 (i := i) (j := S.1 231 59) (by omega) (by omega)) (c_X12_529 Cx rfl rfl (rmk_ok (by omega) (by decide))) hW (by decide) rfl rfl rfl hl.1 rfl (Nat.le_of_ble_eq_true rfl) dX12_dropPlace_66 ⟨Nat.le_of_ble_eq_true rfl, Nat.le_of_ble_eq_true rfl⟩) hL (fun p1 u_16 H locs k_17 hW hL => ?_)
              obtain ⟨eu_16, xu_16⟩ := k_17
              rw [eu_16] at hW
              refine lv_aload_n hx hb dX12_dropPlace_69 rfl (lv_at hl 2 rfl) ?_
              refine g_X12_103 Cx hW (k := 231) (by decide) rfl (v := .ref (G.2.2.1 + 262)) (rd_53 hI46) dX12_dropPlace_70 ?_
              refine lv_aload_n hx hb dX12_dropPlace_73 rfl (lv_at hl 2 rfl) ?_
              refine lv_iload_n hx hb dX12_dropPlace_74 rfl (lv_at hl 0 rfl) ?_
              refine lv_iload_n hx hb dX12_dropPlace_75 rfl (lv_at hl 1 rfl) ?_
              refine sBi (sV (As := [.int (iv i), .int (iv s1)]) (rest := [.ref (G.2.2.1 + 262), .int (iv p1), .ref (G.2.2.1 + 262)]) (k := 231) Cx (s_X12_cell l G S46 (i := i) (j := s1) (by omega) (by omega)) (c_X12_529 Cx rfl rfl (rmk_ok (by omega) (by decide))) hW (by decide) rfl rfl rfl hl.1 rfl (Nat.le_of_ble_eq_true rfl) dX12_dropPlace_76 ⟨Nat.le_of_ble_eq_true rfl, Nat.le_of_ble_eq_true rfl⟩) hL (fun p2 u_18 H locs k_19 hW hL => ?_)
              obtain ⟨eu_18, xu_18⟩ := k_19
              rw [eu_18] at hW
              refine sBv (sSt (As := [.ref (G.2.2.1 + 262), .int (iv p1), .ref (G.2.2.1 + 262), .int (iv p2)]) (rest := []) Cx (s_X12_copy_s l G S46 (ka := 262) (po := p1) (qo := p2) (Nka := 5280) (La := 6) hI46 ⟨rfl, by decide, by decide, by decide, rfl⟩ (by omega) (by rw [show p1 = cl i (S.1 231 59) by unfold cl; omega]; exact hK i _ (by omega) (by omega) (fun _ => rfl) (by omega) (by omega)) (by omega)) (c_X12_233 Cx rfl rfl (rmk_ok (by omega) (by decide))) hW rfl hl.1 rfl (Nat.le_of_ble_eq_true rfl) dX12_dropPlace_79 ⟨Nat.le_of_ble_eq_true rfl, Nat.le_of_ble_eq_true rfl⟩) hL (fun u_20 H locs k_21 hW hL => ?_)
              obtain ⟨iu_20, fu_20, xu_20⟩ := k_21
              have F_22 := hFm46.trans (fu_20.to (p1_sub rfl))
              have F_23 := hL46_.trans (fu_20.to (p1_sub rfl))
              have g_24 : FF S u_20 (fl [59, 60]) := FF.fr hGm46 fu_20 rfl
              have g_25 : FF ((uA S 266 s1 (S.2.1 266 (S.1 231 59)))) u_20 (fl []) := FF.fr gL46_ fu_20 rfl
              refine lv_iinc (v := iv (i + 1)) (lv' := [(2, .int (iv (i + 1))), (1, .int (iv s1)), (0, .ref (G.2.2.1 + 231))]) hx hb dX12_dropPlace_82 hl (k := 0) rfl ((Int32.ofInt_add _ _).symm) (by decide) rfl (fun ls hl => ?_)
              refine lv_goto (tgt := 46) hx hb dX12_dropPlace_85 (by decide) ?_
              exact ih_46 u_20 (i + 1) _ _ _ (by omega) iu_20 F_22 F_23 g_24 g_25 (by omega) (fun a b a0 a1 a2 b0 b1 => if e : a = i ∧ b = s1 then (by rw [e.1, e.2, show cl i s1 = p2 by unfold cl; omega]; exact xu_20.1.1) else ((hK a b a0 a1 a2 b0 b1).same (fun x x0 x1 => xu_20.2 x (by have e2 := cl_far (i := i) (j := s1) (a := a) (b := b) (x := x) (by omega) (by omega) (by omega) ⟨x0, x1⟩; unfold cl at e2; omega))).1) hW hL (lv_sub hl [0, 1, 2] rfl)
        exact loop_46 (_ + 1) (uA S 266 s1 (S.2.1 266 (S.1 231 59))) 0 _ _ _ (Nat.lt_succ_self _) i_5 F_4 Fr.rf FF.rf FF.rf (by omega) (fun a b a0 a1 a2 b0 b1 => hD.2.1 a b a0 a1 (fun _ => hw1.1) b0 b1) hW hL (lv_sub hl [0, 1, 2] rfl)
      · have join_23 : ∀ (s2 : Int) (H : Heap) (locs : List Loc) (ls : Array Slot), (0 ≤ s2 ∧ s2 ≤ S.1 231 59) → sW G 294 S H → sL G locs → lv_has ls 3 [(2, .int (iv j)), (1, .int (iv s2)), (0, .ref (G.2.2.1 + 231))] → W p l e (rmk 4 0 0) s m args below meth c H locs 0 0 (MQ below (sQv G 294 (fun u => dX G u ∧ Fr S u (pl [231, 262, 266]) ∧ FF S u (fl [59, 60]) ∧ (DOK u ∧ u.1 231 59 = S.1 231 59 - 1 ∧ u.1 231 60 = 0 ∧ Hd (∃ s, (0 ≤ s ∧ s ≤ S.1 231 59) ∧ ∀ x, u.2.1 266 x = if x = s then S.2.1 266 (S.1 231 59) else S.2.1 266 x)))) args s 0 0 (sF G)) (F0 m 23 ls []) := by
          intro s2 H locs ls hs2 hW hL hl
          refine lv_iinc (v := iv (j + 1)) (lv' := [(2, .int (iv (j + 1))), (1, .int (iv s2)), (0, .ref (G.2.2.1 + 231))]) hx hb dX12_dropPlace_23 hl (k := 0) rfl ((Int32.ofInt_add _ _).symm) (by decide) rfl (fun ls hl => ?_)
          refine lv_goto (tgt := 4) hx hb dX12_dropPlace_26 (by decide) ?_
          exact ih_4 (j + 1) s2 _ _ _ (by omega) (by omega) (by omega) hW hL (lv_sub hl [0, 1, 2] rfl)
        refine lv_aload_n hx hb dX12_dropPlace_12 rfl (lv_at hl 2 rfl) ?_
        refine g_X12_115 Cx hW (k := 231) (by decide) rfl (v := .ref (G.2.2.1 + 266)) (rd_57 hI) dX12_dropPlace_13 ?_
        refine lv_iload_n hx hb dX12_dropPlace_16 rfl (lv_at hl 0 rfl) ?_
        refine rIald Cx hW (k := 266) (by decide) rfl (by decide) (by omega) (by omega) dX12_dropPlace_17 ?_
        have q_26 : (-2147483648) ≤ S.2.1 266 j ∧ S.2.1 266 j ≤ 2147483647 := hI.ai 266 j
        refine r_i (b := S.2.1 266 j) rfl ?_
        refine r_if_ne (tgt := 23) hx hb ⟨(by omega), (by omega)⟩ dX12_dropPlace_18 (by decide) (fun c_27 => ?_) (fun c_27 => ?_)
        · exact join_23 s1 _ _ _ (by omega) hW hL (lv_sub hl [0, 1, 2] rfl)
        · refine lv_iload_n hx hb dX12_dropPlace_21 rfl (lv_at hl 0 rfl) ?_
          refine lv_istore_n (lv' := [(1, .int (iv j)), (2, .int (iv j)), (0, .ref (G.2.2.1 + 231))]) hx hb dX12_dropPlace_22 rfl hl (by decide) rfl (fun ls hl => ?_)
          exact join_23 j _ _ _ (by omega) hW hL (lv_sub hl [1, 0, 2] rfl)
  exact loop_4 (_ + 1) 1 0 _ _ _ (Nat.lt_succ_self _) (by omega) (by omega) hW hL (lv_sub hl [0, 1, 2] rfl)

set_option maxRecDepth 100000 in
set_option maxHeartbeats 4000000 in
theorem s_X12_takeBest (l : Launch) (G : sG) (S : sS)  (hI : dX G S) (hD : DOK S) (hM : MD S) : Met l yX12_takeBest (.code yX12_takeBest cX12_takeBest 2 none :: tb) (rmk 4 0 0) (sPc G 294 S [.ref (G.2.2.1 + 231)]) (sQv G 294 (fun u => dX G u ∧ Fr S u (pl [231, 272, 273, 274]) ∧ FF S u (fl [66, 79]) ∧ (BS u ∧ u.1 231 79 = 1))) 0 0 (sF G) := by
  refine sEnter (by decide) (Nat.le_of_ble_eq_true rfl) ?_
  intro p e s m args below meth c Cx hr hlk hnm hW ls hl
  have Cx : sC G p m c cX12_takeBest 2 s args RX12 := Cx
  obtain ⟨hx, hb, hml, hown, hts⟩ := id Cx.1
  have hL : sL G [] := sL_nil
  have hl : lv_has ls 2 [(0, .ref (G.2.2.1 + 231))] := hl
  have hW0 := hW
  have hd1 := hD.1
  have hm1 : (0 ≤ S.1 231 46 ∧ S.1 231 46 ≤ 12) ∧ (0 ≤ S.1 231 47 ∧ S.1 231 47 ≤ 16) ∧ 0 ≤ S.1 231 63 ∧ S.1 231 63 ≤ 40 := hM
  refine lv_aload_n hx hb dX12_takeBest_0 rfl (lv_at hl 0 rfl) ?_
  refine lv_iconst (v := iv 1) hx hb dX12_takeBest_1 (by decide) ?_
  refine p_X12_514 Cx hW hL (k := 231) (by decide) rfl (by omega) dX12_takeBest_2 (fun H locs hW hL => ?_)
  have F_1 : Fr S (uF S 231 79 1) (pl [231, 272, 273, 274]) := (Fr.rf : Fr S S (pl [231, 272, 273, 274])).F rfl
  have g_2 : FF S (uF S 231 79 1) (fl [66, 79]) := FF.F FF.rf rfl
  have i_3 : dX G (uF S 231 79 1) := hI.F (i := 79) (show 0 ≤ 1 ∧ 1 ≤ 1 from ⟨by omega, by omega⟩)
  refine lv_aload_n hx hb dX12_takeBest_5 rfl (lv_at hl 0 rfl) ?_
  refine lv_dup hx hb dX12_takeBest_6 rfl ?_
  have q_4 : (-2147483648) ≤ S.1 231 66 ∧ S.1 231 66 ≤ 2147483647 := hI.fi 66
  refine g_X12_502 Cx hW (k := 231) (by decide) rfl (v := S.1 231 66) (uF_ne (fun h => absurd h.2 (by decide))) dX12_takeBest_7 ?_
  refine lv_iconst (v := iv 1) hx hb dX12_takeBest_10 (by decide) ?_
  refine r_iadd hx hb dX12_takeBest_11 ?_
  obtain ⟨z_5, ez_5, hz_5, kz_5⟩ := iv_of (iv ((S.1 231 66) + 1))
  rw [ez_5]
  refine p_X12_502 Cx hW hL (k := 231) (by decide) rfl dX12_takeBest_12 (fun H locs hW hL => ?_)
  have F_6 : Fr S (uF (uF S 231 79 1) 231 66 z_5) (pl [231, 272, 273, 274]) := F_1.F rfl
  have g_7 : FF S (uF (uF S 231 79 1) 231 66 z_5) (fl [66, 79]) := FF.F g_2 rfl
  have i_8 : dX G (uF (uF S 231 79 1) 231 66 z_5) := i_3.F (i := 66) (show (-2147483648) ≤ z_5 ∧ z_5 ≤ 2147483647 from ⟨by omega, by omega⟩)
  refine lv_aload_n hx hb dX12_takeBest_15 rfl (lv_at hl 0 rfl) ?_
  refine g_X12_103 Cx hW (k := 231) (by decide) rfl (v := .ref (G.2.2.1 + 262)) (rd_53 i_8) dX12_takeBest_16 ?_
  refine lv_iconst (v := iv 0) hx hb dX12_takeBest_19 (by decide) ?_
  refine lv_aload_n hx hb dX12_takeBest_20 rfl (lv_at hl 0 rfl) ?_
  refine g_X12_134 Cx hW (k := 231) (by decide) rfl (v := .ref (G.2.2.1 + 272)) (rd_80 i_8) dX12_takeBest_21 ?_
  refine lv_iconst (v := iv 0) hx hb dX12_takeBest_24 (by decide) ?_
  refine sBv (sSt (As := [.ref (G.2.2.1 + 262), .int (iv 0), .ref (G.2.2.1 + 272), .int (iv 0)]) (rest := []) Cx (s_X12_copy l G (uF (uF S 231 79 1) 231 66 z_5) (ka := 262) (po := 0) (kb := 272) (qo := 0) (Nka := 5280) (Nkb := 8) (La := 6) i_8 ⟨rfl, by decide, by decide, by decide, rfl⟩ ⟨rfl, by decide, by decide, by decide, rfl⟩ (show (272 : Nat) ≠ 262 by decide) (by omega) (by rw [show (uF (uF S 231 79 1) 231 66 z_5).2.1 262 = S.2.1 262 from (funext fun j => (uF_a).trans (uF_a) : (uF (uF S 231 79 1) 231 66 z_5).2.1 262 = S.2.1 262)]; exact hD.at (i := 0) (j := 0) (by omega) (by omega) (by omega) rfl)) (c_X12_233 Cx rfl rfl (rmk_ok (by omega) (by decide))) hW rfl hl.1 rfl (Nat.le_of_ble_eq_true rfl) dX12_takeBest_25 ⟨Nat.le_of_ble_eq_true rfl, Nat.le_of_ble_eq_true rfl⟩) hL (fun u_9 H locs k_10 hW hL => ?_)
  obtain ⟨iu_9, fu_9, xu_9⟩ := k_10
  have F_11 := F_6.trans (fu_9.to (p1_sub rfl))
  have g_12 : FF S u_9 (fl [66, 79]) := FF.fr g_7 fu_9 rfl
  refine lv_aload_n hx hb dX12_takeBest_28 rfl (lv_at hl 0 rfl) ?_
  refine g_X12_109 Cx hW (k := 231) (by decide) rfl (v := .ref (G.2.2.1 + 264)) (rd_55 iu_9) dX12_takeBest_29 ?_
  refine lv_iconst (v := iv 0) hx hb dX12_takeBest_32 (by decide) ?_
  refine lv_aload_n hx hb dX12_takeBest_33 rfl (lv_at hl 0 rfl) ?_
  refine g_X12_137 Cx hW (k := 231) (by decide) rfl (v := .ref (G.2.2.1 + 273)) (rd_81 iu_9) dX12_takeBest_34 ?_
  refine lv_iconst (v := iv 0) hx hb dX12_takeBest_37 (by decide) ?_
  refine sBv (sSt (As := [.ref (G.2.2.1 + 264), .int (iv 0), .ref (G.2.2.1 + 273), .int (iv 0)]) (rest := []) Cx (s_X12_copy l G u_9 (ka := 264) (po := 0) (kb := 273) (qo := 0) (Nka := 8) (Nkb := 8) (La := 6) iu_9 ⟨rfl, by decide, by decide, by decide, rfl⟩ ⟨rfl, by decide, by decide, by decide, rfl⟩ (show (273 : Nat) ≠ 264 by decide) (by omega) (by rw [show u_9.2.1 264 = S.2.1 264 from (funext fun j => ((fu_9 264 rfl).2.1 j).trans ((uF_a).trans (uF_a)) : u_9.2.1 264 = S.2.1 264)]; exact hD.2.2.1)) (c_X12_233 Cx rfl rfl (rmk_ok (by omega) (by decide))) hW rfl hl.1 rfl (Nat.le_of_ble_eq_true rfl) dX12_takeBest_38 ⟨Nat.le_of_ble_eq_true rfl, Nat.le_of_ble_eq_true rfl⟩) hL (fun u_13 H locs k_14 hW hL => ?_)
  obtain ⟨iu_13, fu_13, xu_13⟩ := k_14
  have F_15 := F_11.trans (fu_13.to (p1_sub rfl))
  have g_16 : FF S u_13 (fl [66, 79]) := FF.fr g_12 fu_13 rfl
  refine lv_iconst (v := iv 1) hx hb dX12_takeBest_41 (by decide) ?_
  refine lv_istore_n (lv' := [(1, .int (iv 1)), (0, .ref (G.2.2.1 + 231))]) hx hb dX12_takeBest_42 rfl hl (by decide) rfl (fun ls hl => ?_)
  have loop_43 : ∀ (fuel : Nat) (S43 : sS) (j : Int) (H : Heap) (locs : List Loc) (ls : Array Slot), (13 - j).toNat < fuel → (dX G S43) → (Fr S S43 (pl [231, 272, 273, 274])) → (Fr u_13 S43 (pl [274])) → (FF S S43 (fl [66, 79])) → (FF u_13 S43 (fl [])) → (1 ≤ j ∧ j ≤ 13) → (∀ t, 1 ≤ t → t < j → S43.2.1 274 (8 * t) = 0) → sW G 294 S43 H → sL G locs → lv_has ls 2 [(1, .int (iv j)), (0, .ref (G.2.2.1 + 231))] → W p l e (rmk 4 0 0) s m args below meth c H locs 0 0 (MQ below (sQv G 294 (fun u => dX G u ∧ Fr S u (pl [231, 272, 273, 274]) ∧ FF S u (fl [66, 79]) ∧ (BS u ∧ u.1 231 79 = 1))) args s 0 0 (sF G)) (F0 m 43 ls []) := by
    intro fuel
    induction fuel with
    | zero => intro S43 j H locs ls hmeas hI43 hFm43 hL43_ hGm43 gL43_ hj hz43 hW hL hl; exact absurd hmeas (Nat.not_lt_zero _)
    | succ fuel ih_43 =>
      intro S43 j H locs ls hmeas hI43 hFm43 hL43_ hGm43 gL43_ hj hz43 hW hL hl
      refine lv_iload_n hx hb dX12_takeBest_43 rfl (lv_at hl 0 rfl) ?_
      refine lv_aload_n hx hb dX12_takeBest_44 rfl (lv_at hl 1 rfl) ?_
      have q_17 : (-2147483648) ≤ S.1 231 46 ∧ S.1 231 46 ≤ 2147483647 := hI.fi 46
      refine g_X12_465 Cx hW (k := 231) (by decide) rfl (v := S.1 231 46) ((gL43_ 46 rfl).trans (((fu_13 231 rfl).1 46).trans (((fu_9 231 rfl).1 46).trans ((uF_ne (fun h => absurd h.2 (by decide))).trans (uF_ne (fun h => absurd h.2 (by decide))))))) dX12_takeBest_45 ?_
      refine r_icmp_gt (tgt := 67) hx hb ⟨(by omega), (by omega)⟩ ⟨(by omega), (by omega)⟩ dX12_takeBest_48 (by decide) (fun c_18 => ?_) (fun c_18 => ?_)
      · refine lv_iconst (v := iv 1) hx hb dX12_takeBest_67 (by decide) ?_
        refine lv_istore_n (lv' := [(1, .int (iv 1)), (0, .ref (G.2.2.1 + 231))]) hx hb dX12_takeBest_68 rfl hl (by decide) rfl (fun ls hl => ?_)
        have loop_69 : ∀ (fuel : Nat) (S69 : sS) (i : Int) (H : Heap) (locs : List Loc) (ls : Array Slot), (S.1 231 58 + 1 - i).toNat < fuel → (dX G S69) → (Fr S S69 (pl [231, 272, 273, 274])) → (Fr S43 S69 (pl [274])) → (FF S S69 (fl [66, 79])) → (FF S43 S69 (fl [])) → (1 ≤ i ∧ i ≤ S.1 231 58 + 1) → (∀ j, 1 ≤ j → j ≤ S.1 231 46 → NO (S69.2.1 274) (8 * j) 6) → sW G 294 S69 H → sL G locs → lv_has ls 2 [(1, .int (iv i)), (0, .ref (G.2.2.1 + 231))] → W p l e (rmk 4 0 0) s m args below meth c H locs 0 0 (MQ below (sQv G 294 (fun u => dX G u ∧ Fr S u (pl [231, 272, 273, 274]) ∧ FF S u (fl [66, 79]) ∧ (BS u ∧ u.1 231 79 = 1))) args s 0 0 (sF G)) (F0 m 69 ls []) := by
          intro fuel
          induction fuel with
          | zero => intro S69 i H locs ls hmeas hI69 hFm69 hL69_ hGm69 gL69_ hi hz69 hW hL hl; exact absurd hmeas (Nat.not_lt_zero _)
          | succ fuel ih_69 =>
            intro S69 i H locs ls hmeas hI69 hFm69 hL69_ hGm69 gL69_ hi hz69 hW hL hl
            refine lv_iload_n hx hb dX12_takeBest_69 rfl (lv_at hl 0 rfl) ?_
            refine lv_aload_n hx hb dX12_takeBest_70 rfl (lv_at hl 1 rfl) ?_
            have q_19 : (-2147483648) ≤ S.1 231 58 ∧ S.1 231 58 ≤ 2147483647 := hI.fi 58
            refine g_X12_483 Cx hW (k := 231) (by decide) rfl (v := S.1 231 58) ((gL69_ 58 rfl).trans ((gL43_ 58 rfl).trans (((fu_13 231 rfl).1 58).trans (((fu_9 231 rfl).1 58).trans ((uF_ne (fun h => absurd h.2 (by decide))).trans (uF_ne (fun h => absurd h.2 (by decide)))))))) dX12_takeBest_71 ?_
            refine r_icmp_gt (tgt := 134) hx hb ⟨(by omega), (by omega)⟩ ⟨(by omega), (by omega)⟩ dX12_takeBest_74 (by decide) (fun c_20 => ?_) (fun c_20 => ?_)
            · have lk_21 : S69.1 231 79 = 1 := (gL69_ 79 rfl).trans ((gL43_ 79 rfl).trans (((fu_13 231 rfl).1 79).trans (((fu_9 231 rfl).1 79).trans ((uF_ne (fun h => absurd h.2 (by decide))).trans (uF_on)))))
              exact sVret Cx hr hlk hW hL ⟨hI69, hFm69, hGm69, ⟨⟨(by rw [show S69.2.1 272 = u_9.2.1 272 from (funext fun j => ((hL69_ 272 rfl).2.1 j).trans (((hL43_ 272 rfl).2.1 j).trans ((fu_13 272 rfl).2.1 j)) : S69.2.1 272 = u_9.2.1 272)]; exact xu_9.1.1), (by rw [show S69.2.1 273 = u_13.2.1 273 from (funext fun j => ((hL69_ 273 rfl).2.1 j).trans ((hL43_ 273 rfl).2.1 j) : S69.2.1 273 = u_13.2.1 273)]; exact xu_13.1.1), (by rw [show S69.2.1 273 = u_13.2.1 273 from (funext fun j => ((hL69_ 273 rfl).2.1 j).trans ((hL43_ 273 rfl).2.1 j) : S69.2.1 273 = u_13.2.1 273), xu_13.1.2.1, show u_9.2.1 264 = S.2.1 264 from (funext fun j => ((fu_9 264 rfl).2.1 j).trans ((uF_a).trans (uF_a)) : u_9.2.1 264 = S.2.1 264)]; exact hD.2.2.2), (by have e6 : S69.1 231 46 = S.1 231 46 := (gL69_ 46 rfl).trans ((gL43_ 46 rfl).trans (((fu_13 231 rfl).1 46).trans (((fu_9 231 rfl).1 46).trans ((uF_ne (fun h => absurd h.2 (by decide))).trans (uF_ne (fun h => absurd h.2 (by decide))))))); rw [e6]; exact fun j a b => hz69 j a (by omega))⟩, (gL69_ 79 rfl).trans ((gL43_ 79 rfl).trans (((fu_13 231 rfl).1 79).trans (((fu_9 231 rfl).1 79).trans ((uF_ne (fun h => absurd h.2 (by decide))).trans (uF_on)))))⟩⟩ dX12_takeBest_134
            · have join_128 : ∀ (S128 : sS)  (H : Heap) (locs : List Loc) (ls : Array Slot), (dX G S128) → (Fr S S128 (pl [231, 272, 273, 274])) → (Fr S43 S128 (pl [274])) → (Fr S69 S128 (pl [274])) → (FF S S128 (fl [66, 79])) → (FF S43 S128 (fl [])) → (FF S69 S128 (fl [])) → (∀ j, 1 ≤ j → j ≤ S.1 231 46 → NO (S128.2.1 274) (8 * j) 6) → sW G 294 S128 H → sL G locs → lv_has ls 2 [(1, .int (iv i)), (0, .ref (G.2.2.1 + 231))] → W p l e (rmk 4 0 0) s m args below meth c H locs 0 0 (MQ below (sQv G 294 (fun u => dX G u ∧ Fr S u (pl [231, 272, 273, 274]) ∧ FF S u (fl [66, 79]) ∧ (BS u ∧ u.1 231 79 = 1))) args s 0 0 (sF G)) (F0 m 128 ls []) := by
                intro S128  H locs ls hI128 hFm128 hFL69128 hL128_ hGm128 hGL69128 gL128_ hz128 hW hL hl
                refine lv_iinc (v := iv (i + 1)) (lv' := [(1, .int (iv (i + 1))), (0, .ref (G.2.2.1 + 231))]) hx hb dX12_takeBest_128 hl (k := 0) rfl ((Int32.ofInt_add _ _).symm) (by decide) rfl (fun ls hl => ?_)
                refine lv_goto (tgt := 69) hx hb dX12_takeBest_131 (by decide) ?_
                exact ih_69 S128 (i + 1) _ _ _ (by omega) hI128 hFm128 hFL69128 hGm128 hGL69128 (by omega) hz128 hW hL (lv_sub hl [0, 1] rfl)
              refine lv_aload_n hx hb dX12_takeBest_77 rfl (lv_at hl 1 rfl) ?_
              refine g_X12_112 Cx hW (k := 231) (by decide) rfl (v := .ref (G.2.2.1 + 265)) (rd_56 hI69) dX12_takeBest_78 ?_
              refine lv_iload_n hx hb dX12_takeBest_81 rfl (lv_at hl 0 rfl) ?_
              refine rIald Cx hW (k := 265) (by decide) rfl (by decide) (by omega) (by omega) dX12_takeBest_82 ?_
              have q_22 : (-2147483648) ≤ S.2.1 265 i ∧ S.2.1 265 i ≤ 2147483647 := hI.ai 265 i
              refine r_i (b := S.2.1 265 i) (((hL69_ 265 rfl).2.1 i).trans (((hL43_ 265 rfl).2.1 i).trans (((fu_13 265 rfl).2.1 i).trans (((fu_9 265 rfl).2.1 i).trans ((uF_a).trans (uF_a)))))) ?_
              refine lv_iconst (v := iv 1) hx hb dX12_takeBest_83 (by decide) ?_
              refine r_icmp_lt (tgt := 128) hx hb ⟨(by omega), (by omega)⟩ ⟨(by omega), (by omega)⟩ dX12_takeBest_84 (by decide) (fun c_23 => ?_) (fun c_23 => ?_)
              · exact join_128 S69  _ _ _ hI69 hFm69 hL69_ (Fr.rf : Fr S69 S69 (pl [274])) hGm69 gL69_ (FF.rf : FF S69 S69 (fl [])) hz69 hW hL (lv_sub hl [0, 1] rfl)
              · refine lv_aload_n hx hb dX12_takeBest_87 rfl (lv_at hl 1 rfl) ?_
                refine g_X12_112 Cx hW (k := 231) (by decide) rfl (v := .ref (G.2.2.1 + 265)) (rd_56 hI69) dX12_takeBest_88 ?_
                refine lv_iload_n hx hb dX12_takeBest_91 rfl (lv_at hl 0 rfl) ?_
                refine rIald Cx hW (k := 265) (by decide) rfl (by decide) (by omega) (by omega) dX12_takeBest_92 ?_
                refine r_i (b := S.2.1 265 i) (((hL69_ 265 rfl).2.1 i).trans (((hL43_ 265 rfl).2.1 i).trans (((fu_13 265 rfl).2.1 i).trans (((fu_9 265 rfl).2.1 i).trans ((uF_a).trans (uF_a)))))) ?_
                refine lv_aload_n hx hb dX12_takeBest_93 rfl (lv_at hl 1 rfl) ?_
                refine g_X12_465 Cx hW (k := 231) (by decide) rfl (v := S.1 231 46) ((gL69_ 46 rfl).trans ((gL43_ 46 rfl).trans (((fu_13 231 rfl).1 46).trans (((fu_9 231 rfl).1 46).trans ((uF_ne (fun h => absurd h.2 (by decide))).trans (uF_ne (fun h => absurd h.2 (by decide)))))))) dX12_takeBest_94 ?_
                refine r_icmp_gt (tgt := 128) hx hb ⟨(by omega), (by omega)⟩ ⟨(by omega), (by omega)⟩ dX12_takeBest_97 (by decide) (fun c_24 => ?_) (fun c_24 => ?_)
                · exact join_128 S69  _ _ _ hI69 hFm69 hL69_ (Fr.rf : Fr S69 S69 (pl [274])) hGm69 gL69_ (FF.rf : FF S69 S69 (fl [])) hz69 hW hL (lv_sub hl [0, 1] rfl)
                · refine lv_aload_n hx hb dX12_takeBest_100 rfl (lv_at hl 1 rfl) ?_
                  refine g_X12_103 Cx hW (k := 231) (by decide) rfl (v := .ref (G.2.2.1 + 262)) (rd_53 hI69) dX12_takeBest_101 ?_
                  refine lv_aload_n hx hb dX12_takeBest_104 rfl (lv_at hl 1 rfl) ?_
                  refine lv_iload_n hx hb dX12_takeBest_105 rfl (lv_at hl 0 rfl) ?_
                  refine lv_iconst (v := iv 1) hx hb dX12_takeBest_106 (by decide) ?_
                  refine r_iadd hx hb dX12_takeBest_107 ?_
                  refine lv_iconst (v := iv 0) hx hb dX12_takeBest_108 (by decide) ?_
                  refine sBi (sV (As := [.int (iv (i + 1)), .int (iv 0)]) (rest := [.ref (G.2.2.1 + 262)]) (k := 231) Cx (s_X12_cell l G S69 (i := i + 1) (j := 0) (by omega) (by omega)) (c_X12_529 Cx rfl rfl (rmk_ok (by omega) (by decide))) hW (by decide) rfl rfl rfl hl.1 rfl (Nat.le_of_ble_eq_true rfl) dX12_takeBest_109 ⟨Nat.le_of_ble_eq_true rfl, Nat.le_of_ble_eq_true rfl⟩) hL (fun r_27 u_25 H locs k_26 hW hL => ?_)
                  obtain ⟨eu_25, xu_25⟩ := k_26
                  rw [eu_25] at hW
                  refine lv_aload_n hx hb dX12_takeBest_112 rfl (lv_at hl 1 rfl) ?_
                  refine g_X12_140 Cx hW (k := 231) (by decide) rfl (v := .ref (G.2.2.1 + 274)) (rd_82 hI69) dX12_takeBest_113 ?_
                  refine lv_bipush (v := iv 8) hx hb dX12_takeBest_116 (by decide) ?_
                  refine lv_aload_n hx hb dX12_takeBest_118 rfl (lv_at hl 1 rfl) ?_
                  refine g_X12_112 Cx hW (k := 231) (by decide) rfl (v := .ref (G.2.2.1 + 265)) (rd_56 hI69) dX12_takeBest_119 ?_
                  refine lv_iload_n hx hb dX12_takeBest_122 rfl (lv_at hl 0 rfl) ?_
                  refine rIald Cx hW (k := 265) (by decide) rfl (by decide) (by omega) (by omega) dX12_takeBest_123 ?_
                  refine r_i (b := S.2.1 265 i) (((hL69_ 265 rfl).2.1 i).trans (((hL43_ 265 rfl).2.1 i).trans (((fu_13 265 rfl).2.1 i).trans (((fu_9 265 rfl).2.1 i).trans ((uF_a).trans (uF_a)))))) ?_
                  refine r_imul hx hb dX12_takeBest_124 ?_
                  refine sBv (sSt (As := [.ref (G.2.2.1 + 262), .int (iv r_27), .ref (G.2.2.1 + 274), .int (iv (8 * (S.2.1 265 i)))]) (rest := []) Cx (s_X12_copy l G S69 (ka := 262) (po := r_27) (kb := 274) (qo := 8 * (S.2.1 265 i)) (Nka := 5280) (Nkb := 104) (La := 6) hI69 ⟨rfl, by decide, by decide, by decide, rfl⟩ ⟨rfl, by decide, by decide, by decide, rfl⟩ (show (274 : Nat) ≠ 262 by decide) (by omega) (by rw [show S69.2.1 262 = S.2.1 262 from (funext fun j => ((hL69_ 262 rfl).2.1 j).trans (((hL43_ 262 rfl).2.1 j).trans (((fu_13 262 rfl).2.1 j).trans (((fu_9 262 rfl).2.1 j).trans ((uF_a).trans (uF_a))))) : S69.2.1 262 = S.2.1 262)]; exact hD.at (i := i + 1) (j := 0) (by omega) (by omega) (by omega) (by omega))) (c_X12_233 Cx rfl rfl (rmk_ok (by omega) (by decide))) hW rfl hl.1 rfl (Nat.le_of_ble_eq_true rfl) dX12_takeBest_125 ⟨Nat.le_of_ble_eq_true rfl, Nat.le_of_ble_eq_true rfl⟩) hL (fun u_28 H locs k_29 hW hL => ?_)
                  obtain ⟨iu_28, fu_28, xu_28⟩ := k_29
                  have F_30 := hFm69.trans (fu_28.to (p1_sub rfl))
                  have F_31 := hL69_.trans (fu_28.to (p1_sub rfl))
                  have F_32 := (Fr.rf : Fr S69 S69 (pl [274])).trans (fu_28.to (p1_sub rfl))
                  have g_33 : FF S u_28 (fl [66, 79]) := FF.fr hGm69 fu_28 rfl
                  have g_34 : FF S43 u_28 (fl []) := FF.fr gL69_ fu_28 rfl
                  have g_35 : FF S69 u_28 (fl []) := FF.fr (FF.rf : FF S69 S69 (fl [])) fu_28 rfl
                  exact join_128 u_28  _ _ _ iu_28 F_30 F_31 F_32 g_33 g_34 g_35 (fun k a b => if e : k = S.2.1 265 i then (by rw [e]; exact xu_28.1.1) else ((hz69 k a b).same (fun x x0 x1 => xu_28.2 x (c8_far e ⟨x0, x1⟩))).1) hW hL (lv_sub hl [0, 1] rfl)
        exact loop_69 (_ + 1) S43 1 _ _ _ (Nat.lt_succ_self _) hI43 hFm43 Fr.rf hGm43 FF.rf (by omega) (fun t a b => NO_z (hz43 t a (by omega)) (by omega)) hW hL (lv_sub hl [0, 1] rfl)
      · refine lv_aload_n hx hb dX12_takeBest_51 rfl (lv_at hl 1 rfl) ?_
        refine g_X12_140 Cx hW (k := 231) (by decide) rfl (v := .ref (G.2.2.1 + 274)) (rd_82 hI43) dX12_takeBest_52 ?_
        refine lv_bipush (v := iv 8) hx hb dX12_takeBest_55 (by decide) ?_
        refine lv_iload_n hx hb dX12_takeBest_57 rfl (lv_at hl 0 rfl) ?_
        refine r_imul hx hb dX12_takeBest_58 ?_
        refine lv_iconst (v := iv 0) hx hb dX12_takeBest_59 (by decide) ?_
        refine rIast Cx hW hL (k := 274) (by decide) rfl (by decide) (by omega) (by omega) dX12_takeBest_60 (fun H locs hW hL => ?_)
        have F_36 : Fr S (uA S43 274 (8 * j) 0) (pl [231, 272, 273, 274]) := hFm43.A rfl
        have F_37 : Fr u_13 (uA S43 274 (8 * j) 0) (pl [274]) := hL43_.A rfl
        have i_38 : dX G (uA S43 274 (8 * j) 0) := hI43.A (k := 274) (show (-2147483648) ≤ 0 ∧ 0 ≤ 2147483647 from ⟨by omega, by omega⟩)
        refine lv_iinc (v := iv (j + 1)) (lv' := [(1, .int (iv (j + 1))), (0, .ref (G.2.2.1 + 231))]) hx hb dX12_takeBest_61 hl (k := 0) rfl ((Int32.ofInt_add _ _).symm) (by decide) rfl (fun ls hl => ?_)
        refine lv_goto (tgt := 43) hx hb dX12_takeBest_64 (by decide) ?_
        exact ih_43 (uA S43 274 (8 * j) 0) (j + 1) _ _ _ (by omega) i_38 F_36 F_37 hGm43 gL43_ (by omega) (fun t a b => by rw [uA_get]; split; rfl; rename_i q; exact hz43 t a (by omega)) hW hL (lv_sub hl [0, 1] rfl)
  exact loop_43 (_ + 1) u_13 1 _ _ _ (Nat.lt_succ_self _) iu_13 F_15 Fr.rf g_16 FF.rf (by omega) (fun t a b => absurd b (by omega)) hW hL (lv_sub hl [0, 1] rfl)
