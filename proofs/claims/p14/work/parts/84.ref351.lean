/-! The checker: rows that are held, sums -/
def dHf (f : Int → Int) : Prop := ∀ k j, 1 ≤ k → k ≤ 40 → 0 ≤ j → j ≤ 12 → NO f (10 * (13 * k + j)) 8
def dHA (S : sS) : Prop := dHf (S.2.1 283)
def dSM (S : sS) : Prop := ∀ j, 0 ≤ j → j ≤ S.1 231 46 → NO (S.2.1 284) (40 * j) 16
def dDV (S : sS) : Prop := NO (S.2.1 288) 0 7 ∧ 0 < nv (S.2.1 288) 0
theorem dHf.put {f f' : Int → Int} {a b P : Int} (h : dHf f) (hP : P = 10 * (13 * a + b)) (ha : 1 ≤ a ∧ a ≤ 40) (hb : 0 ≤ b ∧ b ≤ 12) (n : NO f' P 8) (o : ∀ x, x < P ∨ P + 8 < x → f' x = f x) : dHf f' := fun k j k0 k1 j0 j1 => by
  by_cases q : 13 * k + j = 13 * a + b
  · rw [q, ← hP]; exact n
  · exact ((h k j k0 k1 j0 j1).same (g := f') (fun x x0 x1 => o x (by omega))).1
theorem pb1 {pv k3 P a b : Int} (hP : 0 ≤ P) (h : pv + 1 ≤ k3) (ha : -(pv * P) ≤ a ∧ a ≤ pv * P) (hb : -P ≤ b ∧ b ≤ P) : -(k3 * P) ≤ a + b ∧ a + b ≤ k3 * P := by
  have h1 := Int.mul_le_mul_of_nonneg_right h hP
  rw [Int.add_mul, Int.one_mul] at h1
  omega
theorem pb2 {k3 v : Int} (h : 0 ≤ k3 ∧ k3 ≤ 40) (hv : -(k3 * pw 15) ≤ v ∧ v ≤ k3 * pw 15) : -pw 16 < v ∧ v < pw 16 := by
  have p := pw_pos 15
  have h1 := Int.mul_le_mul_of_nonneg_right h.2 (Int.le_of_lt p)
  have h2 : pw 16 = 1000000000 * pw 15 := pw_s 15
  generalize pw 15 = P at *
  generalize k3 * P = Q at *
  omega
theorem dHA.sm {S u : sS} (h : dHA S) (a283 : u.2.1 283 = S.2.1 283) : dHA u := by
  simp only [dHA, dHf] at h ⊢
  simp only [a283]
  exact h
theorem dSM.sm {S u : sS} (h : dSM S) (e46 : u.1 231 46 = S.1 231 46) (a284 : u.2.1 284 = S.2.1 284) : dSM u := by
  simp only [dSM] at h ⊢
  simp only [e46, a284]
  exact h
theorem dDV.sm {S u : sS} (h : dDV S) (a288 : u.2.1 288 = S.2.1 288) : dDV u := by
  simp only [dDV] at h ⊢
  simp only [a288]
  exact h
set_option maxRecDepth 100000 in
set_option maxHeartbeats 4000000 in
theorem s_X12_variableAt (l : Launch) (G : sG) (S : sS) {Xt Fm Wd Vt : Int → Int} {tk : Int} (hI : dX G S) (hX : S.2.1 243 = Xt) (hFm : S.2.1 245 = Fm) (hWd : S.2.1 246 = Wd) (hVt : S.2.1 247 = Vt) (hnt : nTk Xt Fm Wd Vt tk) (htk : 0 ≤ tk ∧ tk < 30004) (hm : 0 ≤ S.1 231 46 ∧ S.1 231 46 ≤ 12) : Met l yX12_variableAt (.code yX12_variableAt cX12_variableAt 2 (some .int) :: tb) (rmk 3 0 0) (sPc G 294 S [.ref (G.2.2.1 + 231), .int (iv tk)]) (sQi G 294 (fun r u => dX G u ∧ Fr S u (pl [289]) ∧ FF S u (fl []) ∧ (0 ≤ r ∧ r ≤ S.1 231 46))) 0 0 (sF G) := by
  refine sEnter (by decide) (Nat.le_of_ble_eq_true rfl) ?_
  intro p e s m args below meth c Cx hr hlk hnm hW ls hl
  have Cx : sC G p m c cX12_variableAt 2 s args RX12 := Cx
  obtain ⟨hx, hb, hml, hown, hts⟩ := id Cx.1
  have hL : sL G [] := sL_nil
  have hl : lv_has ls 2 [(0, .ref (G.2.2.1 + 231)), (1, .int (iv tk))] := hl
  have hW0 := hW
  refine lv_aload_n hx hb dX12_variableAt_0 rfl (lv_at hl 0 rfl) ?_
  refine lv_iload_n hx hb dX12_variableAt_1 rfl (lv_at hl 1 rfl) ?_
  refine lv_aload_n hx hb dX12_variableAt_2 rfl (lv_at hl 0 rfl) ?_
  refine g_X12_187 Cx hW (k := 231) (by decide) rfl (v := .ref (G.2.2.1 + 289)) (rd_99 hI) dX12_variableAt_3 ?_
  refine lv_iconst (v := iv 0) hx hb dX12_variableAt_6 (by decide) ?_
  refine sBv (sV (As := [.int (iv tk), .ref (G.2.2.1 + 289), .int (iv 0)]) (rest := []) (k := 231) Cx (s_X12_numberAt l G S (tk := tk) (ka := 289) (po := 0) (Nka := 10) (Xt := Xt) (Fm := Fm) (Wd := Wd) (Vt := Vt) hI ⟨rfl, by decide, by decide, by decide, rfl⟩ (show (289 : Nat) ≠ 243 by decide) (show (289 : Nat) ≠ 245 by decide) (show (289 : Nat) ≠ 246 by decide) (show (289 : Nat) ≠ 247 by decide) hX hFm hWd hVt hnt (by omega) (by omega)) (c_X12_703 Cx rfl rfl (rmk_ok (by omega) (by decide))) hW (by decide) rfl rfl rfl hl.1 rfl (Nat.le_of_ble_eq_true rfl) dX12_variableAt_7 ⟨Nat.le_of_ble_eq_true rfl, Nat.le_of_ble_eq_true rfl⟩) hL (fun u_1 H locs k_2 hW hL => ?_)
  obtain ⟨iu_1, fu_1, gu_1, xu_1⟩ := k_2
  have F_3 := (Fr.rf : Fr S S (pl [289])).trans fu_1
  have g_4 : FF S u_1 (fl []) := FF.trans FF.rf (FF.to gu_1 (fl_sub (by decide)))
  refine lv_aload_n hx hb dX12_variableAt_10 rfl (lv_at hl 0 rfl) ?_
  refine g_X12_187 Cx hW (k := 231) (by decide) rfl (v := .ref (G.2.2.1 + 289)) (rd_99 iu_1) dX12_variableAt_11 ?_
  refine lv_iconst (v := iv 0) hx hb dX12_variableAt_14 (by decide) ?_
  refine rIald Cx hW (k := 289) (by decide) rfl (by decide) (by omega) (by omega) dX12_variableAt_15 ?_
  have q_5 : (-2147483648) ≤ u_1.2.1 289 0 ∧ u_1.2.1 289 0 ≤ 2147483647 := iu_1.ai 289 0
  refine r_i (b := u_1.2.1 289 0) rfl ?_
  refine lv_iconst (v := iv 1) hx hb dX12_variableAt_16 (by decide) ?_
  refine r_icmp_ne (tgt := 42) hx hb ⟨(by omega), (by omega)⟩ ⟨(by omega), (by omega)⟩ dX12_variableAt_17 (by decide) (fun c_6 => ?_) (fun c_6 => ?_)
  · refine lv_iconst (v := iv 0) hx hb dX12_variableAt_42 (by decide) ?_
    exact sIret Cx hr hlk hW hL ⟨iu_1, F_3, g_4, (by omega)⟩ dX12_variableAt_43
  · have halnu_ : al (u_1.2.1 289) 0 = 1 := by unfold al; rw [if_neg (by omega)]; omega
    have hlbnu_ := xu_1.1.2.1 1 (by omega) (by rw [halnu_]; omega)
    refine lv_aload_n hx hb dX12_variableAt_20 rfl (lv_at hl 0 rfl) ?_
    refine g_X12_187 Cx hW (k := 231) (by decide) rfl (v := .ref (G.2.2.1 + 289)) (rd_99 iu_1) dX12_variableAt_21 ?_
    refine lv_iconst (v := iv 1) hx hb dX12_variableAt_24 (by decide) ?_
    refine rIald Cx hW (k := 289) (by decide) rfl (by decide) (by omega) (by omega) dX12_variableAt_25 ?_
    have q_7 : (-2147483648) ≤ u_1.2.1 289 1 ∧ u_1.2.1 289 1 ≤ 2147483647 := iu_1.ai 289 1
    refine r_i (b := u_1.2.1 289 1) rfl ?_
    refine lv_aload_n hx hb dX12_variableAt_26 rfl (lv_at hl 0 rfl) ?_
    have q_8 : (-2147483648) ≤ S.1 231 46 ∧ S.1 231 46 ≤ 2147483647 := hI.fi 46
    refine g_X12_465 Cx hW (k := 231) (by decide) rfl (v := S.1 231 46) (gu_1 46 rfl) dX12_variableAt_27 ?_
    refine r_icmp_gt (tgt := 42) hx hb ⟨(by omega), (by omega)⟩ ⟨(by omega), (by omega)⟩ dX12_variableAt_30 (by decide) (fun c_9 => ?_) (fun c_9 => ?_)
    · refine lv_iconst (v := iv 0) hx hb dX12_variableAt_42 (by decide) ?_
      exact sIret Cx hr hlk hW hL ⟨iu_1, F_3, g_4, (by omega)⟩ dX12_variableAt_43
    · refine lv_aload_n hx hb dX12_variableAt_33 rfl (lv_at hl 0 rfl) ?_
      refine g_X12_187 Cx hW (k := 231) (by decide) rfl (v := .ref (G.2.2.1 + 289)) (rd_99 iu_1) dX12_variableAt_34 ?_
      refine lv_iconst (v := iv 1) hx hb dX12_variableAt_37 (by decide) ?_
      refine rIald Cx hW (k := 289) (by decide) rfl (by decide) (by omega) (by omega) dX12_variableAt_38 ?_
      refine r_i (b := u_1.2.1 289 1) rfl ?_
      refine lv_goto (tgt := 43) hx hb dX12_variableAt_39 (by decide) ?_
      exact sIret Cx hr hlk hW hL ⟨iu_1, F_3, g_4, (by omega)⟩ dX12_variableAt_43

set_option maxRecDepth 100000 in
set_option maxHeartbeats 4000000 in
theorem s_X12_branchRow (l : Launch) (G : sG) (S : sS) {Xt Fm Wd Vt : Int → Int} {k tk bb : Int} (hI : dX G S) (hX : S.2.1 243 = Xt) (hFm : S.2.1 245 = Fm) (hWd : S.2.1 246 = Wd) (hVt : S.2.1 247 = Vt) (hnt : nTk Xt Fm Wd Vt tk) (htk : 0 ≤ tk ∧ tk < 30004) (hm : 0 ≤ S.1 231 46 ∧ S.1 231 46 ≤ 12) (hk : 0 ≤ k ∧ k ≤ S.1 231 46) (hbb : 0 ≤ bb ∧ bb ≤ 1) (h100 : 0 ≤ S.1 231 100 ∧ S.1 231 100 ≤ 39) (hHA : dHA S) : Met l yX12_branchRow (.code yX12_branchRow cX12_branchRow 5 none :: tb) (rmk 5 0 0) (sPc G 294 S [.ref (G.2.2.1 + 231), .int (iv k), .int (iv tk), .int (iv bb)]) (sQv G 294 (fun u => dX G u ∧ Fr S u (pl [231, 277, 283]) ∧ FF S u (fl [100]) ∧ (u.1 231 100 = S.1 231 100 + 1 ∧ dHA u))) 0 0 (sF G) := by
  refine sEnter (by decide) (Nat.le_of_ble_eq_true rfl) ?_
  intro p e s m args below meth c Cx hr hlk hnm hW ls hl
  have Cx : sC G p m c cX12_branchRow 5 s args RX12 := Cx
  obtain ⟨hx, hb, hml, hown, hts⟩ := id Cx.1
  have hL : sL G [] := sL_nil
  have hl : lv_has ls 5 [(0, .ref (G.2.2.1 + 231)), (1, .int (iv k)), (2, .int (iv tk)), (3, .int (iv bb))] := hl
  have hW0 := hW
  refine lv_aload_n hx hb dX12_branchRow_0 rfl (lv_at hl 0 rfl) ?_
  refine lv_dup hx hb dX12_branchRow_1 rfl ?_
  have q_1 : (-2147483648) ≤ S.1 231 100 ∧ S.1 231 100 ≤ 2147483647 := hI.fi 100
  refine g_X12_738 Cx hW (k := 231) (by decide) rfl (v := S.1 231 100) rfl dX12_branchRow_2 ?_
  refine lv_iconst (v := iv 1) hx hb dX12_branchRow_5 (by decide) ?_
  refine r_iadd hx hb dX12_branchRow_6 ?_
  refine p_X12_738 Cx hW hL (k := 231) (by decide) rfl dX12_branchRow_7 (fun H locs hW hL => ?_)
  have F_2 : Fr S (uF S 231 100 ((S.1 231 100) + 1)) (pl [231, 277, 283]) := (Fr.rf : Fr S S (pl [231, 277, 283])).F rfl
  have g_3 : FF S (uF S 231 100 ((S.1 231 100) + 1)) (fl [100]) := FF.F FF.rf rfl
  have i_4 : dX G (uF S 231 100 ((S.1 231 100) + 1)) := hI.F (i := 100) (show (-2147483648) ≤ (S.1 231 100) + 1 ∧ (S.1 231 100) + 1 ≤ 2147483647 from ⟨by omega, by omega⟩)
  refine lv_iconst (v := iv 0) hx hb dX12_branchRow_10 (by decide) ?_
  refine lv_istore (lv' := [(4, .int (iv 0)), (0, .ref (G.2.2.1 + 231)), (1, .int (iv k)), (2, .int (iv tk)), (3, .int (iv bb))]) hx hb dX12_branchRow_11 hl (by decide) rfl (fun ls hl => ?_)
  have loop_13 : ∀ (fuel : Nat) (S13 : sS) (j : Int) (H : Heap) (locs : List Loc) (ls : Array Slot), (S.1 231 46 + 1 - j).toNat < fuel → (dX G S13) → (Fr S S13 (pl [231, 277, 283])) → (Fr ((uF S 231 100 ((S.1 231 100) + 1))) S13 (pl [283])) → (FF S S13 (fl [100])) → (FF ((uF S 231 100 ((S.1 231 100) + 1))) S13 (fl [])) → (0 ≤ j ∧ j ≤ S.1 231 46 + 1) → (dHf (S13.2.1 283)) → sW G 294 S13 H → sL G locs → lv_has ls 5 [(4, .int (iv j)), (0, .ref (G.2.2.1 + 231)), (1, .int (iv k)), (2, .int (iv tk)), (3, .int (iv bb))] → W p l e (rmk 5 0 0) s m args below meth c H locs 0 0 (MQ below (sQv G 294 (fun u => dX G u ∧ Fr S u (pl [231, 277, 283]) ∧ FF S u (fl [100]) ∧ (u.1 231 100 = S.1 231 100 + 1 ∧ dHA u))) args s 0 0 (sF G)) (F0 m 13 ls []) := by
    intro fuel
    induction fuel with
    | zero => intro S13 j H locs ls hmeas hI13 hFm13 hL13_ hGm13 gL13_ hj hB13 hW hL hl; exact absurd hmeas (Nat.not_lt_zero _)
    | succ fuel ih_13 =>
      intro S13 j H locs ls hmeas hI13 hFm13 hL13_ hGm13 gL13_ hj hB13 hW hL hl
      refine lv_iload hx hb dX12_branchRow_13 (lv_at hl 0 rfl) ?_
      refine lv_aload_n hx hb dX12_branchRow_15 rfl (lv_at hl 1 rfl) ?_
      have q_5 : (-2147483648) ≤ S.1 231 46 ∧ S.1 231 46 ≤ 2147483647 := hI.fi 46
      refine g_X12_465 Cx hW (k := 231) (by decide) rfl (v := S.1 231 46) ((gL13_ 46 rfl).trans (uF_ne (fun h => absurd h.2 (by decide)))) dX12_branchRow_16 ?_
      refine r_icmp_gt (tgt := 44) hx hb ⟨(by omega), (by omega)⟩ ⟨(by omega), (by omega)⟩ dX12_branchRow_19 (by decide) (fun c_6 => ?_) (fun c_6 => ?_)
      · refine lv_aload_n hx hb dX12_branchRow_44 rfl (lv_at hl 1 rfl) ?_
        refine g_X12_169 Cx hW (k := 231) (by decide) rfl (v := .ref (G.2.2.1 + 283)) (rd_93 hI13) dX12_branchRow_45 ?_
        refine lv_aload_n hx hb dX12_branchRow_48 rfl (lv_at hl 1 rfl) ?_
        refine lv_aload_n hx hb dX12_branchRow_49 rfl (lv_at hl 1 rfl) ?_
        refine g_X12_738 Cx hW (k := 231) (by decide) rfl (v := (S.1 231 100) + 1) ((gL13_ 100 rfl).trans (uF_on)) dX12_branchRow_50 ?_
        refine lv_iload_n hx hb dX12_branchRow_53 rfl (lv_at hl 2 rfl) ?_
        refine sBi (sV (As := [.int (iv ((S.1 231 100) + 1)), .int (iv k)]) (rest := [.ref (G.2.2.1 + 283)]) (k := 231) Cx (s_X12_heldCell l G S13 (i := (S.1 231 100) + 1) (j := k) (by omega) (by omega)) (c_X12_735 Cx rfl rfl (rmk_ok (by omega) (by decide))) hW (by decide) rfl rfl rfl hl.1 rfl (Nat.le_of_ble_eq_true rfl) dX12_branchRow_54 ⟨Nat.le_of_ble_eq_true rfl, Nat.le_of_ble_eq_true rfl⟩) hL (fun q1 u_7 H locs k_8 hW hL => ?_)
        obtain ⟨eu_7, xu_7⟩ := k_8
        rw [eu_7] at hW
        refine lv_iload_n hx hb dX12_branchRow_57 rfl (lv_at hl 4 rfl) ?_
        refine r_if_eq (tgt := 67) hx hb ⟨(by omega), (by omega)⟩ dX12_branchRow_58 (by decide) (fun c_9 => ?_) (fun c_9 => ?_)
        · refine lv_lconst (v := jv 1) hx hb dX12_branchRow_67 (by decide) ?_
          refine sBv (sSt (As := [.ref (G.2.2.1 + 283), .int (iv q1), .long (jv 1)]) (rest := []) Cx (s_X12_put l G S13 (ka := 283) (po := q1) (v := 1) (Nka := 5460) hI13 ⟨rfl, by decide, by decide, by decide, rfl⟩ (by omega) (by omega)) (c_X12_241 Cx rfl rfl (rmk_ok (by omega) (by decide))) hW rfl hl.1 rfl (Nat.le_of_ble_eq_true rfl) dX12_branchRow_68 ⟨Nat.le_of_ble_eq_true rfl, Nat.le_of_ble_eq_true rfl⟩) hL (fun u_10 H locs k_11 hW hL => ?_)
          obtain ⟨iu_10, fu_10, xu_10⟩ := k_11
          have F_12 := hFm13.trans (fu_10.to (p1_sub rfl))
          have F_13 := hL13_.trans (fu_10.to (p1_sub rfl))
          have g_14 : FF S u_10 (fl [100]) := FF.fr hGm13 fu_10 rfl
          have g_15 : FF ((uF S 231 100 ((S.1 231 100) + 1))) u_10 (fl []) := FF.fr gL13_ fu_10 rfl
          have hB1 : dHf (u_10.2.1 283) := dHf.put (f := S13.2.1 283) (a := (S.1 231 100 + 1)) (b := k) (P := q1) hB13 (by omega) (by omega) (by omega) (xu_10.1.mono (by omega)) (fun x a => xu_10.2.2 x (by omega))
          refine lv_aload_n hx hb dX12_branchRow_71 rfl (lv_at hl 1 rfl) ?_
          refine lv_aload_n hx hb dX12_branchRow_72 rfl (lv_at hl 1 rfl) ?_
          refine g_X12_738 Cx hW (k := 231) (by decide) rfl (v := (S.1 231 100) + 1) (((fu_10 231 rfl).1 100).trans ((gL13_ 100 rfl).trans (uF_on))) dX12_branchRow_73 ?_
          refine lv_iconst (v := iv 0) hx hb dX12_branchRow_76 (by decide) ?_
          refine sBi (sV (As := [.int (iv ((S.1 231 100) + 1)), .int (iv 0)]) (rest := []) (k := 231) Cx (s_X12_heldCell l G u_10 (i := (S.1 231 100) + 1) (j := 0) (by omega) (by omega)) (c_X12_735 Cx rfl rfl (rmk_ok (by omega) (by decide))) hW (by decide) rfl rfl rfl hl.1 rfl (Nat.le_of_ble_eq_true rfl) dX12_branchRow_77 ⟨Nat.le_of_ble_eq_true rfl, Nat.le_of_ble_eq_true rfl⟩) hL (fun q2 u_16 H locs k_17 hW hL => ?_)
          obtain ⟨eu_16, xu_16⟩ := k_17
          rw [eu_16] at hW
          refine lv_istore (lv' := [(4, .int (iv q2)), (0, .ref (G.2.2.1 + 231)), (1, .int (iv k)), (2, .int (iv tk)), (3, .int (iv bb))]) hx hb dX12_branchRow_80 hl (by decide) rfl (fun ls hl => ?_)
          refine lv_aload_n hx hb dX12_branchRow_82 rfl (lv_at hl 1 rfl) ?_
          refine lv_iload_n hx hb dX12_branchRow_83 rfl (lv_at hl 3 rfl) ?_
          refine lv_aload_n hx hb dX12_branchRow_84 rfl (lv_at hl 1 rfl) ?_
          refine g_X12_169 Cx hW (k := 231) (by decide) rfl (v := .ref (G.2.2.1 + 283)) (rd_93 iu_10) dX12_branchRow_85 ?_
          refine lv_iload hx hb dX12_branchRow_88 (lv_at hl 0 rfl) ?_
          refine sBv (sV (As := [.int (iv tk), .ref (G.2.2.1 + 283), .int (iv q2)]) (rest := []) (k := 231) Cx (s_X12_numberAt l G u_10 (tk := tk) (ka := 283) (po := q2) (Nka := 5460) (Xt := Xt) (Fm := Fm) (Wd := Wd) (Vt := Vt) iu_10 ⟨rfl, by decide, by decide, by decide, rfl⟩ (show (283 : Nat) ≠ 243 by decide) (show (283 : Nat) ≠ 245 by decide) (show (283 : Nat) ≠ 246 by decide) (show (283 : Nat) ≠ 247 by decide) ((funext fun j => ((fu_10 243 rfl).2.1 j).trans (((hL13_ 243 rfl).2.1 j).trans (uF_a)) : u_10.2.1 243 = S.2.1 243).trans hX) ((funext fun j => ((fu_10 245 rfl).2.1 j).trans (((hL13_ 245 rfl).2.1 j).trans (uF_a)) : u_10.2.1 245 = S.2.1 245).trans hFm) ((funext fun j => ((fu_10 246 rfl).2.1 j).trans (((hL13_ 246 rfl).2.1 j).trans (uF_a)) : u_10.2.1 246 = S.2.1 246).trans hWd) ((funext fun j => ((fu_10 247 rfl).2.1 j).trans (((hL13_ 247 rfl).2.1 j).trans (uF_a)) : u_10.2.1 247 = S.2.1 247).trans hVt) hnt (by omega) (by omega)) (c_X12_703 Cx rfl rfl (rmk_ok (by omega) (by decide))) hW (by decide) rfl rfl rfl hl.1 rfl (Nat.le_of_ble_eq_true rfl) dX12_branchRow_90 ⟨Nat.le_of_ble_eq_true rfl, Nat.le_of_ble_eq_true rfl⟩) hL (fun u_18 H locs k_19 hW hL => ?_)
          obtain ⟨iu_18, fu_18, gu_18, xu_18⟩ := k_19
          have F_20 := F_12.trans (fu_18.to (pl_sub (by decide)))
          have F_21 := F_13.trans fu_18
          have g_22 : FF S u_18 (fl [100]) := FF.trans g_14 (FF.to gu_18 (fl_sub (by decide)))
          have g_23 : FF ((uF S 231 100 ((S.1 231 100) + 1))) u_18 (fl []) := FF.trans g_15 (FF.to gu_18 (fl_sub (by decide)))
          have hB2 : dHf (u_18.2.1 283) := dHf.put (f := u_10.2.1 283) (a := (S.1 231 100 + 1)) (b := 0) (P := q2) hB1 (by omega) (by omega) (by omega) (xu_18.1.mono (by omega)) (fun x a => xu_18.2.2 x (by omega))
          refine lv_iload_n hx hb dX12_branchRow_93 rfl (lv_at hl 4 rfl) ?_
          refine r_if_ne (tgt := 98) hx hb ⟨(by omega), (by omega)⟩ dX12_branchRow_94 (by decide) (fun c_24 => ?_) (fun c_24 => ?_)
          · refine lv_aload_n hx hb dX12_branchRow_98 rfl (lv_at hl 1 rfl) ?_
            refine g_X12_151 Cx hW (k := 231) (by decide) rfl (v := .ref (G.2.2.1 + 277)) (rd_87 iu_18) dX12_branchRow_99 ?_
            refine lv_iconst (v := iv 0) hx hb dX12_branchRow_102 (by decide) ?_
            refine lv_lconst (v := jv 1) hx hb dX12_branchRow_103 (by decide) ?_
            refine sBv (sSt (As := [.ref (G.2.2.1 + 277), .int (iv 0), .long (jv 1)]) (rest := []) Cx (s_X12_put l G u_18 (ka := 277) (po := 0) (v := 1) (Nka := 4) iu_18 ⟨rfl, by decide, by decide, by decide, rfl⟩ (by omega) (by omega)) (c_X12_241 Cx rfl rfl (rmk_ok (by omega) (by decide))) hW rfl hl.1 rfl (Nat.le_of_ble_eq_true rfl) dX12_branchRow_104 ⟨Nat.le_of_ble_eq_true rfl, Nat.le_of_ble_eq_true rfl⟩) hL (fun u_25 H locs k_26 hW hL => ?_)
            obtain ⟨iu_25, fu_25, xu_25⟩ := k_26
            have F_27 := F_20.trans (fu_25.to (p1_sub rfl))
            have g_28 : FF S u_25 (fl [100]) := FF.fr g_22 fu_25 rfl
            have g_29 : FF ((uF S 231 100 ((S.1 231 100) + 1))) u_25 (fl []) := FF.fr g_23 fu_25 rfl
            refine lv_aload_n hx hb dX12_branchRow_107 rfl (lv_at hl 1 rfl) ?_
            refine g_X12_169 Cx hW (k := 231) (by decide) rfl (v := .ref (G.2.2.1 + 283)) (rd_93 iu_25) dX12_branchRow_108 ?_
            refine lv_iload hx hb dX12_branchRow_111 (lv_at hl 0 rfl) ?_
            refine lv_aload_n hx hb dX12_branchRow_113 rfl (lv_at hl 1 rfl) ?_
            refine g_X12_151 Cx hW (k := 231) (by decide) rfl (v := .ref (G.2.2.1 + 277)) (rd_87 iu_25) dX12_branchRow_114 ?_
            refine lv_iconst (v := iv 0) hx hb dX12_branchRow_117 (by decide) ?_
            refine lv_iconst (v := iv 0) hx hb dX12_branchRow_118 (by decide) ?_
            refine lv_aload_n hx hb dX12_branchRow_119 rfl (lv_at hl 1 rfl) ?_
            refine g_X12_169 Cx hW (k := 231) (by decide) rfl (v := .ref (G.2.2.1 + 283)) (rd_93 iu_25) dX12_branchRow_120 ?_
            refine lv_iload hx hb dX12_branchRow_123 (lv_at hl 0 rfl) ?_
            refine sBv (sSt (As := [.ref (G.2.2.1 + 283), .int (iv q2), .ref (G.2.2.1 + 277), .int (iv 0), .int (iv 0), .ref (G.2.2.1 + 283), .int (iv q2)]) (rest := []) Cx (s_X12_add l G u_25 (ka := 283) (po := q2) (kb := 277) (qo := 0) (lz := 0) (kc := 283) (ro := q2) (Nka := 5460) (Nkb := 4) (Nkc := 5460) (La := 7) (Lb := 3) (Lc := 8) iu_25 ⟨rfl, by decide, by decide, by decide, rfl⟩ ⟨rfl, by decide, by decide, by decide, rfl⟩ ⟨rfl, by decide, by decide, by decide, rfl⟩ (show (283 : Nat) ≠ 277 by decide) (fun _ => rfl) (by omega) (by omega) (by rw [show u_25.2.1 283 = u_18.2.1 283 from (funext fun j => (fu_25 283 rfl).2.1 j)]; exact xu_18.1) xu_25.1) (c_X12_249 Cx rfl rfl (rmk_ok (by omega) (by decide))) hW rfl hl.1 rfl (Nat.le_of_ble_eq_true rfl) dX12_branchRow_125 ⟨Nat.le_of_ble_eq_true rfl, Nat.le_of_ble_eq_true rfl⟩) hL (fun u_30 H locs k_31 hW hL => ?_)
            obtain ⟨iu_30, fu_30, xu_30⟩ := k_31
            have F_32 := F_27.trans (fu_30.to (p1_sub rfl))
            have g_33 : FF S u_30 (fl [100]) := FF.fr g_28 fu_30 rfl
            have g_34 : FF ((uF S 231 100 ((S.1 231 100) + 1))) u_30 (fl []) := FF.fr g_29 fu_30 rfl
            refine lv_aload_n hx hb dX12_branchRow_128 rfl (lv_at hl 1 rfl) ?_
            refine g_X12_169 Cx hW (k := 231) (by decide) rfl (v := .ref (G.2.2.1 + 283)) (rd_93 iu_30) dX12_branchRow_129 ?_
            refine lv_iload hx hb dX12_branchRow_132 (lv_at hl 0 rfl) ?_
            refine sBv (sSt (As := [.ref (G.2.2.1 + 283), .int (iv q2)]) (rest := []) Cx (s_X12_negate l G u_30 (ka := 283) (po := q2) (Nka := 5460) (La := 8) iu_30 ⟨rfl, by decide, by decide, by decide, rfl⟩ (by omega) xu_30.1) (c_X12_540 Cx rfl rfl (rmk_ok (by omega) (by decide))) hW rfl hl.1 rfl (Nat.le_of_ble_eq_true rfl) dX12_branchRow_134 ⟨Nat.le_of_ble_eq_true rfl, Nat.le_of_ble_eq_true rfl⟩) hL (fun u_35 H locs k_36 hW hL => ?_)
            obtain ⟨iu_35, fu_35, xu_35⟩ := k_36
            have F_37 := F_32.trans (fu_35.to (p1_sub rfl))
            have g_38 : FF S u_35 (fl [100]) := FF.fr g_33 fu_35 rfl
            have g_39 : FF ((uF S 231 100 ((S.1 231 100) + 1))) u_35 (fl []) := FF.fr g_34 fu_35 rfl
            have lk_40 : u_35.1 231 100 = (S.1 231 100) + 1 := ((fu_35 231 rfl).1 100).trans (((fu_30 231 rfl).1 100).trans (((fu_25 231 rfl).1 100).trans ((gu_18 100 rfl).trans (((fu_10 231 rfl).1 100).trans ((gL13_ 100 rfl).trans (uF_on))))))
            exact sVret Cx hr hlk hW hL ⟨iu_35, F_37, g_38, ⟨(by have y := (show u_35.1 231 100 = (S.1 231 100) + 1 from ((fu_35 231 rfl).1 100).trans (((fu_30 231 rfl).1 100).trans (((fu_25 231 rfl).1 100).trans ((gu_18 100 rfl).trans (((fu_10 231 rfl).1 100).trans ((gL13_ 100 rfl).trans (uF_on))))))); omega), (dHf.put (f := u_18.2.1 283) (a := (S.1 231 100 + 1)) (b := 0) (P := q2) hB2 (by omega) (by omega) (by omega) xu_35.1 (fun x a => by rw [xu_35.2.2, uA_ne (fun h => by have := h.2; omega), xu_30.2.2 x (by omega)]; exact (fu_25 283 rfl).2.1 x))⟩⟩ dX12_branchRow_137
          · have lk_41 : u_18.1 231 100 = (S.1 231 100) + 1 := (gu_18 100 rfl).trans (((fu_10 231 rfl).1 100).trans ((gL13_ 100 rfl).trans (uF_on)))
            exact sVret Cx hr hlk hW hL ⟨iu_18, F_20, g_22, ⟨(by have y := (show u_18.1 231 100 = (S.1 231 100) + 1 from (gu_18 100 rfl).trans (((fu_10 231 rfl).1 100).trans ((gL13_ 100 rfl).trans (uF_on)))); omega), hB2⟩⟩ dX12_branchRow_97
        · refine lv_ldc2 hx hb hown (hts _ w_2496) dX12_branchRow_61 ?_
          refine lv_goto (tgt := 68) hx hb dX12_branchRow_64 (by decide) ?_
          refine sBv (sSt (As := [.ref (G.2.2.1 + 283), .int (iv q1), .long (jv ((-1)))]) (rest := []) Cx (s_X12_put l G S13 (ka := 283) (po := q1) (v := (-1)) (Nka := 5460) hI13 ⟨rfl, by decide, by decide, by decide, rfl⟩ (by omega) (by omega)) (c_X12_241 Cx rfl rfl (rmk_ok (by omega) (by decide))) hW rfl hl.1 rfl (Nat.le_of_ble_eq_true rfl) dX12_branchRow_68 ⟨Nat.le_of_ble_eq_true rfl, Nat.le_of_ble_eq_true rfl⟩) hL (fun u_42 H locs k_43 hW hL => ?_)
          obtain ⟨iu_42, fu_42, xu_42⟩ := k_43
          have F_44 := hFm13.trans (fu_42.to (p1_sub rfl))
          have F_45 := hL13_.trans (fu_42.to (p1_sub rfl))
          have g_46 : FF S u_42 (fl [100]) := FF.fr hGm13 fu_42 rfl
          have g_47 : FF ((uF S 231 100 ((S.1 231 100) + 1))) u_42 (fl []) := FF.fr gL13_ fu_42 rfl
          have hB1 : dHf (u_42.2.1 283) := dHf.put (f := S13.2.1 283) (a := (S.1 231 100 + 1)) (b := k) (P := q1) hB13 (by omega) (by omega) (by omega) (xu_42.1.mono (by omega)) (fun x a => xu_42.2.2 x (by omega))
          refine lv_aload_n hx hb dX12_branchRow_71 rfl (lv_at hl 1 rfl) ?_
          refine lv_aload_n hx hb dX12_branchRow_72 rfl (lv_at hl 1 rfl) ?_
          refine g_X12_738 Cx hW (k := 231) (by decide) rfl (v := (S.1 231 100) + 1) (((fu_42 231 rfl).1 100).trans ((gL13_ 100 rfl).trans (uF_on))) dX12_branchRow_73 ?_
          refine lv_iconst (v := iv 0) hx hb dX12_branchRow_76 (by decide) ?_
          refine sBi (sV (As := [.int (iv ((S.1 231 100) + 1)), .int (iv 0)]) (rest := []) (k := 231) Cx (s_X12_heldCell l G u_42 (i := (S.1 231 100) + 1) (j := 0) (by omega) (by omega)) (c_X12_735 Cx rfl rfl (rmk_ok (by omega) (by decide))) hW (by decide) rfl rfl rfl hl.1 rfl (Nat.le_of_ble_eq_true rfl) dX12_branchRow_77 ⟨Nat.le_of_ble_eq_true rfl, Nat.le_of_ble_eq_true rfl⟩) hL (fun q2 u_48 H locs k_49 hW hL => ?_)
          obtain ⟨eu_48, xu_48⟩ := k_49
          rw [eu_48] at hW
          refine lv_istore (lv' := [(4, .int (iv q2)), (0, .ref (G.2.2.1 + 231)), (1, .int (iv k)), (2, .int (iv tk)), (3, .int (iv bb))]) hx hb dX12_branchRow_80 hl (by decide) rfl (fun ls hl => ?_)
          refine lv_aload_n hx hb dX12_branchRow_82 rfl (lv_at hl 1 rfl) ?_
          refine lv_iload_n hx hb dX12_branchRow_83 rfl (lv_at hl 3 rfl) ?_
          refine lv_aload_n hx hb dX12_branchRow_84 rfl (lv_at hl 1 rfl) ?_
          refine g_X12_169 Cx hW (k := 231) (by decide) rfl (v := .ref (G.2.2.1 + 283)) (rd_93 iu_42) dX12_branchRow_85 ?_
          refine lv_iload hx hb dX12_branchRow_88 (lv_at hl 0 rfl) ?_
          refine sBv (sV (As := [.int (iv tk), .ref (G.2.2.1 + 283), .int (iv q2)]) (rest := []) (k := 231) Cx (s_X12_numberAt l G u_42 (tk := tk) (ka := 283) (po := q2) (Nka := 5460) (Xt := Xt) (Fm := Fm) (Wd := Wd) (Vt := Vt) iu_42 ⟨rfl, by decide, by decide, by decide, rfl⟩ (show (283 : Nat) ≠ 243 by decide) (show (283 : Nat) ≠ 245 by decide) (show (283 : Nat) ≠ 246 by decide) (show (283 : Nat) ≠ 247 by decide) ((funext fun j => ((fu_42 243 rfl).2.1 j).trans (((hL13_ 243 rfl).2.1 j).trans (uF_a)) : u_42.2.1 243 = S.2.1 243).trans hX) ((funext fun j => ((fu_42 245 rfl).2.1 j).trans (((hL13_ 245 rfl).2.1 j).trans (uF_a)) : u_42.2.1 245 = S.2.1 245).trans hFm) ((funext fun j => ((fu_42 246 rfl).2.1 j).trans (((hL13_ 246 rfl).2.1 j).trans (uF_a)) : u_42.2.1 246 = S.2.1 246).trans hWd) ((funext fun j => ((fu_42 247 rfl).2.1 j).trans (((hL13_ 247 rfl).2.1 j).trans (uF_a)) : u_42.2.1 247 = S.2.1 247).trans hVt) hnt (by omega) (by omega)) (c_X12_703 Cx rfl rfl (rmk_ok (by omega) (by decide))) hW (by decide) rfl rfl rfl hl.1 rfl (Nat.le_of_ble_eq_true rfl) dX12_branchRow_90 ⟨Nat.le_of_ble_eq_true rfl, Nat.le_of_ble_eq_true rfl⟩) hL (fun u_50 H locs k_51 hW hL => ?_)
          obtain ⟨iu_50, fu_50, gu_50, xu_50⟩ := k_51
          have F_52 := F_44.trans (fu_50.to (pl_sub (by decide)))
          have F_53 := F_45.trans fu_50
          have g_54 : FF S u_50 (fl [100]) := FF.trans g_46 (FF.to gu_50 (fl_sub (by decide)))
          have g_55 : FF ((uF S 231 100 ((S.1 231 100) + 1))) u_50 (fl []) := FF.trans g_47 (FF.to gu_50 (fl_sub (by decide)))
          have hB2 : dHf (u_50.2.1 283) := dHf.put (f := u_42.2.1 283) (a := (S.1 231 100 + 1)) (b := 0) (P := q2) hB1 (by omega) (by omega) (by omega) (xu_50.1.mono (by omega)) (fun x a => xu_50.2.2 x (by omega))
          refine lv_iload_n hx hb dX12_branchRow_93 rfl (lv_at hl 4 rfl) ?_
          refine r_if_ne (tgt := 98) hx hb ⟨(by omega), (by omega)⟩ dX12_branchRow_94 (by decide) (fun c_56 => ?_) (fun c_56 => ?_)
          · refine lv_aload_n hx hb dX12_branchRow_98 rfl (lv_at hl 1 rfl) ?_
            refine g_X12_151 Cx hW (k := 231) (by decide) rfl (v := .ref (G.2.2.1 + 277)) (rd_87 iu_50) dX12_branchRow_99 ?_
            refine lv_iconst (v := iv 0) hx hb dX12_branchRow_102 (by decide) ?_
            refine lv_lconst (v := jv 1) hx hb dX12_branchRow_103 (by decide) ?_
            refine sBv (sSt (As := [.ref (G.2.2.1 + 277), .int (iv 0), .long (jv 1)]) (rest := []) Cx (s_X12_put l G u_50 (ka := 277) (po := 0) (v := 1) (Nka := 4) iu_50 ⟨rfl, by decide, by decide, by decide, rfl⟩ (by omega) (by omega)) (c_X12_241 Cx rfl rfl (rmk_ok (by omega) (by decide))) hW rfl hl.1 rfl (Nat.le_of_ble_eq_true rfl) dX12_branchRow_104 ⟨Nat.le_of_ble_eq_true rfl, Nat.le_of_ble_eq_true rfl⟩) hL (fun u_57 H locs k_58 hW hL => ?_)
            obtain ⟨iu_57, fu_57, xu_57⟩ := k_58
            have F_59 := F_52.trans (fu_57.to (p1_sub rfl))
            have g_60 : FF S u_57 (fl [100]) := FF.fr g_54 fu_57 rfl
            have g_61 : FF ((uF S 231 100 ((S.1 231 100) + 1))) u_57 (fl []) := FF.fr g_55 fu_57 rfl
            refine lv_aload_n hx hb dX12_branchRow_107 rfl (lv_at hl 1 rfl) ?_
            refine g_X12_169 Cx hW (k := 231) (by decide) rfl (v := .ref (G.2.2.1 + 283)) (rd_93 iu_57) dX12_branchRow_108 ?_
            refine lv_iload hx hb dX12_branchRow_111 (lv_at hl 0 rfl) ?_
            refine lv_aload_n hx hb dX12_branchRow_113 rfl (lv_at hl 1 rfl) ?_
            refine g_X12_151 Cx hW (k := 231) (by decide) rfl (v := .ref (G.2.2.1 + 277)) (rd_87 iu_57) dX12_branchRow_114 ?_
            refine lv_iconst (v := iv 0) hx hb dX12_branchRow_117 (by decide) ?_
            refine lv_iconst (v := iv 0) hx hb dX12_branchRow_118 (by decide) ?_
            refine lv_aload_n hx hb dX12_branchRow_119 rfl (lv_at hl 1 rfl) ?_
            refine g_X12_169 Cx hW (k := 231) (by decide) rfl (v := .ref (G.2.2.1 + 283)) (rd_93 iu_57) dX12_branchRow_120 ?_
            refine lv_iload hx hb dX12_branchRow_123 (lv_at hl 0 rfl) ?_
            refine sBv (sSt (As := [.ref (G.2.2.1 + 283), .int (iv q2), .ref (G.2.2.1 + 277), .int (iv 0), .int (iv 0), .ref (G.2.2.1 + 283), .int (iv q2)]) (rest := []) Cx (s_X12_add l G u_57 (ka := 283) (po := q2) (kb := 277) (qo := 0) (lz := 0) (kc := 283) (ro := q2) (Nka := 5460) (Nkb := 4) (Nkc := 5460) (La := 7) (Lb := 3) (Lc := 8) iu_57 ⟨rfl, by decide, by decide, by decide, rfl⟩ ⟨rfl, by decide, by decide, by decide, rfl⟩ ⟨rfl, by decide, by decide, by decide, rfl⟩ (show (283 : Nat) ≠ 277 by decide) (fun _ => rfl) (by omega) (by omega) (by rw [show u_57.2.1 283 = u_50.2.1 283 from (funext fun j => (fu_57 283 rfl).2.1 j)]; exact xu_50.1) xu_57.1) (c_X12_249 Cx rfl rfl (rmk_ok (by omega) (by decide))) hW rfl hl.1 rfl (Nat.le_of_ble_eq_true rfl) dX12_branchRow_125 ⟨Nat.le_of_ble_eq_true rfl, Nat.le_of_ble_eq_true rfl⟩) hL (fun u_62 H locs k_63 hW hL => ?_)
            obtain ⟨iu_62, fu_62, xu_62⟩ := k_63
            have F_64 := F_59.trans (fu_62.to (p1_sub rfl))
            have g_65 : FF S u_62 (fl [100]) := FF.fr g_60 fu_62 rfl
            have g_66 : FF ((uF S 231 100 ((S.1 231 100) + 1))) u_62 (fl []) := FF.fr g_61 fu_62 rfl
            refine lv_aload_n hx hb dX12_branchRow_128 rfl (lv_at hl 1 rfl) ?_
            refine g_X12_169 Cx hW (k := 231) (by decide) rfl (v := .ref (G.2.2.1 + 283)) (rd_93 iu_62) dX12_branchRow_129 ?_
            refine lv_iload hx hb dX12_branchRow_132 (lv_at hl 0 rfl) ?_
            refine sBv (sSt (As := [.ref (G.2.2.1 + 283), .int (iv q2)]) (rest := []) Cx (s_X12_negate l G u_62 (ka := 283) (po := q2) (Nka := 5460) (La := 8) iu_62 ⟨rfl, by decide, by decide, by decide, rfl⟩ (by omega) xu_62.1) (c_X12_540 Cx rfl rfl (rmk_ok (by omega) (by decide))) hW rfl hl.1 rfl (Nat.le_of_ble_eq_true rfl) dX12_branchRow_134 ⟨Nat.le_of_ble_eq_true rfl, Nat.le_of_ble_eq_true rfl⟩) hL (fun u_67 H locs k_68 hW hL => ?_)
            obtain ⟨iu_67, fu_67, xu_67⟩ := k_68
            have F_69 := F_64.trans (fu_67.to (p1_sub rfl))
            have g_70 : FF S u_67 (fl [100]) := FF.fr g_65 fu_67 rfl
            have g_71 : FF ((uF S 231 100 ((S.1 231 100) + 1))) u_67 (fl []) := FF.fr g_66 fu_67 rfl
            have lk_72 : u_67.1 231 100 = (S.1 231 100) + 1 := ((fu_67 231 rfl).1 100).trans (((fu_62 231 rfl).1 100).trans (((fu_57 231 rfl).1 100).trans ((gu_50 100 rfl).trans (((fu_42 231 rfl).1 100).trans ((gL13_ 100 rfl).trans (uF_on))))))
            exact sVret Cx hr hlk hW hL ⟨iu_67, F_69, g_70, ⟨(by have y := (show u_67.1 231 100 = (S.1 231 100) + 1 from ((fu_67 231 rfl).1 100).trans (((fu_62 231 rfl).1 100).trans (((fu_57 231 rfl).1 100).trans ((gu_50 100 rfl).trans (((fu_42 231 rfl).1 100).trans ((gL13_ 100 rfl).trans (uF_on))))))); omega), (dHf.put (f := u_50.2.1 283) (a := (S.1 231 100 + 1)) (b := 0) (P := q2) hB2 (by omega) (by omega) (by omega) xu_67.1 (fun x a => by rw [xu_67.2.2, uA_ne (fun h => by have := h.2; omega), xu_62.2.2 x (by omega)]; exact (fu_57 283 rfl).2.1 x))⟩⟩ dX12_branchRow_137
          · have lk_73 : u_50.1 231 100 = (S.1 231 100) + 1 := (gu_50 100 rfl).trans (((fu_42 231 rfl).1 100).trans ((gL13_ 100 rfl).trans (uF_on)))
            exact sVret Cx hr hlk hW hL ⟨iu_50, F_52, g_54, ⟨(by have y := (show u_50.1 231 100 = (S.1 231 100) + 1 from (gu_50 100 rfl).trans (((fu_42 231 rfl).1 100).trans ((gL13_ 100 rfl).trans (uF_on)))); omega), hB2⟩⟩ dX12_branchRow_97
      · refine lv_aload_n hx hb dX12_branchRow_22 rfl (lv_at hl 1 rfl) ?_
        refine g_X12_169 Cx hW (k := 231) (by decide) rfl (v := .ref (G.2.2.1 + 283)) (rd_93 hI13) dX12_branchRow_23 ?_
        refine lv_aload_n hx hb dX12_branchRow_26 rfl (lv_at hl 1 rfl) ?_
        refine lv_aload_n hx hb dX12_branchRow_27 rfl (lv_at hl 1 rfl) ?_
        refine g_X12_738 Cx hW (k := 231) (by decide) rfl (v := (S.1 231 100) + 1) ((gL13_ 100 rfl).trans (uF_on)) dX12_branchRow_28 ?_
        refine lv_iload hx hb dX12_branchRow_31 (lv_at hl 0 rfl) ?_
        refine sBi (sV (As := [.int (iv ((S.1 231 100) + 1)), .int (iv j)]) (rest := [.ref (G.2.2.1 + 283)]) (k := 231) Cx (s_X12_heldCell l G S13 (i := (S.1 231 100) + 1) (j := j) (by omega) (by omega)) (c_X12_735 Cx rfl rfl (rmk_ok (by omega) (by decide))) hW (by decide) rfl rfl rfl hl.1 rfl (Nat.le_of_ble_eq_true rfl) dX12_branchRow_33 ⟨Nat.le_of_ble_eq_true rfl, Nat.le_of_ble_eq_true rfl⟩) hL (fun q0 u_74 H locs k_75 hW hL => ?_)
        obtain ⟨eu_74, xu_74⟩ := k_75
        rw [eu_74] at hW
        refine lv_iconst (v := iv 0) hx hb dX12_branchRow_36 (by decide) ?_
        refine rIast Cx hW hL (k := 283) (by decide) rfl (by decide) (by omega) (by omega) dX12_branchRow_37 (fun H locs hW hL => ?_)
        have F_76 : Fr S (uA S13 283 q0 0) (pl [231, 277, 283]) := hFm13.A rfl
        have F_77 : Fr ((uF S 231 100 ((S.1 231 100) + 1))) (uA S13 283 q0 0) (pl [283]) := hL13_.A rfl
        have i_78 : dX G (uA S13 283 q0 0) := hI13.A (k := 283) (show (-2147483648) ≤ 0 ∧ 0 ≤ 2147483647 from ⟨by omega, by omega⟩)
        refine lv_iinc (v := iv (j + 1)) (lv' := [(4, .int (iv (j + 1))), (0, .ref (G.2.2.1 + 231)), (1, .int (iv k)), (2, .int (iv tk)), (3, .int (iv bb))]) hx hb dX12_branchRow_38 hl (k := 0) rfl ((Int32.ofInt_add _ _).symm) (by decide) rfl (fun ls hl => ?_)
        refine lv_goto (tgt := 13) hx hb dX12_branchRow_41 (by decide) ?_
        exact ih_13 (uA S13 283 q0 0) (j + 1) _ _ _ (by omega) i_78 F_76 F_77 hGm13 gL13_ (by omega) (dHf.put (f := S13.2.1 283) (a := (S.1 231 100 + 1)) (b := j) (P := q0) hB13 (by omega) (by omega) (by omega) (NO_z uA_on (by omega)) (fun x a => uA_ne (fun h => by have := h.2; omega))) hW hL (lv_sub hl [0, 1, 2, 3, 4] rfl)
  exact loop_13 (_ + 1) (uF S 231 100 ((S.1 231 100) + 1)) 0 _ _ _ (Nat.lt_succ_self _) i_4 F_2 Fr.rf g_3 FF.rf (by omega) (by rw [show (uF S 231 100 ((S.1 231 100) + 1)).2.1 283 = S.2.1 283 from (funext fun j => uF_a)]; exact hHA) hW hL (lv_sub hl [0, 1, 2, 3, 4] rfl)

set_option maxRecDepth 100000 in
set_option maxHeartbeats 4000000 in
theorem s_X12_isLong (l : Launch) (G : sG) (S : sS) {ka Nka : Nat} {po : Int} (hI : dX G S) (hika : ia ka Nka) (hR : 0 ≤ po ∧ po + 17 < Nka) (hA : NO (S.2.1 ka) po 17) : Met l yX12_isLong (.code yX12_isLong cX12_isLong 4 (some .boolean) :: tb) (rmk 3 0 0) (sPc G 294 S [.ref (G.2.2.1 + 231), .ref (G.2.2.1 + ka), .int (iv po)]) (sQi G 294 (fun r u => u = S ∧ ((0 ≤ r ∧ r ≤ 1) ∧ (r = 0 → al (S.2.1 ka) po ≤ 7)))) 0 0 (sF G) := by
  refine sEnter (by decide) (Nat.le_of_ble_eq_true rfl) ?_
  intro p e s m args below meth c Cx hr hlk hnm hW ls hl
  have Cx : sC G p m c cX12_isLong 4 s args RX12 := Cx
  obtain ⟨hx, hb, hml, hown, hts⟩ := id Cx.1
  have hL : sL G [] := sL_nil
  have hl : lv_has ls 4 [(0, .ref (G.2.2.1 + 231)), (1, .ref (G.2.2.1 + ka)), (2, .int (iv po))] := hl
  have hW0 := hW
  have hN := hika.2.2.2.1
  have hA1 := hA.b
  refine lv_aload_n hx hb dX12_isLong_0 rfl (lv_at hl 1 rfl) ?_
  refine lv_iload_n hx hb dX12_isLong_1 rfl (lv_at hl 2 rfl) ?_
  refine sBi (sSt (As := [.ref (G.2.2.1 + ka), .int (iv po)]) (rest := []) Cx (s_X12_limbs l G S (ka := ka) (po := po) (Nka := Nka) hI hika (by omega) (by omega)) (c_X12_221 Cx rfl rfl (rmk_ok (by omega) (by decide))) hW rfl hl.1 rfl (Nat.le_of_ble_eq_true rfl) dX12_isLong_2 ⟨Nat.le_of_ble_eq_true rfl, Nat.le_of_ble_eq_true rfl⟩) hL (fun r_3 u_1 H locs k_2 hW hL => ?_)
  obtain ⟨eu_1, xu_1⟩ := k_2
  rw [eu_1] at hW
  refine lv_istore_n (lv' := [(3, .int (iv r_3)), (0, .ref (G.2.2.1 + 231)), (1, .ref (G.2.2.1 + ka)), (2, .int (iv po))]) hx hb dX12_isLong_5 rfl hl (by decide) rfl (fun ls hl => ?_)
  refine lv_iload_n hx hb dX12_isLong_6 rfl (lv_at hl 0 rfl) ?_
  refine lv_bipush (v := iv 7) hx hb dX12_isLong_7 (by decide) ?_
  refine r_icmp_gt (tgt := 30) hx hb ⟨(by omega), (by omega)⟩ ⟨(by omega), (by omega)⟩ dX12_isLong_9 (by decide) (fun c_4 => ?_) (fun c_4 => ?_)
  · refine lv_iconst (v := iv 1) hx hb dX12_isLong_30 (by decide) ?_
    refine lv_goto (tgt := 35) hx hb dX12_isLong_31 (by decide) ?_
    exact sZret Cx hr hlk hW hL (by omega) ⟨rfl, (by omega)⟩ dX12_isLong_35
  · refine lv_iload_n hx hb dX12_isLong_12 rfl (lv_at hl 0 rfl) ?_
    refine lv_bipush (v := iv 7) hx hb dX12_isLong_13 (by decide) ?_
    refine r_icmp_ne (tgt := 34) hx hb ⟨(by omega), (by omega)⟩ ⟨(by omega), (by omega)⟩ dX12_isLong_15 (by decide) (fun c_5 => ?_) (fun c_5 => ?_)
    · refine lv_iconst (v := iv 0) hx hb dX12_isLong_34 (by decide) ?_
      exact sZret Cx hr hlk hW hL (by omega) ⟨rfl, (by omega)⟩ dX12_isLong_35
    · refine lv_aload_n hx hb dX12_isLong_18 rfl (lv_at hl 2 rfl) ?_
      refine lv_iload_n hx hb dX12_isLong_19 rfl (lv_at hl 3 rfl) ?_
      refine lv_bipush (v := iv 7) hx hb dX12_isLong_20 (by decide) ?_
      refine r_iadd hx hb dX12_isLong_22 ?_
      refine rIald Cx hW (k := ka) hika.lt hika.1 (by omega) (by omega) (by omega) dX12_isLong_23 ?_
      have q_6 : (-2147483648) ≤ S.2.1 ka (po + 7) ∧ S.2.1 ka (po + 7) ≤ 2147483647 := hI.aj hika.ge (po + 7)
      refine r_i (b := S.2.1 ka (po + 7)) rfl ?_
      refine lv_ldcw hx hb hown (hts _ w_2794) dX12_isLong_24 ?_
      refine r_icmp_lt (tgt := 34) hx hb ⟨(by omega), (by omega)⟩ ⟨(by omega), (by omega)⟩ dX12_isLong_27 (by decide) (fun c_7 => ?_) (fun c_7 => ?_)
      · refine lv_iconst (v := iv 0) hx hb dX12_isLong_34 (by decide) ?_
        exact sZret Cx hr hlk hW hL (by omega) ⟨rfl, (by omega)⟩ dX12_isLong_35
      · refine lv_iconst (v := iv 1) hx hb dX12_isLong_30 (by decide) ?_
        refine lv_goto (tgt := 35) hx hb dX12_isLong_31 (by decide) ?_
        exact sZret Cx hr hlk hW hL (by omega) ⟨rfl, (by omega)⟩ dX12_isLong_35

set_option maxRecDepth 100000 in
set_option maxHeartbeats 4000000 in
theorem s_X12_cutRow (l : Launch) (G : sG) (S : sS)  (hI : dX G S) (hm : 0 ≤ S.1 231 46 ∧ S.1 231 46 ≤ 12) (h100 : 0 ≤ S.1 231 100 ∧ S.1 231 100 ≤ 39) (hSM : dSM S) (hDV : dDV S) (hHA : dHA S) : Met l yX12_cutRow (.code yX12_cutRow cX12_cutRow 2 (some .boolean) :: tb) (rmk 6 0 0) (sPc G 294 S [.ref (G.2.2.1 + 231)]) (sQi G 294 (fun r u => dX G u ∧ Fr S u (pl [231, 233, 234, 235, 237, 240, 283]) ∧ FF S u (fl [100]) ∧ ((0 ≤ r ∧ r ≤ 1) ∧ (r = 1 → u.1 231 100 = S.1 231 100 + 1) ∧ (r = 0 → u.1 231 100 = S.1 231 100) ∧ dHA u))) 0 0 (sF G) := by
  refine sEnter (by decide) (Nat.le_of_ble_eq_true rfl) ?_
  intro p e s m args below meth c Cx hr hlk hnm hW ls hl
  have Cx : sC G p m c cX12_cutRow 2 s args RX12 := Cx
  obtain ⟨hx, hb, hml, hown, hts⟩ := id Cx.1
  have hL : sL G [] := sL_nil
  have hl : lv_has ls 2 [(0, .ref (G.2.2.1 + 231))] := hl
  have hW0 := hW
  refine lv_iconst (v := iv 0) hx hb dX12_cutRow_0 (by decide) ?_
  refine lv_istore_n (lv' := [(1, .int (iv 0)), (0, .ref (G.2.2.1 + 231))]) hx hb dX12_cutRow_1 rfl hl (by decide) rfl (fun ls hl => ?_)
  have loop_2 : ∀ (fuel : Nat) (S2 : sS) (j : Int) (H : Heap) (locs : List Loc) (ls : Array Slot), (S.1 231 46 + 1 - j).toNat < fuel → (dX G S2) → (Fr S S2 (pl [231, 233, 234, 235, 237, 240, 283])) → (Fr S S2 (pl [233, 234, 235, 237, 240, 283])) → (FF S S2 (fl [100])) → (FF S S2 (fl [])) → (0 ≤ j ∧ j ≤ S.1 231 46 + 1) → (dHf (S2.2.1 283)) → sW G 294 S2 H → sL G locs → lv_has ls 2 [(1, .int (iv j)), (0, .ref (G.2.2.1 + 231))] → W p l e (rmk 6 0 0) s m args below meth c H locs 0 0 (MQ below (sQi G 294 (fun r u => dX G u ∧ Fr S u (pl [231, 233, 234, 235, 237, 240, 283]) ∧ FF S u (fl [100]) ∧ ((0 ≤ r ∧ r ≤ 1) ∧ (r = 1 → u.1 231 100 = S.1 231 100 + 1) ∧ (r = 0 → u.1 231 100 = S.1 231 100) ∧ dHA u))) args s 0 0 (sF G)) (F0 m 2 ls []) := by
    intro fuel
    induction fuel with
    | zero => intro S2 j H locs ls hmeas hI2 hFm2 hL2_ hGm2 gL2_ hj hB2 hW hL hl; exact absurd hmeas (Nat.not_lt_zero _)
    | succ fuel ih_2 =>
      intro S2 j H locs ls hmeas hI2 hFm2 hL2_ hGm2 gL2_ hj hB2 hW hL hl
      refine lv_iload_n hx hb dX12_cutRow_2 rfl (lv_at hl 0 rfl) ?_
      refine lv_aload_n hx hb dX12_cutRow_3 rfl (lv_at hl 1 rfl) ?_
      have q_1 : (-2147483648) ≤ S.1 231 46 ∧ S.1 231 46 ≤ 2147483647 := hI.fi 46
      refine g_X12_465 Cx hW (k := 231) (by decide) rfl (v := S.1 231 46) (gL2_ 46 rfl) dX12_cutRow_4 ?_
      refine r_icmp_gt (tgt := 80) hx hb ⟨(by omega), (by omega)⟩ ⟨(by omega), (by omega)⟩ dX12_cutRow_7 (by decide) (fun c_2 => ?_) (fun c_2 => ?_)
      · refine lv_aload_n hx hb dX12_cutRow_80 rfl (lv_at hl 1 rfl) ?_
        refine lv_dup hx hb dX12_cutRow_81 rfl ?_
        have q_3 : (-2147483648) ≤ S.1 231 100 ∧ S.1 231 100 ≤ 2147483647 := hI.fi 100
        refine g_X12_738 Cx hW (k := 231) (by decide) rfl (v := S.1 231 100) (gL2_ 100 rfl) dX12_cutRow_82 ?_
        refine lv_iconst (v := iv 1) hx hb dX12_cutRow_85 (by decide) ?_
        refine r_iadd hx hb dX12_cutRow_86 ?_
        refine p_X12_738 Cx hW hL (k := 231) (by decide) rfl dX12_cutRow_87 (fun H locs hW hL => ?_)
        have F_4 : Fr S (uF S2 231 100 ((S.1 231 100) + 1)) (pl [231, 233, 234, 235, 237, 240, 283]) := hFm2.F rfl
        have g_5 : FF S (uF S2 231 100 ((S.1 231 100) + 1)) (fl [100]) := FF.F hGm2 rfl
        have i_6 : dX G (uF S2 231 100 ((S.1 231 100) + 1)) := hI2.F (i := 100) (show (-2147483648) ≤ (S.1 231 100) + 1 ∧ (S.1 231 100) + 1 ≤ 2147483647 from ⟨by omega, by omega⟩)
        refine lv_iconst (v := iv 1) hx hb dX12_cutRow_90 (by decide) ?_
        have lk_7 : (uF S2 231 100 ((S.1 231 100) + 1)).1 231 100 = (S.1 231 100) + 1 := uF_on
        exact sZret Cx hr hlk hW hL (by omega) ⟨i_6, F_4, g_5, ⟨(by omega), (by have y := (show (uF S2 231 100 ((S.1 231 100) + 1)).1 231 100 = (S.1 231 100) + 1 from uF_on); omega), (by have y := (show (uF S2 231 100 ((S.1 231 100) + 1)).1 231 100 = (S.1 231 100) + 1 from uF_on); omega), (show dHf ((uF S2 231 100 ((S.1 231 100) + 1)).2.1 283) from (by rw [show (uF S2 231 100 ((S.1 231 100) + 1)).2.1 283 = S2.2.1 283 from (funext fun j => uF_a)]; exact hB2))⟩⟩ dX12_cutRow_91
      · have hbp10 : 0 < S2.2.1 288 0 := by rw [show S2.2.1 288 = S.2.1 288 from (funext fun j => (hL2_ 288 rfl).2.1 j)]; exact hDV.1.sgn.2.1.mp hDV.2
        refine lv_aload_n hx hb dX12_cutRow_10 rfl (lv_at hl 1 rfl) ?_
        refine lv_aload_n hx hb dX12_cutRow_11 rfl (lv_at hl 1 rfl) ?_
        refine g_X12_172 Cx hW (k := 231) (by decide) rfl (v := .ref (G.2.2.1 + 284)) (rd_94 hI2) dX12_cutRow_12 ?_
        refine lv_bipush (v := iv 40) hx hb dX12_cutRow_15 (by decide) ?_
        refine lv_iload_n hx hb dX12_cutRow_17 rfl (lv_at hl 0 rfl) ?_
        refine r_imul hx hb dX12_cutRow_18 ?_
        refine lv_aload_n hx hb dX12_cutRow_19 rfl (lv_at hl 1 rfl) ?_
        refine g_X12_184 Cx hW (k := 231) (by decide) rfl (v := .ref (G.2.2.1 + 288)) (rd_98 hI2) dX12_cutRow_20 ?_
        refine lv_iconst (v := iv 0) hx hb dX12_cutRow_23 (by decide) ?_
        refine lv_aload_n hx hb dX12_cutRow_24 rfl (lv_at hl 1 rfl) ?_
        refine g_X12_26 Cx hW (k := 231) (by decide) rfl (v := .ref (G.2.2.1 + 237)) (rd_7 hI2) dX12_cutRow_25 ?_
        refine lv_iconst (v := iv 0) hx hb dX12_cutRow_28 (by decide) ?_
        refine lv_aload_n hx hb dX12_cutRow_29 rfl (lv_at hl 1 rfl) ?_
        refine g_X12_35 Cx hW (k := 231) (by decide) rfl (v := .ref (G.2.2.1 + 240)) (rd_10 hI2) dX12_cutRow_30 ?_
        refine lv_iconst (v := iv 0) hx hb dX12_cutRow_33 (by decide) ?_
        refine sBv (sV (As := [.ref (G.2.2.1 + 284), .int (iv (40 * j)), .ref (G.2.2.1 + 288), .int (iv 0), .ref (G.2.2.1 + 237), .int (iv 0), .ref (G.2.2.1 + 240), .int (iv 0)]) (rest := []) (k := 231) Cx (s_X12_divide l G S2 (ka := 284) (po := 40 * j) (kb := 288) (qo := 0) (kc := 237) (ro := 0) (kd := 240) (eo := 0) (Nka := 520) (Nkb := 10) (Nkc := 68) (Nkd := 68) (La := 16) (Lb := 7) (Ld := 8) hI2 ⟨rfl, by decide, by decide, by decide, rfl⟩ ⟨rfl, by decide, by decide, by decide, rfl⟩ ⟨rfl, by decide, by decide, by decide, rfl⟩ ⟨rfl, by decide, by decide, by decide, rfl⟩ (show (237 : Nat) ≠ 284 by decide) (show (240 : Nat) ≠ 284 by decide) (show (237 : Nat) ≠ 288 by decide) (show (240 : Nat) ≠ 288 by decide) (show (237 : Nat) ≠ 240 by decide) (show (284 : Nat) ≠ 233 by decide) (show (288 : Nat) ≠ 233 by decide) (show (288 : Nat) ≠ 234 by decide) (show (288 : Nat) ≠ 235 by decide) (show (237 : Nat) ≠ 233 by decide) (show (237 : Nat) ≠ 234 by decide) (show (237 : Nat) ≠ 235 by decide) (show (240 : Nat) ≠ 233 by decide) (show (240 : Nat) ≠ 234 by decide) (show (240 : Nat) ≠ 235 by decide) (by omega) (by omega) (by rw [show S2.2.1 284 = S.2.1 284 from (funext fun j => (hL2_ 284 rfl).2.1 j)]; exact hSM j (by omega) (by omega)) (by rw [show S2.2.1 288 = S.2.1 288 from (funext fun j => (hL2_ 288 rfl).2.1 j)]; exact hDV.1)) (c_X12_266 Cx rfl rfl (rmk_ok (by omega) (by decide))) hW (by decide) rfl rfl rfl hl.1 rfl (Nat.le_of_ble_eq_true rfl) dX12_cutRow_34 ⟨Nat.le_of_ble_eq_true rfl, Nat.le_of_ble_eq_true rfl⟩) hL (fun u_8 H locs k_9 hW hL => ?_)
        obtain ⟨iu_8, fu_8, xu_8⟩ := k_9
        have F_10 := hFm2.trans (fu_8.to (pl_sub (by decide)))
        have F_11 := hL2_.trans (fu_8.to (pl_sub (by decide)))
        have g_12 : FF S u_8 (fl [100]) := FF.fr hGm2 fu_8 rfl
        have g_13 : FF S u_8 (fl []) := FF.fr gL2_ fu_8 rfl
        refine lv_aload_n hx hb dX12_cutRow_37 rfl (lv_at hl 1 rfl) ?_
        refine lv_aload_n hx hb dX12_cutRow_38 rfl (lv_at hl 1 rfl) ?_
        refine g_X12_26 Cx hW (k := 231) (by decide) rfl (v := .ref (G.2.2.1 + 237)) (rd_7 iu_8) dX12_cutRow_39 ?_
        refine lv_iconst (v := iv 0) hx hb dX12_cutRow_42 (by decide) ?_
        refine sBi (sV (As := [.ref (G.2.2.1 + 237), .int (iv 0)]) (rest := []) (k := 231) Cx (s_X12_isLong l G u_8 (ka := 237) (po := 0) (Nka := 68) iu_8 ⟨rfl, by decide, by decide, by decide, rfl⟩ (by omega) xu_8.1) (c_X12_761 Cx rfl rfl (rmk_ok (by omega) (by decide))) hW (by decide) rfl rfl rfl hl.1 rfl (Nat.le_of_ble_eq_true rfl) dX12_cutRow_43 ⟨Nat.le_of_ble_eq_true rfl, Nat.le_of_ble_eq_true rfl⟩) hL (fun r_16 u_14 H locs k_15 hW hL => ?_)
        obtain ⟨eu_14, xu_14⟩ := k_15
        rw [eu_14] at hW
        refine r_if_eq (tgt := 51) hx hb ⟨(by omega), (by omega)⟩ dX12_cutRow_46 (by decide) (fun c_17 => ?_) (fun c_17 => ?_)
        · refine lv_aload_n hx hb dX12_cutRow_51 rfl (lv_at hl 1 rfl) ?_
          refine g_X12_26 Cx hW (k := 231) (by decide) rfl (v := .ref (G.2.2.1 + 237)) (rd_7 iu_8) dX12_cutRow_52 ?_
          refine lv_iconst (v := iv 0) hx hb dX12_cutRow_55 (by decide) ?_
          refine lv_aload_n hx hb dX12_cutRow_56 rfl (lv_at hl 1 rfl) ?_
          refine g_X12_169 Cx hW (k := 231) (by decide) rfl (v := .ref (G.2.2.1 + 283)) (rd_93 iu_8) dX12_cutRow_57 ?_
          refine lv_aload_n hx hb dX12_cutRow_60 rfl (lv_at hl 1 rfl) ?_
          refine lv_aload_n hx hb dX12_cutRow_61 rfl (lv_at hl 1 rfl) ?_
          have q_18 : (-2147483648) ≤ S.1 231 100 ∧ S.1 231 100 ≤ 2147483647 := hI.fi 100
          refine g_X12_738 Cx hW (k := 231) (by decide) rfl (v := S.1 231 100) (((fu_8 231 rfl).1 100).trans (gL2_ 100 rfl)) dX12_cutRow_62 ?_
          refine lv_iconst (v := iv 1) hx hb dX12_cutRow_65 (by decide) ?_
          refine r_iadd hx hb dX12_cutRow_66 ?_
          refine lv_iload_n hx hb dX12_cutRow_67 rfl (lv_at hl 0 rfl) ?_
          refine sBi (sV (As := [.int (iv ((S.1 231 100) + 1)), .int (iv j)]) (rest := [.ref (G.2.2.1 + 283), .int (iv 0), .ref (G.2.2.1 + 237)]) (k := 231) Cx (s_X12_heldCell l G u_8 (i := (S.1 231 100) + 1) (j := j) (by omega) (by omega)) (c_X12_735 Cx rfl rfl (rmk_ok (by omega) (by decide))) hW (by decide) rfl rfl rfl hl.1 rfl (Nat.le_of_ble_eq_true rfl) dX12_cutRow_68 ⟨Nat.le_of_ble_eq_true rfl, Nat.le_of_ble_eq_true rfl⟩) hL (fun q0 u_19 H locs k_20 hW hL => ?_)
          obtain ⟨eu_19, xu_19⟩ := k_20
          rw [eu_19] at hW
          refine sBv (sSt (As := [.ref (G.2.2.1 + 237), .int (iv 0), .ref (G.2.2.1 + 283), .int (iv q0)]) (rest := []) Cx (s_X12_copy l G u_8 (ka := 237) (po := 0) (kb := 283) (qo := q0) (Nka := 68) (Nkb := 5460) (La := 7) iu_8 ⟨rfl, by decide, by decide, by decide, rfl⟩ ⟨rfl, by decide, by decide, by decide, rfl⟩ (show (283 : Nat) ≠ 237 by decide) (by omega) ⟨(by omega), xu_8.1.2⟩) (c_X12_233 Cx rfl rfl (rmk_ok (by omega) (by decide))) hW rfl hl.1 rfl (Nat.le_of_ble_eq_true rfl) dX12_cutRow_71 ⟨Nat.le_of_ble_eq_true rfl, Nat.le_of_ble_eq_true rfl⟩) hL (fun u_21 H locs k_22 hW hL => ?_)
          obtain ⟨iu_21, fu_21, xu_21⟩ := k_22
          have F_23 := F_10.trans (fu_21.to (p1_sub rfl))
          have F_24 := F_11.trans (fu_21.to (p1_sub rfl))
          have g_25 : FF S u_21 (fl [100]) := FF.fr g_12 fu_21 rfl
          have g_26 : FF S u_21 (fl []) := FF.fr g_13 fu_21 rfl
          refine lv_iinc (v := iv (j + 1)) (lv' := [(1, .int (iv (j + 1))), (0, .ref (G.2.2.1 + 231))]) hx hb dX12_cutRow_74 hl (k := 0) rfl ((Int32.ofInt_add _ _).symm) (by decide) rfl (fun ls hl => ?_)
          refine lv_goto (tgt := 2) hx hb dX12_cutRow_77 (by decide) ?_
          exact ih_2 u_21 (j + 1) _ _ _ (by omega) iu_21 F_23 F_24 g_25 g_26 (by omega) (dHf.put (f := S2.2.1 283) (a := (S.1 231 100 + 1)) (b := j) (P := q0) hB2 (by omega) (by omega) (by omega) (xu_21.1.1.mono (by omega)) (fun x a => (xu_21.2 x (by omega)).trans ((fu_8 283 rfl).2.1 x))) hW hL (lv_sub hl [0, 1] rfl)
        · refine lv_iconst (v := iv 0) hx hb dX12_cutRow_49 (by decide) ?_
          have q_27 : (-2147483648) ≤ S.1 231 100 ∧ S.1 231 100 ≤ 2147483647 := hI.fi 100
          have lk_28 : u_8.1 231 100 = S.1 231 100 := ((fu_8 231 rfl).1 100).trans (gL2_ 100 rfl)
          exact sZret Cx hr hlk hW hL (by omega) ⟨iu_8, F_10, g_12, ⟨(by omega), (by have y := (show u_8.1 231 100 = S.1 231 100 from ((fu_8 231 rfl).1 100).trans (gL2_ 100 rfl)); omega), (by have y := (show u_8.1 231 100 = S.1 231 100 from ((fu_8 231 rfl).1 100).trans (gL2_ 100 rfl)); omega), (show dHf (u_8.2.1 283) from (by rw [show u_8.2.1 283 = S2.2.1 283 from (funext fun j => (fu_8 283 rfl).2.1 j)]; exact hB2))⟩⟩ dX12_cutRow_50
  exact loop_2 (_ + 1) S 0 _ _ _ (Nat.lt_succ_self _) hI (Fr.rf : Fr S S (pl [231, 233, 234, 235, 237, 240, 283])) Fr.rf FF.rf FF.rf (by omega) hHA hW hL (lv_sub hl [0, 1] rfl)

set_option maxRecDepth 100000 in
set_option maxHeartbeats 4000000 in
theorem s_X12_isFarkas (l : Launch) (G : sG) (S : sS)  (hI : dX G S) (hm : 0 ≤ S.1 231 46 ∧ S.1 231 46 ≤ 12) : Met l yX12_isFarkas (.code yX12_isFarkas cX12_isFarkas 2 (some .boolean) :: tb) (rmk 1 0 0) (sPc G 294 S [.ref (G.2.2.1 + 231)]) (sQi G 294 (fun r u => u = S ∧ (0 ≤ r ∧ r ≤ 1))) 0 0 (sF G) := by
  refine sEnter (by decide) (Nat.le_of_ble_eq_true rfl) ?_
  intro p e s m args below meth c Cx hr hlk hnm hW ls hl
  have Cx : sC G p m c cX12_isFarkas 2 s args RX12 := Cx
  obtain ⟨hx, hb, hml, hown, hts⟩ := id Cx.1
  have hL : sL G [] := sL_nil
  have hl : lv_has ls 2 [(0, .ref (G.2.2.1 + 231))] := hl
  have hW0 := hW
  refine lv_iconst (v := iv 1) hx hb dX12_isFarkas_0 (by decide) ?_
  refine lv_istore_n (lv' := [(1, .int (iv 1)), (0, .ref (G.2.2.1 + 231))]) hx hb dX12_isFarkas_1 rfl hl (by decide) rfl (fun ls hl => ?_)
  have loop_2 : ∀ (fuel : Nat) (j : Int) (H : Heap) (locs : List Loc) (ls : Array Slot), (S.1 231 46 + 1 - j).toNat < fuel → (1 ≤ j ∧ j ≤ S.1 231 46 + 1) → sW G 294 S H → sL G locs → lv_has ls 2 [(1, .int (iv j)), (0, .ref (G.2.2.1 + 231))] → W p l e (rmk 1 0 0) s m args below meth c H locs 0 0 (MQ below (sQi G 294 (fun r u => u = S ∧ (0 ≤ r ∧ r ≤ 1))) args s 0 0 (sF G)) (F0 m 2 ls []) := by
    intro fuel
    induction fuel with
    | zero => intro j H locs ls hmeas hj hW hL hl; exact absurd hmeas (Nat.not_lt_zero _)
    | succ fuel ih_2 =>
      intro j H locs ls hmeas hj hW hL hl
      refine lv_iload_n hx hb dX12_isFarkas_2 rfl (lv_at hl 0 rfl) ?_
      refine lv_aload_n hx hb dX12_isFarkas_3 rfl (lv_at hl 1 rfl) ?_
      have q_1 : (-2147483648) ≤ S.1 231 46 ∧ S.1 231 46 ≤ 2147483647 := hI.fi 46
      refine g_X12_465 Cx hW (k := 231) (by decide) rfl (v := S.1 231 46) rfl dX12_isFarkas_4 ?_
      refine r_icmp_gt (tgt := 30) hx hb ⟨(by omega), (by omega)⟩ ⟨(by omega), (by omega)⟩ dX12_isFarkas_7 (by decide) (fun c_2 => ?_) (fun c_2 => ?_)
      · refine lv_aload_n hx hb dX12_isFarkas_30 rfl (lv_at hl 1 rfl) ?_
        refine g_X12_172 Cx hW (k := 231) (by decide) rfl (v := .ref (G.2.2.1 + 284)) (rd_94 hI) dX12_isFarkas_31 ?_
        refine lv_iconst (v := iv 0) hx hb dX12_isFarkas_34 (by decide) ?_
        refine rIald Cx hW (k := 284) (by decide) rfl (by decide) (by omega) (by omega) dX12_isFarkas_35 ?_
        have q_3 : (-2147483648) ≤ S.2.1 284 0 ∧ S.2.1 284 0 ≤ 2147483647 := hI.ai 284 0
        refine r_i (b := S.2.1 284 0) rfl ?_
        refine r_if_ge (tgt := 43) hx hb ⟨(by omega), (by omega)⟩ dX12_isFarkas_36 (by decide) (fun c_4 => ?_) (fun c_4 => ?_)
        · refine lv_iconst (v := iv 0) hx hb dX12_isFarkas_43 (by decide) ?_
          exact sZret Cx hr hlk hW hL (by omega) ⟨rfl, (by omega)⟩ dX12_isFarkas_44
        · refine lv_iconst (v := iv 1) hx hb dX12_isFarkas_39 (by decide) ?_
          refine lv_goto (tgt := 44) hx hb dX12_isFarkas_40 (by decide) ?_
          exact sZret Cx hr hlk hW hL (by omega) ⟨rfl, (by omega)⟩ dX12_isFarkas_44
      · refine lv_aload_n hx hb dX12_isFarkas_10 rfl (lv_at hl 1 rfl) ?_
        refine g_X12_172 Cx hW (k := 231) (by decide) rfl (v := .ref (G.2.2.1 + 284)) (rd_94 hI) dX12_isFarkas_11 ?_
        refine lv_bipush (v := iv 40) hx hb dX12_isFarkas_14 (by decide) ?_
        refine lv_iload_n hx hb dX12_isFarkas_16 rfl (lv_at hl 0 rfl) ?_
        refine r_imul hx hb dX12_isFarkas_17 ?_
        refine rIald Cx hW (k := 284) (by decide) rfl (by decide) (by omega) (by omega) dX12_isFarkas_18 ?_
        have q_5 : (-2147483648) ≤ S.2.1 284 (40 * j) ∧ S.2.1 284 (40 * j) ≤ 2147483647 := hI.ai 284 (40 * j)
        refine r_i (b := S.2.1 284 (40 * j)) rfl ?_
        refine r_if_ge (tgt := 24) hx hb ⟨(by omega), (by omega)⟩ dX12_isFarkas_19 (by decide) (fun c_6 => ?_) (fun c_6 => ?_)
        · refine lv_iinc (v := iv (j + 1)) (lv' := [(1, .int (iv (j + 1))), (0, .ref (G.2.2.1 + 231))]) hx hb dX12_isFarkas_24 hl (k := 0) rfl ((Int32.ofInt_add _ _).symm) (by decide) rfl (fun ls hl => ?_)
          refine lv_goto (tgt := 2) hx hb dX12_isFarkas_27 (by decide) ?_
          exact ih_2 (j + 1) _ _ _ (by omega) (by omega) hW hL (lv_sub hl [0, 1] rfl)
        · refine lv_iconst (v := iv 0) hx hb dX12_isFarkas_22 (by decide) ?_
          exact sZret Cx hr hlk hW hL (by omega) ⟨rfl, (by omega)⟩ dX12_isFarkas_23
  exact loop_2 (_ + 1) 1 _ _ _ (Nat.lt_succ_self _) (by omega) hW hL (lv_sub hl [0, 1] rfl)

set_option maxRecDepth 100000 in
set_option maxHeartbeats 4000000 in
theorem s_X12_isBound (l : Launch) (G : sG) (S : sS)  (hI : dX G S) (hm : 0 ≤ S.1 231 46 ∧ S.1 231 46 ≤ 12) (hSM : dSM S) (hDV : dDV S) (hUP : dUP S) (hGM : GM S) (hMD : MD S) : Met l yX12_isBound (.code yX12_isBound cX12_isBound 2 (some .boolean) :: tb) (rmk 6 0 0) (sPc G 294 S [.ref (G.2.2.1 + 231)]) (sQi G 294 (fun r u => dX G u ∧ Fr S u (pl [233, 234, 235, 237, 238, 240, 277, 284]) ∧ FF S u (fl []) ∧ (0 ≤ r ∧ r ≤ 1))) 0 0 (sF G) := by
  refine sEnter (by decide) (Nat.le_of_ble_eq_true rfl) ?_
  intro p e s m args below meth c Cx hr hlk hnm hW ls hl
  have Cx : sC G p m c cX12_isBound 2 s args RX12 := Cx
  obtain ⟨hx, hb, hml, hown, hts⟩ := id Cx.1
  have hL : sL G [] := sL_nil
  have hl : lv_has ls 2 [(0, .ref (G.2.2.1 + 231))] := hl
  have hW0 := hW
  refine lv_iconst (v := iv 1) hx hb dX12_isBound_0 (by decide) ?_
  refine lv_istore_n (lv' := [(1, .int (iv 1)), (0, .ref (G.2.2.1 + 231))]) hx hb dX12_isBound_1 rfl hl (by decide) rfl (fun ls hl => ?_)
  have loop_2 : ∀ (fuel : Nat) (S2 : sS) (j : Int) (H : Heap) (locs : List Loc) (ls : Array Slot), (S.1 231 46 + 1 - j).toNat < fuel → (dX G S2) → (Fr S S2 (pl [233, 234, 235, 237, 238, 240, 277, 284])) → (Fr S S2 (pl [237, 277])) → (FF S S2 (fl [])) → (FF S S2 (fl [])) → (1 ≤ j ∧ j ≤ S.1 231 46 + 1) → sW G 294 S2 H → sL G locs → lv_has ls 2 [(1, .int (iv j)), (0, .ref (G.2.2.1 + 231))] → W p l e (rmk 6 0 0) s m args below meth c H locs 0 0 (MQ below (sQi G 294 (fun r u => dX G u ∧ Fr S u (pl [233, 234, 235, 237, 238, 240, 277, 284]) ∧ FF S u (fl []) ∧ (0 ≤ r ∧ r ≤ 1))) args s 0 0 (sF G)) (F0 m 2 ls []) := by
    intro fuel
    induction fuel with
    | zero => intro S2 j H locs ls hmeas hI2 hFm2 hL2_ hGm2 gL2_ hj hW hL hl; exact absurd hmeas (Nat.not_lt_zero _)
    | succ fuel ih_2 =>
      intro S2 j H locs ls hmeas hI2 hFm2 hL2_ hGm2 gL2_ hj hW hL hl
      refine lv_iload_n hx hb dX12_isBound_2 rfl (lv_at hl 0 rfl) ?_
      refine lv_aload_n hx hb dX12_isBound_3 rfl (lv_at hl 1 rfl) ?_
      have q_1 : (-2147483648) ≤ S.1 231 46 ∧ S.1 231 46 ≤ 2147483647 := hI.fi 46
      refine g_X12_465 Cx hW (k := 231) (by decide) rfl (v := S.1 231 46) (gL2_ 46 rfl) dX12_isBound_4 ?_
      refine r_icmp_gt (tgt := 69) hx hb ⟨(by omega), (by omega)⟩ ⟨(by omega), (by omega)⟩ dX12_isBound_7 (by decide) (fun c_2 => ?_) (fun c_2 => ?_)
      · refine lv_aload_n hx hb dX12_isBound_69 rfl (lv_at hl 1 rfl) ?_
        refine g_X12_151 Cx hW (k := 231) (by decide) rfl (v := .ref (G.2.2.1 + 277)) (rd_87 hI2) dX12_isBound_70 ?_
        refine lv_iconst (v := iv 0) hx hb dX12_isBound_73 (by decide) ?_
        have hgv := hGM.1 0
        refine lv_aload_n hx hb dX12_isBound_74 rfl (lv_at hl 1 rfl) ?_
        refine g_X12_97 Cx hW (k := 231) (by decide) rfl (v := .ref (G.2.2.1 + 260)) (rd_51 hI2) dX12_isBound_75 ?_
        refine lv_iconst (v := iv 0) hx hb dX12_isBound_78 (by decide) ?_
        refine rLald Cx hW (k := 260) (by decide) rfl (by decide) (by omega) (by omega) dX12_isBound_79 ?_
        have q_3 : -9223372036854775808 ≤ S.2.2.1 260 0 ∧ S.2.2.1 260 0 ≤ 9223372036854775807 := hI.li 260 0
        refine r_j (b := S.2.2.1 260 0) ((hL2_ 260 rfl).2.2.1 0) ?_
        refine sBv (sSt (As := [.ref (G.2.2.1 + 277), .int (iv 0), .long (jv (S.2.2.1 260 0))]) (rest := []) Cx (s_X12_put l G S2 (ka := 277) (po := 0) (v := S.2.2.1 260 0) (Nka := 4) hI2 ⟨rfl, by decide, by decide, by decide, rfl⟩ (by omega) (by omega)) (c_X12_241 Cx rfl rfl (rmk_ok (by omega) (by decide))) hW rfl hl.1 rfl (Nat.le_of_ble_eq_true rfl) dX12_isBound_80 ⟨Nat.le_of_ble_eq_true rfl, Nat.le_of_ble_eq_true rfl⟩) hL (fun u_4 H locs k_5 hW hL => ?_)
        obtain ⟨iu_4, fu_4, xu_4⟩ := k_5
        have F_6 := hFm2.trans (fu_4.to (p1_sub rfl))
        have F_7 := hL2_.trans (fu_4.to (p1_sub rfl))
        have g_8 : FF S u_4 (fl []) := FF.fr hGm2 fu_4 rfl
        have g_9 : FF S u_4 (fl []) := FF.fr gL2_ fu_4 rfl
        refine lv_aload_n hx hb dX12_isBound_83 rfl (lv_at hl 1 rfl) ?_
        refine g_X12_184 Cx hW (k := 231) (by decide) rfl (v := .ref (G.2.2.1 + 288)) (rd_98 iu_4) dX12_isBound_84 ?_
        refine lv_iconst (v := iv 0) hx hb dX12_isBound_87 (by decide) ?_
        refine lv_aload_n hx hb dX12_isBound_88 rfl (lv_at hl 1 rfl) ?_
        refine g_X12_151 Cx hW (k := 231) (by decide) rfl (v := .ref (G.2.2.1 + 277)) (rd_87 iu_4) dX12_isBound_89 ?_
        refine lv_iconst (v := iv 0) hx hb dX12_isBound_92 (by decide) ?_
        refine lv_aload_n hx hb dX12_isBound_93 rfl (lv_at hl 1 rfl) ?_
        refine g_X12_26 Cx hW (k := 231) (by decide) rfl (v := .ref (G.2.2.1 + 237)) (rd_7 iu_4) dX12_isBound_94 ?_
        refine lv_iconst (v := iv 0) hx hb dX12_isBound_97 (by decide) ?_
        refine sBv (sSt (As := [.ref (G.2.2.1 + 288), .int (iv 0), .ref (G.2.2.1 + 277), .int (iv 0), .ref (G.2.2.1 + 237), .int (iv 0)]) (rest := []) Cx (s_X12_multiply l G u_4 (ka := 288) (po := 0) (kb := 277) (qo := 0) (kc := 237) (ro := 0) (Nka := 10) (Nkb := 4) (Nkc := 68) (La := 7) (Lb := 3) iu_4 ⟨rfl, by decide, by decide, by decide, rfl⟩ ⟨rfl, by decide, by decide, by decide, rfl⟩ ⟨rfl, by decide, by decide, by decide, rfl⟩ (show (237 : Nat) ≠ 277 by decide) (show (237 : Nat) ≠ 288 by decide) (by omega) (by rw [show u_4.2.1 288 = S.2.1 288 from (funext fun j => ((fu_4 288 rfl).2.1 j).trans ((hL2_ 288 rfl).2.1 j))]; exact hDV.1) xu_4.1) (c_X12_548 Cx rfl rfl (rmk_ok (by omega) (by decide))) hW rfl hl.1 rfl (Nat.le_of_ble_eq_true rfl) dX12_isBound_98 ⟨Nat.le_of_ble_eq_true rfl, Nat.le_of_ble_eq_true rfl⟩) hL (fun u_10 H locs k_11 hW hL => ?_)
        obtain ⟨iu_10, fu_10, xu_10⟩ := k_11
        have F_12 := F_6.trans (fu_10.to (p1_sub rfl))
        have F_13 := F_7.trans (fu_10.to (p1_sub rfl))
        have g_14 : FF S u_10 (fl []) := FF.fr g_8 fu_10 rfl
        have g_15 : FF S u_10 (fl []) := FF.fr g_9 fu_10 rfl
        refine lv_aload_n hx hb dX12_isBound_101 rfl (lv_at hl 1 rfl) ?_
        refine g_X12_172 Cx hW (k := 231) (by decide) rfl (v := .ref (G.2.2.1 + 284)) (rd_94 iu_10) dX12_isBound_102 ?_
        refine lv_iconst (v := iv 0) hx hb dX12_isBound_105 (by decide) ?_
        refine lv_aload_n hx hb dX12_isBound_106 rfl (lv_at hl 1 rfl) ?_
        refine g_X12_26 Cx hW (k := 231) (by decide) rfl (v := .ref (G.2.2.1 + 237)) (rd_7 iu_10) dX12_isBound_107 ?_
        refine lv_iconst (v := iv 0) hx hb dX12_isBound_110 (by decide) ?_
        refine lv_iconst (v := iv 0) hx hb dX12_isBound_111 (by decide) ?_
        refine lv_aload_n hx hb dX12_isBound_112 rfl (lv_at hl 1 rfl) ?_
        refine g_X12_172 Cx hW (k := 231) (by decide) rfl (v := .ref (G.2.2.1 + 284)) (rd_94 iu_10) dX12_isBound_113 ?_
        refine lv_iconst (v := iv 0) hx hb dX12_isBound_116 (by decide) ?_
        refine sBv (sSt (As := [.ref (G.2.2.1 + 284), .int (iv 0), .ref (G.2.2.1 + 237), .int (iv 0), .int (iv 0), .ref (G.2.2.1 + 284), .int (iv 0)]) (rest := []) Cx (s_X12_add l G u_10 (ka := 284) (po := 0) (kb := 237) (qo := 0) (lz := 0) (kc := 284) (ro := 0) (Nka := 520) (Nkb := 68) (Nkc := 520) (La := 16) (Lb := 10) (Lc := 17) iu_10 ⟨rfl, by decide, by decide, by decide, rfl⟩ ⟨rfl, by decide, by decide, by decide, rfl⟩ ⟨rfl, by decide, by decide, by decide, rfl⟩ (show (284 : Nat) ≠ 237 by decide) (fun _ => rfl) (by omega) (by omega) (by rw [show u_10.2.1 284 = S.2.1 284 from (funext fun j => ((fu_10 284 rfl).2.1 j).trans (((fu_4 284 rfl).2.1 j).trans ((hL2_ 284 rfl).2.1 j)))]; exact hSM 0 (by omega) (by omega)) xu_10.1) (c_X12_249 Cx rfl rfl (rmk_ok (by omega) (by decide))) hW rfl hl.1 rfl (Nat.le_of_ble_eq_true rfl) dX12_isBound_117 ⟨Nat.le_of_ble_eq_true rfl, Nat.le_of_ble_eq_true rfl⟩) hL (fun u_16 H locs k_17 hW hL => ?_)
        obtain ⟨iu_16, fu_16, xu_16⟩ := k_17
        have F_18 := F_12.trans (fu_16.to (p1_sub rfl))
        have g_19 : FF S u_16 (fl []) := FF.fr g_14 fu_16 rfl
        have g_20 : FF S u_16 (fl []) := FF.fr g_15 fu_16 rfl
        refine lv_aload_n hx hb dX12_isBound_120 rfl (lv_at hl 1 rfl) ?_
        refine sBi (sV (As := []) (rest := []) (k := 231) Cx (s_X12_isWholeGoal l G u_16  iu_16 (MD.sm (S := S) (u := u_16) hMD (((fu_16 231 rfl).1 46).trans (((fu_10 231 rfl).1 46).trans (((fu_4 231 rfl).1 46).trans (gL2_ 46 rfl)))) (((fu_16 231 rfl).1 47).trans (((fu_10 231 rfl).1 47).trans (((fu_4 231 rfl).1 47).trans (gL2_ 47 rfl)))) (((fu_16 231 rfl).1 63).trans (((fu_10 231 rfl).1 63).trans (((fu_4 231 rfl).1 63).trans (gL2_ 63 rfl)))))) (c_X12_628 Cx rfl rfl (rmk_ok (by omega) (by decide))) hW (by decide) rfl rfl rfl hl.1 rfl (Nat.le_of_ble_eq_true rfl) dX12_isBound_121 ⟨Nat.le_of_ble_eq_true rfl, Nat.le_of_ble_eq_true rfl⟩) hL (fun r_23 u_21 H locs k_22 hW hL => ?_)
        obtain ⟨eu_21, xu_21⟩ := k_22
        rw [eu_21] at hW
        refine r_if_eq (tgt := 191) hx hb ⟨(by omega), (by omega)⟩ dX12_isBound_124 (by decide) (fun c_24 => ?_) (fun c_24 => ?_)
        · refine lv_aload_n hx hb dX12_isBound_191 rfl (lv_at hl 1 rfl) ?_
          refine g_X12_172 Cx hW (k := 231) (by decide) rfl (v := .ref (G.2.2.1 + 284)) (rd_94 iu_16) dX12_isBound_192 ?_
          refine lv_iconst (v := iv 0) hx hb dX12_isBound_195 (by decide) ?_
          refine lv_aload_n hx hb dX12_isBound_196 rfl (lv_at hl 1 rfl) ?_
          refine g_X12_181 Cx hW (k := 231) (by decide) rfl (v := .ref (G.2.2.1 + 287)) (rd_97 iu_16) dX12_isBound_197 ?_
          refine lv_iconst (v := iv 0) hx hb dX12_isBound_200 (by decide) ?_
          refine lv_aload_n hx hb dX12_isBound_201 rfl (lv_at hl 1 rfl) ?_
          refine g_X12_26 Cx hW (k := 231) (by decide) rfl (v := .ref (G.2.2.1 + 237)) (rd_7 iu_16) dX12_isBound_202 ?_
          refine lv_iconst (v := iv 0) hx hb dX12_isBound_205 (by decide) ?_
          refine sBv (sSt (As := [.ref (G.2.2.1 + 284), .int (iv 0), .ref (G.2.2.1 + 287), .int (iv 0), .ref (G.2.2.1 + 237), .int (iv 0)]) (rest := []) Cx (s_X12_multiply l G u_16 (ka := 284) (po := 0) (kb := 287) (qo := 0) (kc := 237) (ro := 0) (Nka := 520) (Nkb := 10) (Nkc := 68) (La := 17) (Lb := 7) iu_16 ⟨rfl, by decide, by decide, by decide, rfl⟩ ⟨rfl, by decide, by decide, by decide, rfl⟩ ⟨rfl, by decide, by decide, by decide, rfl⟩ (show (237 : Nat) ≠ 287 by decide) (show (237 : Nat) ≠ 284 by decide) (by omega) xu_16.1 (by rw [show u_16.2.1 287 = S.2.1 287 from (funext fun j => ((fu_16 287 rfl).2.1 j).trans (((fu_10 287 rfl).2.1 j).trans (((fu_4 287 rfl).2.1 j).trans ((hL2_ 287 rfl).2.1 j))))]; exact hUP.2)) (c_X12_548 Cx rfl rfl (rmk_ok (by omega) (by decide))) hW rfl hl.1 rfl (Nat.le_of_ble_eq_true rfl) dX12_isBound_206 ⟨Nat.le_of_ble_eq_true rfl, Nat.le_of_ble_eq_true rfl⟩) hL (fun u_25 H locs k_26 hW hL => ?_)
          obtain ⟨iu_25, fu_25, xu_25⟩ := k_26
          have F_27 := F_18.trans (fu_25.to (p1_sub rfl))
          have g_28 : FF S u_25 (fl []) := FF.fr g_19 fu_25 rfl
          have g_29 : FF S u_25 (fl []) := FF.fr g_20 fu_25 rfl
          refine lv_aload_n hx hb dX12_isBound_209 rfl (lv_at hl 1 rfl) ?_
          refine g_X12_178 Cx hW (k := 231) (by decide) rfl (v := .ref (G.2.2.1 + 286)) (rd_96 iu_25) dX12_isBound_210 ?_
          refine lv_iconst (v := iv 0) hx hb dX12_isBound_213 (by decide) ?_
          refine lv_aload_n hx hb dX12_isBound_214 rfl (lv_at hl 1 rfl) ?_
          refine g_X12_184 Cx hW (k := 231) (by decide) rfl (v := .ref (G.2.2.1 + 288)) (rd_98 iu_25) dX12_isBound_215 ?_
          refine lv_iconst (v := iv 0) hx hb dX12_isBound_218 (by decide) ?_
          refine lv_aload_n hx hb dX12_isBound_219 rfl (lv_at hl 1 rfl) ?_
          refine g_X12_29 Cx hW (k := 231) (by decide) rfl (v := .ref (G.2.2.1 + 238)) (rd_8 iu_25) dX12_isBound_220 ?_
          refine lv_iconst (v := iv 0) hx hb dX12_isBound_223 (by decide) ?_
          refine sBv (sSt (As := [.ref (G.2.2.1 + 286), .int (iv 0), .ref (G.2.2.1 + 288), .int (iv 0), .ref (G.2.2.1 + 238), .int (iv 0)]) (rest := []) Cx (s_X12_multiply l G u_25 (ka := 286) (po := 0) (kb := 288) (qo := 0) (kc := 238) (ro := 0) (Nka := 10) (Nkb := 10) (Nkc := 68) (La := 7) (Lb := 7) iu_25 ⟨rfl, by decide, by decide, by decide, rfl⟩ ⟨rfl, by decide, by decide, by decide, rfl⟩ ⟨rfl, by decide, by decide, by decide, rfl⟩ (show (238 : Nat) ≠ 288 by decide) (show (238 : Nat) ≠ 286 by decide) (by omega) (by rw [show u_25.2.1 286 = S.2.1 286 from (funext fun j => ((fu_25 286 rfl).2.1 j).trans (((fu_16 286 rfl).2.1 j).trans (((fu_10 286 rfl).2.1 j).trans (((fu_4 286 rfl).2.1 j).trans ((hL2_ 286 rfl).2.1 j)))))]; exact hUP.1) (by rw [show u_25.2.1 288 = S.2.1 288 from (funext fun j => ((fu_25 288 rfl).2.1 j).trans (((fu_16 288 rfl).2.1 j).trans (((fu_10 288 rfl).2.1 j).trans (((fu_4 288 rfl).2.1 j).trans ((hL2_ 288 rfl).2.1 j)))))]; exact hDV.1)) (c_X12_548 Cx rfl rfl (rmk_ok (by omega) (by decide))) hW rfl hl.1 rfl (Nat.le_of_ble_eq_true rfl) dX12_isBound_224 ⟨Nat.le_of_ble_eq_true rfl, Nat.le_of_ble_eq_true rfl⟩) hL (fun u_30 H locs k_31 hW hL => ?_)
          obtain ⟨iu_30, fu_30, xu_30⟩ := k_31
          have F_32 := F_27.trans (fu_30.to (p1_sub rfl))
          have g_33 : FF S u_30 (fl []) := FF.fr g_28 fu_30 rfl
          have g_34 : FF S u_30 (fl []) := FF.fr g_29 fu_30 rfl
          refine lv_aload_n hx hb dX12_isBound_227 rfl (lv_at hl 1 rfl) ?_
          refine g_X12_26 Cx hW (k := 231) (by decide) rfl (v := .ref (G.2.2.1 + 237)) (rd_7 iu_30) dX12_isBound_228 ?_
          refine lv_iconst (v := iv 0) hx hb dX12_isBound_231 (by decide) ?_
          refine lv_aload_n hx hb dX12_isBound_232 rfl (lv_at hl 1 rfl) ?_
          refine g_X12_29 Cx hW (k := 231) (by decide) rfl (v := .ref (G.2.2.1 + 238)) (rd_8 iu_30) dX12_isBound_233 ?_
          refine lv_iconst (v := iv 0) hx hb dX12_isBound_236 (by decide) ?_
          refine sBi (sSt (As := [.ref (G.2.2.1 + 237), .int (iv 0), .ref (G.2.2.1 + 238), .int (iv 0)]) (rest := []) Cx (s_X12_compare l G u_30 (ka := 237) (po := 0) (kb := 238) (qo := 0) (Nka := 68) (Nkb := 68) (La := 24) (Lb := 14) iu_30 ⟨rfl, by decide, by decide, by decide, rfl⟩ ⟨rfl, by decide, by decide, by decide, rfl⟩ (by omega) (by rw [show u_30.2.1 237 = u_25.2.1 237 from (funext fun j => (fu_30 237 rfl).2.1 j)]; exact xu_25.1) xu_30.1) (c_X12_552 Cx rfl rfl (rmk_ok (by omega) (by decide))) hW rfl hl.1 rfl (Nat.le_of_ble_eq_true rfl) dX12_isBound_237 ⟨Nat.le_of_ble_eq_true rfl, Nat.le_of_ble_eq_true rfl⟩) hL (fun r_37 u_35 H locs k_36 hW hL => ?_)
          obtain ⟨eu_35, xu_35⟩ := k_36
          rw [eu_35] at hW
          have yu_35 := xu_35.2
          unfold Hd at yu_35
          refine r_if_gt (tgt := 247) hx hb ⟨(by omega), (by omega)⟩ dX12_isBound_240 (by decide) (fun c_38 => ?_) (fun c_38 => ?_)
          · refine lv_iconst (v := iv 0) hx hb dX12_isBound_247 (by decide) ?_
            exact sZret Cx hr hlk hW hL (by omega) ⟨iu_30, F_32, g_33, (by omega)⟩ dX12_isBound_248
          · refine lv_iconst (v := iv 1) hx hb dX12_isBound_243 (by decide) ?_
            refine lv_goto (tgt := 248) hx hb dX12_isBound_244 (by decide) ?_
            exact sZret Cx hr hlk hW hL (by omega) ⟨iu_30, F_32, g_33, (by omega)⟩ dX12_isBound_248
        · have hbp127 : 0 < u_16.2.1 288 0 := by rw [show u_16.2.1 288 = S.2.1 288 from (funext fun j => ((fu_16 288 rfl).2.1 j).trans (((fu_10 288 rfl).2.1 j).trans (((fu_4 288 rfl).2.1 j).trans ((hL2_ 288 rfl).2.1 j))))]; exact hDV.1.sgn.2.1.mp hDV.2
          refine lv_aload_n hx hb dX12_isBound_127 rfl (lv_at hl 1 rfl) ?_
          refine lv_aload_n hx hb dX12_isBound_128 rfl (lv_at hl 1 rfl) ?_
          refine g_X12_172 Cx hW (k := 231) (by decide) rfl (v := .ref (G.2.2.1 + 284)) (rd_94 iu_16) dX12_isBound_129 ?_
          refine lv_iconst (v := iv 0) hx hb dX12_isBound_132 (by decide) ?_
          refine lv_aload_n hx hb dX12_isBound_133 rfl (lv_at hl 1 rfl) ?_
          refine g_X12_184 Cx hW (k := 231) (by decide) rfl (v := .ref (G.2.2.1 + 288)) (rd_98 iu_16) dX12_isBound_134 ?_
          refine lv_iconst (v := iv 0) hx hb dX12_isBound_137 (by decide) ?_
          refine lv_aload_n hx hb dX12_isBound_138 rfl (lv_at hl 1 rfl) ?_
          refine g_X12_29 Cx hW (k := 231) (by decide) rfl (v := .ref (G.2.2.1 + 238)) (rd_8 iu_16) dX12_isBound_139 ?_
          refine lv_iconst (v := iv 0) hx hb dX12_isBound_142 (by decide) ?_
          refine lv_aload_n hx hb dX12_isBound_143 rfl (lv_at hl 1 rfl) ?_
          refine g_X12_35 Cx hW (k := 231) (by decide) rfl (v := .ref (G.2.2.1 + 240)) (rd_10 iu_16) dX12_isBound_144 ?_
          refine lv_iconst (v := iv 0) hx hb dX12_isBound_147 (by decide) ?_
          refine sBv (sV (As := [.ref (G.2.2.1 + 284), .int (iv 0), .ref (G.2.2.1 + 288), .int (iv 0), .ref (G.2.2.1 + 238), .int (iv 0), .ref (G.2.2.1 + 240), .int (iv 0)]) (rest := []) (k := 231) Cx (s_X12_divide l G u_16 (ka := 284) (po := 0) (kb := 288) (qo := 0) (kc := 238) (ro := 0) (kd := 240) (eo := 0) (Nka := 520) (Nkb := 10) (Nkc := 68) (Nkd := 68) (La := 17) (Lb := 7) (Ld := 8) iu_16 ⟨rfl, by decide, by decide, by decide, rfl⟩ ⟨rfl, by decide, by decide, by decide, rfl⟩ ⟨rfl, by decide, by decide, by decide, rfl⟩ ⟨rfl, by decide, by decide, by decide, rfl⟩ (show (238 : Nat) ≠ 284 by decide) (show (240 : Nat) ≠ 284 by decide) (show (238 : Nat) ≠ 288 by decide) (show (240 : Nat) ≠ 288 by decide) (show (238 : Nat) ≠ 240 by decide) (show (284 : Nat) ≠ 233 by decide) (show (288 : Nat) ≠ 233 by decide) (show (288 : Nat) ≠ 234 by decide) (show (288 : Nat) ≠ 235 by decide) (show (238 : Nat) ≠ 233 by decide) (show (238 : Nat) ≠ 234 by decide) (show (238 : Nat) ≠ 235 by decide) (show (240 : Nat) ≠ 233 by decide) (show (240 : Nat) ≠ 234 by decide) (show (240 : Nat) ≠ 235 by decide) (by omega) (by omega) xu_16.1 (by rw [show u_16.2.1 288 = S.2.1 288 from (funext fun j => ((fu_16 288 rfl).2.1 j).trans (((fu_10 288 rfl).2.1 j).trans (((fu_4 288 rfl).2.1 j).trans ((hL2_ 288 rfl).2.1 j))))]; exact hDV.1)) (c_X12_266 Cx rfl rfl (rmk_ok (by omega) (by decide))) hW (by decide) rfl rfl rfl hl.1 rfl (Nat.le_of_ble_eq_true rfl) dX12_isBound_148 ⟨Nat.le_of_ble_eq_true rfl, Nat.le_of_ble_eq_true rfl⟩) hL (fun u_39 H locs k_40 hW hL => ?_)
          obtain ⟨iu_39, fu_39, xu_39⟩ := k_40
          have F_41 := F_18.trans (fu_39.to (pl_sub (by decide)))
          have g_42 : FF S u_39 (fl []) := FF.fr g_19 fu_39 rfl
          have g_43 : FF S u_39 (fl []) := FF.fr g_20 fu_39 rfl
          refine lv_aload_n hx hb dX12_isBound_151 rfl (lv_at hl 1 rfl) ?_
          refine g_X12_29 Cx hW (k := 231) (by decide) rfl (v := .ref (G.2.2.1 + 238)) (rd_8 iu_39) dX12_isBound_152 ?_
          refine lv_iconst (v := iv 0) hx hb dX12_isBound_155 (by decide) ?_
          refine lv_aload_n hx hb dX12_isBound_156 rfl (lv_at hl 1 rfl) ?_
          refine g_X12_181 Cx hW (k := 231) (by decide) rfl (v := .ref (G.2.2.1 + 287)) (rd_97 iu_39) dX12_isBound_157 ?_
          refine lv_iconst (v := iv 0) hx hb dX12_isBound_160 (by decide) ?_
          refine lv_aload_n hx hb dX12_isBound_161 rfl (lv_at hl 1 rfl) ?_
          refine g_X12_26 Cx hW (k := 231) (by decide) rfl (v := .ref (G.2.2.1 + 237)) (rd_7 iu_39) dX12_isBound_162 ?_
          refine lv_iconst (v := iv 0) hx hb dX12_isBound_165 (by decide) ?_
          refine sBv (sSt (As := [.ref (G.2.2.1 + 238), .int (iv 0), .ref (G.2.2.1 + 287), .int (iv 0), .ref (G.2.2.1 + 237), .int (iv 0)]) (rest := []) Cx (s_X12_multiply l G u_39 (ka := 238) (po := 0) (kb := 287) (qo := 0) (kc := 237) (ro := 0) (Nka := 68) (Nkb := 10) (Nkc := 68) (La := 18) (Lb := 7) iu_39 ⟨rfl, by decide, by decide, by decide, rfl⟩ ⟨rfl, by decide, by decide, by decide, rfl⟩ ⟨rfl, by decide, by decide, by decide, rfl⟩ (show (237 : Nat) ≠ 287 by decide) (show (237 : Nat) ≠ 238 by decide) (by omega) xu_39.1 (by rw [show u_39.2.1 287 = S.2.1 287 from (funext fun j => ((fu_39 287 rfl).2.1 j).trans (((fu_16 287 rfl).2.1 j).trans (((fu_10 287 rfl).2.1 j).trans (((fu_4 287 rfl).2.1 j).trans ((hL2_ 287 rfl).2.1 j)))))]; exact hUP.2)) (c_X12_548 Cx rfl rfl (rmk_ok (by omega) (by decide))) hW rfl hl.1 rfl (Nat.le_of_ble_eq_true rfl) dX12_isBound_166 ⟨Nat.le_of_ble_eq_true rfl, Nat.le_of_ble_eq_true rfl⟩) hL (fun u_44 H locs k_45 hW hL => ?_)
          obtain ⟨iu_44, fu_44, xu_44⟩ := k_45
          have F_46 := F_41.trans (fu_44.to (p1_sub rfl))
          have g_47 : FF S u_44 (fl []) := FF.fr g_42 fu_44 rfl
          have g_48 : FF S u_44 (fl []) := FF.fr g_43 fu_44 rfl
          refine lv_aload_n hx hb dX12_isBound_169 rfl (lv_at hl 1 rfl) ?_
          refine g_X12_26 Cx hW (k := 231) (by decide) rfl (v := .ref (G.2.2.1 + 237)) (rd_7 iu_44) dX12_isBound_170 ?_
          refine lv_iconst (v := iv 0) hx hb dX12_isBound_173 (by decide) ?_
          refine lv_aload_n hx hb dX12_isBound_174 rfl (lv_at hl 1 rfl) ?_
          refine g_X12_178 Cx hW (k := 231) (by decide) rfl (v := .ref (G.2.2.1 + 286)) (rd_96 iu_44) dX12_isBound_175 ?_
          refine lv_iconst (v := iv 0) hx hb dX12_isBound_178 (by decide) ?_
          refine sBi (sSt (As := [.ref (G.2.2.1 + 237), .int (iv 0), .ref (G.2.2.1 + 286), .int (iv 0)]) (rest := []) Cx (s_X12_compare l G u_44 (ka := 237) (po := 0) (kb := 286) (qo := 0) (Nka := 68) (Nkb := 10) (La := 25) (Lb := 7) iu_44 ⟨rfl, by decide, by decide, by decide, rfl⟩ ⟨rfl, by decide, by decide, by decide, rfl⟩ (by omega) xu_44.1 (by rw [show u_44.2.1 286 = S.2.1 286 from (funext fun j => ((fu_44 286 rfl).2.1 j).trans (((fu_39 286 rfl).2.1 j).trans (((fu_16 286 rfl).2.1 j).trans (((fu_10 286 rfl).2.1 j).trans (((fu_4 286 rfl).2.1 j).trans ((hL2_ 286 rfl).2.1 j))))))]; exact hUP.1)) (c_X12_552 Cx rfl rfl (rmk_ok (by omega) (by decide))) hW rfl hl.1 rfl (Nat.le_of_ble_eq_true rfl) dX12_isBound_179 ⟨Nat.le_of_ble_eq_true rfl, Nat.le_of_ble_eq_true rfl⟩) hL (fun r_51 u_49 H locs k_50 hW hL => ?_)
          obtain ⟨eu_49, xu_49⟩ := k_50
          rw [eu_49] at hW
          have yu_49 := xu_49.2
          unfold Hd at yu_49
          refine r_if_gt (tgt := 189) hx hb ⟨(by omega), (by omega)⟩ dX12_isBound_182 (by decide) (fun c_52 => ?_) (fun c_52 => ?_)
          · refine lv_iconst (v := iv 0) hx hb dX12_isBound_189 (by decide) ?_
            exact sZret Cx hr hlk hW hL (by omega) ⟨iu_44, F_46, g_47, (by omega)⟩ dX12_isBound_190
          · refine lv_iconst (v := iv 1) hx hb dX12_isBound_185 (by decide) ?_
            refine lv_goto (tgt := 190) hx hb dX12_isBound_186 (by decide) ?_
            exact sZret Cx hr hlk hW hL (by omega) ⟨iu_44, F_46, g_47, (by omega)⟩ dX12_isBound_190
      · refine lv_aload_n hx hb dX12_isBound_10 rfl (lv_at hl 1 rfl) ?_
        refine g_X12_151 Cx hW (k := 231) (by decide) rfl (v := .ref (G.2.2.1 + 277)) (rd_87 hI2) dX12_isBound_11 ?_
        refine lv_iconst (v := iv 0) hx hb dX12_isBound_14 (by decide) ?_
        have hgv := hGM.1 j
        refine lv_aload_n hx hb dX12_isBound_15 rfl (lv_at hl 1 rfl) ?_
        refine g_X12_97 Cx hW (k := 231) (by decide) rfl (v := .ref (G.2.2.1 + 260)) (rd_51 hI2) dX12_isBound_16 ?_
        refine lv_iload_n hx hb dX12_isBound_19 rfl (lv_at hl 0 rfl) ?_
        refine rLald Cx hW (k := 260) (by decide) rfl (by decide) (by omega) (by omega) dX12_isBound_20 ?_
        have q_53 : -9223372036854775808 ≤ S.2.2.1 260 j ∧ S.2.2.1 260 j ≤ 9223372036854775807 := hI.li 260 j
        refine r_j (b := S.2.2.1 260 j) ((hL2_ 260 rfl).2.2.1 j) ?_
        refine sBv (sSt (As := [.ref (G.2.2.1 + 277), .int (iv 0), .long (jv (S.2.2.1 260 j))]) (rest := []) Cx (s_X12_put l G S2 (ka := 277) (po := 0) (v := S.2.2.1 260 j) (Nka := 4) hI2 ⟨rfl, by decide, by decide, by decide, rfl⟩ (by omega) (by omega)) (c_X12_241 Cx rfl rfl (rmk_ok (by omega) (by decide))) hW rfl hl.1 rfl (Nat.le_of_ble_eq_true rfl) dX12_isBound_21 ⟨Nat.le_of_ble_eq_true rfl, Nat.le_of_ble_eq_true rfl⟩) hL (fun u_54 H locs k_55 hW hL => ?_)
        obtain ⟨iu_54, fu_54, xu_54⟩ := k_55
        have F_56 := hFm2.trans (fu_54.to (p1_sub rfl))
        have F_57 := hL2_.trans (fu_54.to (p1_sub rfl))
        have g_58 : FF S u_54 (fl []) := FF.fr hGm2 fu_54 rfl
        have g_59 : FF S u_54 (fl []) := FF.fr gL2_ fu_54 rfl
        refine lv_aload_n hx hb dX12_isBound_24 rfl (lv_at hl 1 rfl) ?_
        refine g_X12_184 Cx hW (k := 231) (by decide) rfl (v := .ref (G.2.2.1 + 288)) (rd_98 iu_54) dX12_isBound_25 ?_
        refine lv_iconst (v := iv 0) hx hb dX12_isBound_28 (by decide) ?_
        refine lv_aload_n hx hb dX12_isBound_29 rfl (lv_at hl 1 rfl) ?_
        refine g_X12_151 Cx hW (k := 231) (by decide) rfl (v := .ref (G.2.2.1 + 277)) (rd_87 iu_54) dX12_isBound_30 ?_
        refine lv_iconst (v := iv 0) hx hb dX12_isBound_33 (by decide) ?_
        refine lv_aload_n hx hb dX12_isBound_34 rfl (lv_at hl 1 rfl) ?_
        refine g_X12_26 Cx hW (k := 231) (by decide) rfl (v := .ref (G.2.2.1 + 237)) (rd_7 iu_54) dX12_isBound_35 ?_
        refine lv_iconst (v := iv 0) hx hb dX12_isBound_38 (by decide) ?_
        refine sBv (sSt (As := [.ref (G.2.2.1 + 288), .int (iv 0), .ref (G.2.2.1 + 277), .int (iv 0), .ref (G.2.2.1 + 237), .int (iv 0)]) (rest := []) Cx (s_X12_multiply l G u_54 (ka := 288) (po := 0) (kb := 277) (qo := 0) (kc := 237) (ro := 0) (Nka := 10) (Nkb := 4) (Nkc := 68) (La := 7) (Lb := 3) iu_54 ⟨rfl, by decide, by decide, by decide, rfl⟩ ⟨rfl, by decide, by decide, by decide, rfl⟩ ⟨rfl, by decide, by decide, by decide, rfl⟩ (show (237 : Nat) ≠ 277 by decide) (show (237 : Nat) ≠ 288 by decide) (by omega) (by rw [show u_54.2.1 288 = S.2.1 288 from (funext fun j => ((fu_54 288 rfl).2.1 j).trans ((hL2_ 288 rfl).2.1 j))]; exact hDV.1) xu_54.1) (c_X12_548 Cx rfl rfl (rmk_ok (by omega) (by decide))) hW rfl hl.1 rfl (Nat.le_of_ble_eq_true rfl) dX12_isBound_39 ⟨Nat.le_of_ble_eq_true rfl, Nat.le_of_ble_eq_true rfl⟩) hL (fun u_60 H locs k_61 hW hL => ?_)
        obtain ⟨iu_60, fu_60, xu_60⟩ := k_61
        have F_62 := F_56.trans (fu_60.to (p1_sub rfl))
        have F_63 := F_57.trans (fu_60.to (p1_sub rfl))
        have g_64 : FF S u_60 (fl []) := FF.fr g_58 fu_60 rfl
        have g_65 : FF S u_60 (fl []) := FF.fr g_59 fu_60 rfl
        refine lv_aload_n hx hb dX12_isBound_42 rfl (lv_at hl 1 rfl) ?_
        refine g_X12_172 Cx hW (k := 231) (by decide) rfl (v := .ref (G.2.2.1 + 284)) (rd_94 iu_60) dX12_isBound_43 ?_
        refine lv_bipush (v := iv 40) hx hb dX12_isBound_46 (by decide) ?_
        refine lv_iload_n hx hb dX12_isBound_48 rfl (lv_at hl 0 rfl) ?_
        refine r_imul hx hb dX12_isBound_49 ?_
        refine lv_aload_n hx hb dX12_isBound_50 rfl (lv_at hl 1 rfl) ?_
        refine g_X12_26 Cx hW (k := 231) (by decide) rfl (v := .ref (G.2.2.1 + 237)) (rd_7 iu_60) dX12_isBound_51 ?_
        refine lv_iconst (v := iv 0) hx hb dX12_isBound_54 (by decide) ?_
        refine sBi (sSt (As := [.ref (G.2.2.1 + 284), .int (iv (40 * j)), .ref (G.2.2.1 + 237), .int (iv 0)]) (rest := []) Cx (s_X12_compare l G u_60 (ka := 284) (po := 40 * j) (kb := 237) (qo := 0) (Nka := 520) (Nkb := 68) (La := 16) (Lb := 10) iu_60 ⟨rfl, by decide, by decide, by decide, rfl⟩ ⟨rfl, by decide, by decide, by decide, rfl⟩ (by omega) (by rw [show u_60.2.1 284 = S.2.1 284 from (funext fun j => ((fu_60 284 rfl).2.1 j).trans (((fu_54 284 rfl).2.1 j).trans ((hL2_ 284 rfl).2.1 j)))]; exact hSM j (by omega) (by omega)) xu_60.1) (c_X12_552 Cx rfl rfl (rmk_ok (by omega) (by decide))) hW rfl hl.1 rfl (Nat.le_of_ble_eq_true rfl) dX12_isBound_55 ⟨Nat.le_of_ble_eq_true rfl, Nat.le_of_ble_eq_true rfl⟩) hL (fun r_68 u_66 H locs k_67 hW hL => ?_)
        obtain ⟨eu_66, xu_66⟩ := k_67
        rw [eu_66] at hW
        have yu_66 := xu_66.2
        unfold Hd at yu_66
        refine r_if_ge (tgt := 63) hx hb ⟨(by omega), (by omega)⟩ dX12_isBound_58 (by decide) (fun c_69 => ?_) (fun c_69 => ?_)
        · refine lv_iinc (v := iv (j + 1)) (lv' := [(1, .int (iv (j + 1))), (0, .ref (G.2.2.1 + 231))]) hx hb dX12_isBound_63 hl (k := 0) rfl ((Int32.ofInt_add _ _).symm) (by decide) rfl (fun ls hl => ?_)
          refine lv_goto (tgt := 2) hx hb dX12_isBound_66 (by decide) ?_
          exact ih_2 u_60 (j + 1) _ _ _ (by omega) iu_60 F_62 F_63 g_64 g_65 (by omega) hW hL (lv_sub hl [0, 1] rfl)
        · refine lv_iconst (v := iv 0) hx hb dX12_isBound_61 (by decide) ?_
          exact sZret Cx hr hlk hW hL (by omega) ⟨iu_60, F_62, g_64, (by omega)⟩ dX12_isBound_62
  exact loop_2 (_ + 1) S 1 _ _ _ (Nat.lt_succ_self _) hI (Fr.rf : Fr S S (pl [233, 234, 235, 237, 238, 240, 277, 284])) Fr.rf FF.rf FF.rf (by omega) hW hL (lv_sub hl [0, 1] rfl)

set_option maxRecDepth 100000 in
set_option maxHeartbeats 4000000 in
theorem s_X12_pairs (l : Launch) (G : sG) (S : sS) {K Xt Fm Wd Vt : Int → Int} {T pz ed : Int} (hI : dX G S) (hK : S.2.1 244 = K) (hX : S.2.1 243 = Xt) (hFm : S.2.1 245 = Fm) (hWd : S.2.1 246 = Wd) (hVt : S.2.1 247 = Vt) (hm : 0 ≤ S.1 231 46 ∧ S.1 231 46 ≤ 12) (h100 : 0 ≤ S.1 231 100 ∧ S.1 231 100 ≤ 40) (hHA : dHA S) (hc : S.1 231 24 = pz) (hg : gTl (fun c => K c = 2) (gPnE K Vt) pz ed) (hQ : Hd (∀ t, 0 ≤ t → t < T → K t = 2 → nTk Xt Fm Wd Vt t)) (hpq : 0 ≤ pz ∧ ed ≤ T - 1 ∧ T ≤ 30001) : Met l yX12_pairs (.code yX12_pairs cX12_pairs 5 (some .boolean) :: tb) (rmk 5 0 0) (sPc G 294 S [.ref (G.2.2.1 + 231)]) (sQi G 294 (fun r u => dX G u ∧ Fr S u (pl [231, 237, 284, 289]) ∧ FF S u (fl [24]) ∧ ((0 ≤ r ∧ r ≤ 1) ∧ u.1 231 24 = ed + 1 ∧ dSM u))) 0 0 (sF G) := by
  refine sEnter (by decide) (Nat.le_of_ble_eq_true rfl) ?_
  intro p e s m args below meth c Cx hr hlk hnm hW ls hl
  have Cx : sC G p m c cX12_pairs 5 s args RX12 := Cx
  obtain ⟨hx, hb, hml, hown, hts⟩ := id Cx.1
  have hL : sL G [] := sL_nil
  have hl : lv_has ls 5 [(0, .ref (G.2.2.1 + 231))] := hl
  have hW0 := hW
  refine lv_iconst (v := iv 0) hx hb dX12_pairs_0 (by decide) ?_
  refine lv_istore_n (lv' := [(1, .int (iv 0)), (0, .ref (G.2.2.1 + 231))]) hx hb dX12_pairs_1 rfl hl (by decide) rfl (fun ls hl => ?_)
  have loop_2 : ∀ (fuel : Nat) (S2 : sS) (i : Int) (H : Heap) (locs : List Loc) (ls : Array Slot), (S.1 231 46 + 1 - i).toNat < fuel → (dX G S2) → (Fr S S2 (pl [231, 237, 284, 289])) → (Fr S S2 (pl [284])) → (FF S S2 (fl [24])) → (FF S S2 (fl [])) → (0 ≤ i ∧ i ≤ S.1 231 46 + 1) → (∀ t, 0 ≤ t → t < i → S2.2.1 284 (40 * t) = 0) → sW G 294 S2 H → sL G locs → lv_has ls 5 [(1, .int (iv i)), (0, .ref (G.2.2.1 + 231))] → W p l e (rmk 5 0 0) s m args below meth c H locs 0 0 (MQ below (sQi G 294 (fun r u => dX G u ∧ Fr S u (pl [231, 237, 284, 289]) ∧ FF S u (fl [24]) ∧ ((0 ≤ r ∧ r ≤ 1) ∧ u.1 231 24 = ed + 1 ∧ dSM u))) args s 0 0 (sF G)) (F0 m 2 ls []) := by
    intro fuel
    induction fuel with
    | zero => intro S2 i H locs ls hmeas hI2 hFm2 hL2_ hGm2 gL2_ hi hz2 hW hL hl; exact absurd hmeas (Nat.not_lt_zero _)
    | succ fuel ih_2 =>
      intro S2 i H locs ls hmeas hI2 hFm2 hL2_ hGm2 gL2_ hi hz2 hW hL hl
      refine lv_iload_n hx hb dX12_pairs_2 rfl (lv_at hl 0 rfl) ?_
      refine lv_aload_n hx hb dX12_pairs_3 rfl (lv_at hl 1 rfl) ?_
      have q_1 : (-2147483648) ≤ S.1 231 46 ∧ S.1 231 46 ≤ 2147483647 := hI.fi 46
      refine g_X12_465 Cx hW (k := 231) (by decide) rfl (v := S.1 231 46) (gL2_ 46 rfl) dX12_pairs_4 ?_
      refine r_icmp_gt (tgt := 26) hx hb ⟨(by omega), (by omega)⟩ ⟨(by omega), (by omega)⟩ dX12_pairs_7 (by decide) (fun c_2 => ?_) (fun c_2 => ?_)
      · refine lv_iconst (v := iv 1) hx hb dX12_pairs_26 (by decide) ?_
        refine lv_istore_n (lv' := [(1, .int (iv 1)), (0, .ref (G.2.2.1 + 231))]) hx hb dX12_pairs_27 rfl hl (by decide) rfl (fun ls hl => ?_)
        refine lv_iconst (v := iv 0) hx hb dX12_pairs_28 (by decide) ?_
        refine lv_istore_n (lv' := [(2, .int (iv 0)), (1, .int (iv 1)), (0, .ref (G.2.2.1 + 231))]) hx hb dX12_pairs_29 rfl hl (by decide) rfl (fun ls hl => ?_)
        have loop_30 : ∀ (fuel : Nat) (S30 : sS) (pv : Int) (ok : Int) (H : Heap) (locs : List Loc) (ls : Array Slot), (ed - S30.1 231 24).toNat < fuel → (dX G S30) → (Fr S S30 (pl [231, 237, 284, 289])) → (Fr S2 S30 (pl [231, 237, 284, 289])) → (FF S S30 (fl [24])) → (FF S2 S30 (fl [24])) → ((0 ≤ ok ∧ ok ≤ 1) ∧ 0 ≤ pv ∧ pv ≤ 40) → (0 ≤ S30.1 231 24 ∧ S30.1 231 24 ≤ ed) → (gTl (fun c => K c = 2) (gPnE K Vt) (S30.1 231 24) ed) → (∀ t, 0 ≤ t → t ≤ S.1 231 46 → NO (S30.2.1 284) (40 * t) 16) → (Hd (ok = 1 → ∀ t, 0 ≤ t → t ≤ S.1 231 46 → -(pv * pw 15) ≤ nv (S30.2.1 284) (40 * t) ∧ nv (S30.2.1 284) (40 * t) ≤ pv * pw 15)) → sW G 294 S30 H → sL G locs → lv_has ls 5 [(2, .int (iv pv)), (1, .int (iv ok)), (0, .ref (G.2.2.1 + 231))] → W p l e (rmk 5 0 0) s m args below meth c H locs 0 0 (MQ below (sQi G 294 (fun r u => dX G u ∧ Fr S u (pl [231, 237, 284, 289]) ∧ FF S u (fl [24]) ∧ ((0 ≤ r ∧ r ≤ 1) ∧ u.1 231 24 = ed + 1 ∧ dSM u))) args s 0 0 (sF G)) (F0 m 30 ls []) := by
          intro fuel
          induction fuel with
          | zero => intro S30 pv ok H locs ls hmeas hI30 hFm30 hL30_ hGm30 gL30_ hok hc30 hG30 hN30 hB30 hW hL hl; exact absurd hmeas (Nat.not_lt_zero _)
          | succ fuel ih_30 =>
            intro S30 pv ok H locs ls hmeas hI30 hFm30 hL30_ hGm30 gL30_ hok hc30 hG30 hN30 hB30 hW hL hl
            refine lv_aload_n hx hb dX12_pairs_30 rfl (lv_at hl 2 rfl) ?_
            refine g_X12_47 Cx hW (k := 231) (by decide) rfl (v := .ref (G.2.2.1 + 244)) (rd_15 hI30) dX12_pairs_31 ?_
            refine lv_aload_n hx hb dX12_pairs_34 rfl (lv_at hl 2 rfl) ?_
            have q_3 : (-2147483648) ≤ S30.1 231 24 ∧ S30.1 231 24 ≤ 2147483647 := hI30.fi 24
            refine g_X12_315 Cx hW (k := 231) (by decide) rfl (v := S30.1 231 24) rfl dX12_pairs_35 ?_
            refine rIald Cx hW (k := 244) (by decide) rfl (by decide) (by omega) (by omega) dX12_pairs_38 ?_
            have q_4 : (-2147483648) ≤ S.2.1 244 (S30.1 231 24) ∧ S.2.1 244 (S30.1 231 24) ≤ 2147483647 := hI.ai 244 (S30.1 231 24)
            refine r_i (b := S.2.1 244 (S30.1 231 24)) (((hL30_ 244 rfl).2.1 (S30.1 231 24)).trans ((hL2_ 244 rfl).2.1 (S30.1 231 24))) ?_
            have hrk : K (S30.1 231 24) = S.2.1 244 (S30.1 231 24) := by rw [← hK]
            refine lv_iconst (v := iv 2) hx hb dX12_pairs_39 (by decide) ?_
            refine r_icmp_ne (tgt := 230) hx hb ⟨(by omega), (by omega)⟩ ⟨(by omega), (by omega)⟩ dX12_pairs_40 (by decide) (fun c_5 => ?_) (fun c_5 => ?_)
            · refine lv_aload_n hx hb dX12_pairs_230 rfl (lv_at hl 2 rfl) ?_
              refine lv_dup hx hb dX12_pairs_231 rfl ?_
              refine g_X12_315 Cx hW (k := 231) (by decide) rfl (v := S30.1 231 24) rfl dX12_pairs_232 ?_
              refine lv_iconst (v := iv 1) hx hb dX12_pairs_235 (by decide) ?_
              refine r_iadd hx hb dX12_pairs_236 ?_
              refine p_X12_315 Cx hW hL (k := 231) (by decide) rfl dX12_pairs_237 (fun H locs hW hL => ?_)
              have F_6 : Fr S (uF S30 231 24 ((S30.1 231 24) + 1)) (pl [231, 237, 284, 289]) := hFm30.F rfl
              have F_7 : Fr S2 (uF S30 231 24 ((S30.1 231 24) + 1)) (pl [231, 237, 284, 289]) := hL30_.F rfl
              have g_8 : FF S (uF S30 231 24 ((S30.1 231 24) + 1)) (fl [24]) := FF.F hGm30 rfl
              have g_9 : FF S2 (uF S30 231 24 ((S30.1 231 24) + 1)) (fl [24]) := FF.F gL30_ rfl
              have i_10 : dX G (uF S30 231 24 ((S30.1 231 24) + 1)) := hI30.F (i := 24) (show (-2147483648) ≤ (S30.1 231 24) + 1 ∧ (S30.1 231 24) + 1 ≤ 2147483647 from ⟨by omega, by omega⟩)
              refine lv_iload_n hx hb dX12_pairs_240 rfl (lv_at hl 1 rfl) ?_
              have lk_11 : (uF S30 231 24 ((S30.1 231 24) + 1)).1 231 24 = (S30.1 231 24) + 1 := uF_on
              exact sZret Cx hr hlk hW hL (by omega) ⟨i_10, F_6, g_8, ⟨(by omega), (by have y := (show (uF S30 231 24 ((S30.1 231 24) + 1)).1 231 24 = (S30.1 231 24) + 1 from uF_on); have y2 := gTl.fin hG30 (fun z => absurd z (by omega)); omega), (fun t t0 t1 => by rw [show (uF S30 231 24 ((S30.1 231 24) + 1)).2.1 284 = S30.2.1 284 from (funext fun j => uF_a)]; exact hN30 t t0 (by have y := (show (uF S30 231 24 ((S30.1 231 24) + 1)).1 231 46 = S.1 231 46 from (uF_ne (fun h => absurd h.2 (by decide))).trans ((gL30_ 46 rfl).trans (gL2_ 46 rfl))); omega))⟩⟩ dX12_pairs_241
            · obtain ⟨e2, hpn, ht2⟩ := gTl.inv hG30 (show K (S30.1 231 24) = 2 by omega)
              have hp3 := hpn.2.2
              have hle2 := gTl_le (R := gPnE K Vt) (fun c x r => by have := r.2.2; omega) ht2
              refine lv_aload_n hx hb dX12_pairs_43 rfl (lv_at hl 2 rfl) ?_
              refine lv_aload_n hx hb dX12_pairs_44 rfl (lv_at hl 2 rfl) ?_
              refine g_X12_315 Cx hW (k := 231) (by decide) rfl (v := S30.1 231 24) rfl dX12_pairs_45 ?_
              refine lv_aload_n hx hb dX12_pairs_48 rfl (lv_at hl 2 rfl) ?_
              refine g_X12_187 Cx hW (k := 231) (by decide) rfl (v := .ref (G.2.2.1 + 289)) (rd_99 hI30) dX12_pairs_49 ?_
              refine lv_iconst (v := iv 0) hx hb dX12_pairs_52 (by decide) ?_
              refine sBv (sV (As := [.int (iv (S30.1 231 24)), .ref (G.2.2.1 + 289), .int (iv 0)]) (rest := []) (k := 231) Cx (s_X12_numberAt l G S30 (tk := S30.1 231 24) (ka := 289) (po := 0) (Nka := 10) (Xt := Xt) (Fm := Fm) (Wd := Wd) (Vt := Vt) hI30 ⟨rfl, by decide, by decide, by decide, rfl⟩ (show (289 : Nat) ≠ 243 by decide) (show (289 : Nat) ≠ 245 by decide) (show (289 : Nat) ≠ 246 by decide) (show (289 : Nat) ≠ 247 by decide) ((funext fun j => ((hL30_ 243 rfl).2.1 j).trans ((hL2_ 243 rfl).2.1 j) : S30.2.1 243 = S.2.1 243).trans hX) ((funext fun j => ((hL30_ 245 rfl).2.1 j).trans ((hL2_ 245 rfl).2.1 j) : S30.2.1 245 = S.2.1 245).trans hFm) ((funext fun j => ((hL30_ 246 rfl).2.1 j).trans ((hL2_ 246 rfl).2.1 j) : S30.2.1 246 = S.2.1 246).trans hWd) ((funext fun j => ((hL30_ 247 rfl).2.1 j).trans ((hL2_ 247 rfl).2.1 j) : S30.2.1 247 = S.2.1 247).trans hVt) (hQ _ (by omega) (by omega) (by omega)) (by omega) (by omega)) (c_X12_703 Cx rfl rfl (rmk_ok (by omega) (by decide))) hW (by decide) rfl rfl rfl hl.1 rfl (Nat.le_of_ble_eq_true rfl) dX12_pairs_53 ⟨Nat.le_of_ble_eq_true rfl, Nat.le_of_ble_eq_true rfl⟩) hL (fun u_12 H locs k_13 hW hL => ?_)
              obtain ⟨iu_12, fu_12, gu_12, xu_12⟩ := k_13
              have F_14 := hFm30.trans (fu_12.to (pl_sub (by decide)))
              have F_15 := hL30_.trans (fu_12.to (pl_sub (by decide)))
              have g_16 : FF S u_12 (fl [24]) := FF.trans hGm30 (FF.to gu_12 (fl_sub (by decide)))
              have g_17 : FF S2 u_12 (fl [24]) := FF.trans gL30_ (FF.to gu_12 (fl_sub (by decide)))
              have join_89 : ∀ (k3 : Int) (H : Heap) (locs : List Loc) (ls : Array Slot), (0 ≤ k3 ∧ k3 ≤ S.1 231 100) → sW G 294 u_12 H → sL G locs → lv_has ls 5 [(2, .int (iv pv)), (1, .int (iv ok)), (0, .ref (G.2.2.1 + 231))] → W p l e (rmk 5 0 0) s m args below meth c H locs 0 0 (MQ below (sQi G 294 (fun r u => dX G u ∧ Fr S u (pl [231, 237, 284, 289]) ∧ FF S u (fl [24]) ∧ ((0 ≤ r ∧ r ≤ 1) ∧ u.1 231 24 = ed + 1 ∧ dSM u))) args s 0 0 (sF G)) (F0 m 89 ls [.int (iv k3)]) := by
                intro k3 H locs ls hk3 hW hL hl
                refine lv_istore_n (lv' := [(3, .int (iv k3)), (2, .int (iv pv)), (1, .int (iv ok)), (0, .ref (G.2.2.1 + 231))]) hx hb dX12_pairs_89 rfl hl (by decide) rfl (fun ls hl => ?_)
                have join_104 : ∀ (ok2 : Int) (H : Heap) (locs : List Loc) (ls : Array Slot), ((0 ≤ ok2 ∧ ok2 ≤ 1) ∧ (ok2 = 1 → ok = 1 ∧ pv < k3)) → sW G 294 u_12 H → sL G locs → lv_has ls 5 [(3, .int (iv k3)), (2, .int (iv pv)), (1, .int (iv ok)), (0, .ref (G.2.2.1 + 231))] → W p l e (rmk 5 0 0) s m args below meth c H locs 0 0 (MQ below (sQi G 294 (fun r u => dX G u ∧ Fr S u (pl [231, 237, 284, 289]) ∧ FF S u (fl [24]) ∧ ((0 ≤ r ∧ r ≤ 1) ∧ u.1 231 24 = ed + 1 ∧ dSM u))) args s 0 0 (sF G)) (F0 m 104 ls [.int (iv ok2)]) := by
                  intro ok2 H locs ls hok2 hW hL hl
                  refine lv_istore_n (lv' := [(1, .int (iv ok2)), (3, .int (iv k3)), (2, .int (iv pv)), (0, .ref (G.2.2.1 + 231))]) hx hb dX12_pairs_104 rfl hl (by decide) rfl (fun ls hl => ?_)
                  refine lv_iload_n hx hb dX12_pairs_105 rfl (lv_at hl 1 rfl) ?_
                  refine lv_istore_n (lv' := [(2, .int (iv k3)), (1, .int (iv ok2)), (3, .int (iv k3)), (0, .ref (G.2.2.1 + 231))]) hx hb dX12_pairs_106 rfl hl (by decide) rfl (fun ls hl => ?_)
                  refine lv_aload_n hx hb dX12_pairs_107 rfl (lv_at hl 3 rfl) ?_
                  refine lv_aload_n hx hb dX12_pairs_108 rfl (lv_at hl 3 rfl) ?_
                  refine g_X12_315 Cx hW (k := 231) (by decide) rfl (v := S30.1 231 24) (gu_12 24 rfl) dX12_pairs_109 ?_
                  refine lv_iconst (v := iv 2) hx hb dX12_pairs_112 (by decide) ?_
                  refine r_iadd hx hb dX12_pairs_113 ?_
                  refine lv_aload_n hx hb dX12_pairs_114 rfl (lv_at hl 3 rfl) ?_
                  refine g_X12_187 Cx hW (k := 231) (by decide) rfl (v := .ref (G.2.2.1 + 289)) (rd_99 iu_12) dX12_pairs_115 ?_
                  refine lv_iconst (v := iv 0) hx hb dX12_pairs_118 (by decide) ?_
                  refine sBv (sV (As := [.int (iv ((S30.1 231 24) + 2)), .ref (G.2.2.1 + 289), .int (iv 0)]) (rest := []) (k := 231) Cx (s_X12_numberAt l G u_12 (tk := (S30.1 231 24) + 2) (ka := 289) (po := 0) (Nka := 10) (Xt := Xt) (Fm := Fm) (Wd := Wd) (Vt := Vt) iu_12 ⟨rfl, by decide, by decide, by decide, rfl⟩ (show (289 : Nat) ≠ 243 by decide) (show (289 : Nat) ≠ 245 by decide) (show (289 : Nat) ≠ 246 by decide) (show (289 : Nat) ≠ 247 by decide) ((funext fun j => ((fu_12 243 rfl).2.1 j).trans (((hL30_ 243 rfl).2.1 j).trans ((hL2_ 243 rfl).2.1 j)) : u_12.2.1 243 = S.2.1 243).trans hX) ((funext fun j => ((fu_12 245 rfl).2.1 j).trans (((hL30_ 245 rfl).2.1 j).trans ((hL2_ 245 rfl).2.1 j)) : u_12.2.1 245 = S.2.1 245).trans hFm) ((funext fun j => ((fu_12 246 rfl).2.1 j).trans (((hL30_ 246 rfl).2.1 j).trans ((hL2_ 246 rfl).2.1 j)) : u_12.2.1 246 = S.2.1 246).trans hWd) ((funext fun j => ((fu_12 247 rfl).2.1 j).trans (((hL30_ 247 rfl).2.1 j).trans ((hL2_ 247 rfl).2.1 j)) : u_12.2.1 247 = S.2.1 247).trans hVt) (hQ _ (by omega) (by omega) hpn.2.1) (by omega) (by omega)) (c_X12_703 Cx rfl rfl (rmk_ok (by omega) (by decide))) hW (by decide) rfl rfl rfl hl.1 rfl (Nat.le_of_ble_eq_true rfl) dX12_pairs_119 ⟨Nat.le_of_ble_eq_true rfl, Nat.le_of_ble_eq_true rfl⟩) hL (fun u_18 H locs k_19 hW hL => ?_)
                  obtain ⟨iu_18, fu_18, gu_18, xu_18⟩ := k_19
                  have F_20 := F_14.trans (fu_18.to (pl_sub (by decide)))
                  have F_21 := F_15.trans (fu_18.to (pl_sub (by decide)))
                  have g_22 : FF S u_18 (fl [24]) := FF.trans g_16 (FF.to gu_18 (fl_sub (by decide)))
                  have g_23 : FF S2 u_18 (fl [24]) := FF.trans g_17 (FF.to gu_18 (fl_sub (by decide)))
                  have join_140 : ∀ (ok3 : Int) (H : Heap) (locs : List Loc) (ls : Array Slot), ((0 ≤ ok3 ∧ ok3 ≤ 1) ∧ (ok3 = 1 → ok2 = 1)) → sW G 294 u_18 H → sL G locs → lv_has ls 5 [(2, .int (iv k3)), (1, .int (iv ok2)), (3, .int (iv k3)), (0, .ref (G.2.2.1 + 231))] → W p l e (rmk 5 0 0) s m args below meth c H locs 0 0 (MQ below (sQi G 294 (fun r u => dX G u ∧ Fr S u (pl [231, 237, 284, 289]) ∧ FF S u (fl [24]) ∧ ((0 ≤ r ∧ r ≤ 1) ∧ u.1 231 24 = ed + 1 ∧ dSM u))) args s 0 0 (sF G)) (F0 m 140 ls [.int (iv ok3)]) := by
                    intro ok3 H locs ls hok3 hW hL hl
                    refine lv_istore_n (lv' := [(1, .int (iv ok3)), (2, .int (iv k3)), (3, .int (iv k3)), (0, .ref (G.2.2.1 + 231))]) hx hb dX12_pairs_140 rfl hl (by decide) rfl (fun ls hl => ?_)
                    refine lv_aload_n hx hb dX12_pairs_141 rfl (lv_at hl 3 rfl) ?_
                    refine lv_dup hx hb dX12_pairs_142 rfl ?_
                    refine g_X12_315 Cx hW (k := 231) (by decide) rfl (v := S30.1 231 24) ((gu_18 24 rfl).trans (gu_12 24 rfl)) dX12_pairs_143 ?_
                    refine lv_iconst (v := iv 3) hx hb dX12_pairs_146 (by decide) ?_
                    refine r_iadd hx hb dX12_pairs_147 ?_
                    refine p_X12_315 Cx hW hL (k := 231) (by decide) rfl dX12_pairs_148 (fun H locs hW hL => ?_)
                    have F_24 : Fr S (uF u_18 231 24 ((S30.1 231 24) + 3)) (pl [231, 237, 284, 289]) := F_20.F rfl
                    have F_25 : Fr S2 (uF u_18 231 24 ((S30.1 231 24) + 3)) (pl [231, 237, 284, 289]) := F_21.F rfl
                    have g_26 : FF S (uF u_18 231 24 ((S30.1 231 24) + 3)) (fl [24]) := FF.F g_22 rfl
                    have g_27 : FF S2 (uF u_18 231 24 ((S30.1 231 24) + 3)) (fl [24]) := FF.F g_23 rfl
                    have i_28 : dX G (uF u_18 231 24 ((S30.1 231 24) + 3)) := iu_18.F (i := 24) (show (-2147483648) ≤ (S30.1 231 24) + 3 ∧ (S30.1 231 24) + 3 ≤ 2147483647 from ⟨by omega, by omega⟩)
                    refine lv_iload_n hx hb dX12_pairs_151 rfl (lv_at hl 0 rfl) ?_
                    refine r_if_ne (tgt := 158) hx hb ⟨(by omega), (by omega)⟩ dX12_pairs_152 (by decide) (fun c_29 => ?_) (fun c_29 => ?_)
                    · refine lv_iconst (v := iv 0) hx hb dX12_pairs_158 (by decide) ?_
                      refine lv_istore (lv' := [(4, .int (iv 0)), (1, .int (iv ok3)), (2, .int (iv k3)), (3, .int (iv k3)), (0, .ref (G.2.2.1 + 231))]) hx hb dX12_pairs_159 hl (by decide) rfl (fun ls hl => ?_)
                      have loop_161 : ∀ (fuel : Nat) (S161 : sS) (j : Int) (H : Heap) (locs : List Loc) (ls : Array Slot), (S.1 231 46 + 1 - j).toNat < fuel → (dX G S161) → (Fr S S161 (pl [231, 237, 284, 289])) → (Fr S2 S161 (pl [231, 237, 284, 289])) → (Fr ((uF u_18 231 24 ((S30.1 231 24) + 3))) S161 (pl [237, 284])) → (FF S S161 (fl [24])) → (FF S2 S161 (fl [24])) → (FF ((uF u_18 231 24 ((S30.1 231 24) + 3))) S161 (fl [])) → (0 ≤ j ∧ j ≤ S.1 231 46 + 1) → (∀ t, 0 ≤ t → t ≤ S.1 231 46 → NO (S161.2.1 284) (40 * t) 16) → (∀ t, 0 ≤ t → t < j → -(k3 * pw 15) ≤ nv (S161.2.1 284) (40 * t) ∧ nv (S161.2.1 284) (40 * t) ≤ k3 * pw 15) → (∀ t, j ≤ t → t ≤ S.1 231 46 → -(pv * pw 15) ≤ nv (S161.2.1 284) (40 * t) ∧ nv (S161.2.1 284) (40 * t) ≤ pv * pw 15) → sW G 294 S161 H → sL G locs → lv_has ls 5 [(4, .int (iv j)), (1, .int (iv ok3)), (2, .int (iv k3)), (3, .int (iv k3)), (0, .ref (G.2.2.1 + 231))] → W p l e (rmk 5 0 0) s m args below meth c H locs 0 0 (MQ below (sQi G 294 (fun r u => dX G u ∧ Fr S u (pl [231, 237, 284, 289]) ∧ FF S u (fl [24]) ∧ ((0 ≤ r ∧ r ≤ 1) ∧ u.1 231 24 = ed + 1 ∧ dSM u))) args s 0 0 (sF G)) (F0 m 161 ls []) := by
                        intro fuel
                        induction fuel with
                        | zero => intro S161 j H locs ls hmeas hI161 hFm161 hFL30161 hL161_ hGm161 hGL30161 gL161_ hj hN161 hA161 hB161 hW hL hl; exact absurd hmeas (Nat.not_lt_zero _)
                        | succ fuel ih_161 =>
                          intro S161 j H locs ls hmeas hI161 hFm161 hFL30161 hL161_ hGm161 hGL30161 gL161_ hj hN161 hA161 hB161 hW hL hl
                          refine lv_iload hx hb dX12_pairs_161 (lv_at hl 0 rfl) ?_
                          refine lv_aload_n hx hb dX12_pairs_163 rfl (lv_at hl 4 rfl) ?_
                          refine g_X12_465 Cx hW (k := 231) (by decide) rfl (v := S.1 231 46) ((gL161_ 46 rfl).trans ((uF_ne (fun h => absurd h.2 (by decide))).trans ((gu_18 46 rfl).trans ((gu_12 46 rfl).trans ((gL30_ 46 rfl).trans (gL2_ 46 rfl)))))) dX12_pairs_164 ?_
                          refine r_icmp_gt (tgt := 227) hx hb ⟨(by omega), (by omega)⟩ ⟨(by omega), (by omega)⟩ dX12_pairs_167 (by decide) (fun c_30 => ?_) (fun c_30 => ?_)
                          · refine lv_goto (tgt := 30) hx hb dX12_pairs_227 (by decide) ?_
                            have lk_31 : S161.1 231 24 = (S30.1 231 24) + 3 := (gL161_ 24 rfl).trans (uF_on)
                            exact ih_30 S161 k3 ok3 _ _ _ (by omega) hI161 hFm161 hFL30161 hGm161 hGL30161 (by omega) (by omega) (by rw [(show S161.1 231 24 = (S30.1 231 24) + 3 from (gL161_ 24 rfl).trans (uF_on)), ← hp3]; exact ht2) hN161 (fun _ t t0 t1 => by exact hA161 t t0 (by omega)) hW hL (lv_sub hl [2, 1, 4] rfl)
                          · refine lv_aload_n hx hb dX12_pairs_170 rfl (lv_at hl 4 rfl) ?_
                            refine g_X12_169 Cx hW (k := 231) (by decide) rfl (v := .ref (G.2.2.1 + 283)) (rd_93 hI161) dX12_pairs_171 ?_
                            refine lv_aload_n hx hb dX12_pairs_174 rfl (lv_at hl 4 rfl) ?_
                            refine lv_iload_n hx hb dX12_pairs_175 rfl (lv_at hl 3 rfl) ?_
                            refine lv_iload hx hb dX12_pairs_176 (lv_at hl 0 rfl) ?_
                            refine sBi (sV (As := [.int (iv k3), .int (iv j)]) (rest := [.ref (G.2.2.1 + 283)]) (k := 231) Cx (s_X12_heldCell l G S161 (i := k3) (j := j) (by omega) (by omega)) (c_X12_735 Cx rfl rfl (rmk_ok (by omega) (by decide))) hW (by decide) rfl rfl rfl hl.1 rfl (Nat.le_of_ble_eq_true rfl) dX12_pairs_178 ⟨Nat.le_of_ble_eq_true rfl, Nat.le_of_ble_eq_true rfl⟩) hL (fun q0 u_32 H locs k_33 hW hL => ?_)
                            obtain ⟨eu_32, xu_32⟩ := k_33
                            rw [eu_32] at hW
                            refine lv_aload_n hx hb dX12_pairs_181 rfl (lv_at hl 4 rfl) ?_
                            refine g_X12_187 Cx hW (k := 231) (by decide) rfl (v := .ref (G.2.2.1 + 289)) (rd_99 hI161) dX12_pairs_182 ?_
                            refine lv_iconst (v := iv 0) hx hb dX12_pairs_185 (by decide) ?_
                            refine lv_aload_n hx hb dX12_pairs_186 rfl (lv_at hl 4 rfl) ?_
                            refine g_X12_26 Cx hW (k := 231) (by decide) rfl (v := .ref (G.2.2.1 + 237)) (rd_7 hI161) dX12_pairs_187 ?_
                            refine lv_iconst (v := iv 0) hx hb dX12_pairs_190 (by decide) ?_
                            refine sBv (sSt (As := [.ref (G.2.2.1 + 283), .int (iv q0), .ref (G.2.2.1 + 289), .int (iv 0), .ref (G.2.2.1 + 237), .int (iv 0)]) (rest := []) Cx (s_X12_multiply l G S161 (ka := 283) (po := q0) (kb := 289) (qo := 0) (kc := 237) (ro := 0) (Nka := 5460) (Nkb := 10) (Nkc := 68) (La := 8) (Lb := 7) hI161 ⟨rfl, by decide, by decide, by decide, rfl⟩ ⟨rfl, by decide, by decide, by decide, rfl⟩ ⟨rfl, by decide, by decide, by decide, rfl⟩ (show (237 : Nat) ≠ 289 by decide) (show (237 : Nat) ≠ 283 by decide) (by omega) (by rw [show S161.2.1 283 = S.2.1 283 from (funext fun j => ((hL161_ 283 rfl).2.1 j).trans ((uF_a).trans (((fu_18 283 rfl).2.1 j).trans (((fu_12 283 rfl).2.1 j).trans (((hL30_ 283 rfl).2.1 j).trans ((hL2_ 283 rfl).2.1 j)))))), show q0 = 10 * (13 * k3 + j) by omega]; exact hHA k3 j (by omega) (by omega) (by omega) (by omega)) (by rw [show S161.2.1 289 = u_18.2.1 289 from (funext fun j => ((hL161_ 289 rfl).2.1 j).trans (uF_a))]; exact xu_18.1)) (c_X12_548 Cx rfl rfl (rmk_ok (by omega) (by decide))) hW rfl hl.1 rfl (Nat.le_of_ble_eq_true rfl) dX12_pairs_191 ⟨Nat.le_of_ble_eq_true rfl, Nat.le_of_ble_eq_true rfl⟩) hL (fun u_34 H locs k_35 hW hL => ?_)
                            obtain ⟨iu_34, fu_34, xu_34⟩ := k_35
                            have F_36 := hFm161.trans (fu_34.to (p1_sub rfl))
                            have F_37 := hFL30161.trans (fu_34.to (p1_sub rfl))
                            have F_38 := hL161_.trans (fu_34.to (p1_sub rfl))
                            have g_39 : FF S u_34 (fl [24]) := FF.fr hGm161 fu_34 rfl
                            have g_40 : FF S2 u_34 (fl [24]) := FF.fr hGL30161 fu_34 rfl
                            have g_41 : FF ((uF u_18 231 24 ((S30.1 231 24) + 3))) u_34 (fl []) := FF.fr gL161_ fu_34 rfl
                            refine lv_aload_n hx hb dX12_pairs_194 rfl (lv_at hl 4 rfl) ?_
                            refine g_X12_172 Cx hW (k := 231) (by decide) rfl (v := .ref (G.2.2.1 + 284)) (rd_94 iu_34) dX12_pairs_195 ?_
                            refine lv_bipush (v := iv 40) hx hb dX12_pairs_198 (by decide) ?_
                            refine lv_iload hx hb dX12_pairs_200 (lv_at hl 0 rfl) ?_
                            refine r_imul hx hb dX12_pairs_202 ?_
                            refine lv_aload_n hx hb dX12_pairs_203 rfl (lv_at hl 4 rfl) ?_
                            refine g_X12_26 Cx hW (k := 231) (by decide) rfl (v := .ref (G.2.2.1 + 237)) (rd_7 iu_34) dX12_pairs_204 ?_
                            refine lv_iconst (v := iv 0) hx hb dX12_pairs_207 (by decide) ?_
                            refine lv_iconst (v := iv 0) hx hb dX12_pairs_208 (by decide) ?_
                            refine lv_aload_n hx hb dX12_pairs_209 rfl (lv_at hl 4 rfl) ?_
                            refine g_X12_172 Cx hW (k := 231) (by decide) rfl (v := .ref (G.2.2.1 + 284)) (rd_94 iu_34) dX12_pairs_210 ?_
                            refine lv_bipush (v := iv 40) hx hb dX12_pairs_213 (by decide) ?_
                            refine lv_iload hx hb dX12_pairs_215 (lv_at hl 0 rfl) ?_
                            refine r_imul hx hb dX12_pairs_217 ?_
                            refine sBv (sSt (As := [.ref (G.2.2.1 + 284), .int (iv (40 * j)), .ref (G.2.2.1 + 237), .int (iv 0), .int (iv 0), .ref (G.2.2.1 + 284), .int (iv (40 * j))]) (rest := []) Cx (s_X12_add l G u_34 (ka := 284) (po := 40 * j) (kb := 237) (qo := 0) (lz := 0) (kc := 284) (ro := 40 * j) (Nka := 520) (Nkb := 68) (Nkc := 520) (La := 16) (Lb := 15) (Lc := 17) iu_34 ⟨rfl, by decide, by decide, by decide, rfl⟩ ⟨rfl, by decide, by decide, by decide, rfl⟩ ⟨rfl, by decide, by decide, by decide, rfl⟩ (show (284 : Nat) ≠ 237 by decide) (fun _ => rfl) (by omega) (by omega) (by rw [show u_34.2.1 284 = S161.2.1 284 from (funext fun j => (fu_34 284 rfl).2.1 j)]; exact hN161 j (by omega) (by omega)) xu_34.1) (c_X12_249 Cx rfl rfl (rmk_ok (by omega) (by decide))) hW rfl hl.1 rfl (Nat.le_of_ble_eq_true rfl) dX12_pairs_218 ⟨Nat.le_of_ble_eq_true rfl, Nat.le_of_ble_eq_true rfl⟩) hL (fun u_42 H locs k_43 hW hL => ?_)
                            obtain ⟨iu_42, fu_42, xu_42⟩ := k_43
                            have F_44 := F_36.trans (fu_42.to (p1_sub rfl))
                            have F_45 := F_37.trans (fu_42.to (p1_sub rfl))
                            have F_46 := F_38.trans (fu_42.to (p1_sub rfl))
                            have g_47 : FF S u_42 (fl [24]) := FF.fr g_39 fu_42 rfl
                            have g_48 : FF S2 u_42 (fl [24]) := FF.fr g_40 fu_42 rfl
                            have g_49 : FF ((uF u_18 231 24 ((S30.1 231 24) + 3))) u_42 (fl []) := FF.fr g_41 fu_42 rfl
                            refine lv_iinc (v := iv (j + 1)) (lv' := [(4, .int (iv (j + 1))), (1, .int (iv ok3)), (2, .int (iv k3)), (3, .int (iv k3)), (0, .ref (G.2.2.1 + 231))]) hx hb dX12_pairs_221 hl (k := 0) rfl ((Int32.ofInt_add _ _).symm) (by decide) rfl (fun ls hl => ?_)
                            refine lv_goto (tgt := 161) hx hb dX12_pairs_224 (by decide) ?_
                            exact ih_161 u_42 (j + 1) _ _ _ (by omega) iu_42 F_44 F_45 F_46 g_47 g_48 g_49 (by omega) (fun t t0 t1 => if z : t = j then (by rw [z]; have vj : nv (u_42.2.1 284) (40 * j) = nv (S161.2.1 284) (40 * j) + nv (u_34.2.1 237) 0 := (by rw [xu_42.2.1, asn_0, show u_34.2.1 284 = S161.2.1 284 from funext fun j => (fu_34 284 rfl).2.1 j]); have mb := NO.bd (n := 15) xu_34.1; have bj := pb1 (pv := pv) (k3 := k3) (P := pw 15) (a := nv (S161.2.1 284) (40 * j)) (b := nv (u_34.2.1 237) 0) (Int.le_of_lt (pw_pos 15)) (by omega) (hB161 j (by omega) (by omega)) ⟨Int.le_of_lt mb.1, Int.le_of_lt mb.2⟩; rw [← vj] at bj; exact NO.of (n := 16) xu_42.1 (pb2 (by omega) bj)) else ((hN161 t t0 t1).same (g := u_42.2.1 284) (fun x x0 x1 => (xu_42.2.2 x (by omega)).trans ((fu_34 284 rfl).2.1 x))).1) (fun t t0 t1 => if z : t = j then (by rw [z]; have vj : nv (u_42.2.1 284) (40 * j) = nv (S161.2.1 284) (40 * j) + nv (u_34.2.1 237) 0 := (by rw [xu_42.2.1, asn_0, show u_34.2.1 284 = S161.2.1 284 from funext fun j => (fu_34 284 rfl).2.1 j]); have mb := NO.bd (n := 15) xu_34.1; have bj := pb1 (pv := pv) (k3 := k3) (P := pw 15) (a := nv (S161.2.1 284) (40 * j)) (b := nv (u_34.2.1 237) 0) (Int.le_of_lt (pw_pos 15)) (by omega) (hB161 j (by omega) (by omega)) ⟨Int.le_of_lt mb.1, Int.le_of_lt mb.2⟩; rw [← vj] at bj; exact bj) else (by rw [((hN161 t t0 (by omega)).same (g := u_42.2.1 284) (fun x x0 x1 => (xu_42.2.2 x (by omega)).trans ((fu_34 284 rfl).2.1 x))).2]; exact hA161 t t0 (by omega))) (fun t t0 t1 => by rw [((hN161 t (by omega) t1).same (g := u_42.2.1 284) (fun x x0 x1 => (xu_42.2.2 x (by omega)).trans ((fu_34 284 rfl).2.1 x))).2]; exact hB161 t (by omega) t1) hW hL (lv_sub hl [0, 1, 2, 3, 4] rfl)
                      exact loop_161 (_ + 1) (uF u_18 231 24 ((S30.1 231 24) + 3)) 0 _ _ _ (Nat.lt_succ_self _) i_28 F_24 F_25 Fr.rf g_26 g_27 FF.rf (by omega) (fun t t0 t1 => by rw [show (uF u_18 231 24 ((S30.1 231 24) + 3)).2.1 284 = S30.2.1 284 from (funext fun j => (uF_a).trans (((fu_18 284 rfl).2.1 j).trans ((fu_12 284 rfl).2.1 j)))]; exact hN30 t t0 t1) (fun t a b => absurd b (by omega)) (fun t t0 t1 => by rw [show (uF u_18 231 24 ((S30.1 231 24) + 3)).2.1 284 = S30.2.1 284 from (funext fun j => (uF_a).trans (((fu_18 284 rfl).2.1 j).trans ((fu_12 284 rfl).2.1 j)))]; exact hB30 (by omega) t t0 t1) hW hL (lv_sub hl [0, 1, 2, 3, 4] rfl)
                    · refine lv_goto (tgt := 30) hx hb dX12_pairs_155 (by decide) ?_
                      have lk_50 : (uF u_18 231 24 ((S30.1 231 24) + 3)).1 231 24 = (S30.1 231 24) + 3 := uF_on
                      exact ih_30 (uF u_18 231 24 ((S30.1 231 24) + 3)) k3 ok3 _ _ _ (by omega) i_28 F_24 F_25 g_26 g_27 (by omega) (by omega) (by rw [(show (uF u_18 231 24 ((S30.1 231 24) + 3)).1 231 24 = (S30.1 231 24) + 3 from uF_on), ← hp3]; exact ht2) (fun t t0 t1 => by rw [show (uF u_18 231 24 ((S30.1 231 24) + 3)).2.1 284 = S30.2.1 284 from (funext fun j => (uF_a).trans (((fu_18 284 rfl).2.1 j).trans ((fu_12 284 rfl).2.1 j)))]; exact hN30 t t0 t1) (fun z => absurd z (by omega)) hW hL (lv_sub hl [1, 0, 3] rfl)
                  refine lv_iload_n hx hb dX12_pairs_122 rfl (lv_at hl 1 rfl) ?_
                  refine r_if_eq (tgt := 139) hx hb ⟨(by omega), (by omega)⟩ dX12_pairs_123 (by decide) (fun c_51 => ?_) (fun c_51 => ?_)
                  · refine lv_iconst (v := iv 0) hx hb dX12_pairs_139 (by decide) ?_
                    exact join_140 0 _ _ _ (by omega) hW hL (lv_sub hl [0, 1, 2, 3] rfl)
                  · refine lv_aload_n hx hb dX12_pairs_126 rfl (lv_at hl 3 rfl) ?_
                    refine g_X12_187 Cx hW (k := 231) (by decide) rfl (v := .ref (G.2.2.1 + 289)) (rd_99 iu_18) dX12_pairs_127 ?_
                    refine lv_iconst (v := iv 0) hx hb dX12_pairs_130 (by decide) ?_
                    refine rIald Cx hW (k := 289) (by decide) rfl (by decide) (by omega) (by omega) dX12_pairs_131 ?_
                    have q_52 : (-2147483648) ≤ u_18.2.1 289 0 ∧ u_18.2.1 289 0 ≤ 2147483647 := iu_18.ai 289 0
                    refine r_i (b := u_18.2.1 289 0) rfl ?_
                    refine r_if_lt (tgt := 139) hx hb ⟨(by omega), (by omega)⟩ dX12_pairs_132 (by decide) (fun c_53 => ?_) (fun c_53 => ?_)
                    · refine lv_iconst (v := iv 0) hx hb dX12_pairs_139 (by decide) ?_
                      exact join_140 0 _ _ _ (by omega) hW hL (lv_sub hl [0, 1, 2, 3] rfl)
                    · refine lv_iconst (v := iv 1) hx hb dX12_pairs_135 (by decide) ?_
                      refine lv_goto (tgt := 140) hx hb dX12_pairs_136 (by decide) ?_
                      exact join_140 1 _ _ _ (by omega) hW hL (lv_sub hl [0, 1, 2, 3] rfl)
                refine lv_iload_n hx hb dX12_pairs_90 rfl (lv_at hl 2 rfl) ?_
                refine r_if_eq (tgt := 103) hx hb ⟨(by omega), (by omega)⟩ dX12_pairs_91 (by decide) (fun c_54 => ?_) (fun c_54 => ?_)
                · refine lv_iconst (v := iv 0) hx hb dX12_pairs_103 (by decide) ?_
                  exact join_104 0 _ _ _ (by omega) hW hL (lv_sub hl [0, 1, 2, 3] rfl)
                · refine lv_iload_n hx hb dX12_pairs_94 rfl (lv_at hl 0 rfl) ?_
                  refine lv_iload_n hx hb dX12_pairs_95 rfl (lv_at hl 1 rfl) ?_
                  refine r_icmp_le (tgt := 103) hx hb ⟨(by omega), (by omega)⟩ ⟨(by omega), (by omega)⟩ dX12_pairs_96 (by decide) (fun c_55 => ?_) (fun c_55 => ?_)
                  · refine lv_iconst (v := iv 0) hx hb dX12_pairs_103 (by decide) ?_
                    exact join_104 0 _ _ _ (by omega) hW hL (lv_sub hl [0, 1, 2, 3] rfl)
                  · refine lv_iconst (v := iv 1) hx hb dX12_pairs_99 (by decide) ?_
                    refine lv_goto (tgt := 104) hx hb dX12_pairs_100 (by decide) ?_
                    exact join_104 1 _ _ _ (by omega) hW hL (lv_sub hl [0, 1, 2, 3] rfl)
              refine lv_aload_n hx hb dX12_pairs_56 rfl (lv_at hl 2 rfl) ?_
              refine g_X12_187 Cx hW (k := 231) (by decide) rfl (v := .ref (G.2.2.1 + 289)) (rd_99 iu_12) dX12_pairs_57 ?_
              refine lv_iconst (v := iv 0) hx hb dX12_pairs_60 (by decide) ?_
              refine rIald Cx hW (k := 289) (by decide) rfl (by decide) (by omega) (by omega) dX12_pairs_61 ?_
              have q_56 : (-2147483648) ≤ u_12.2.1 289 0 ∧ u_12.2.1 289 0 ≤ 2147483647 := iu_12.ai 289 0
              refine r_i (b := u_12.2.1 289 0) rfl ?_
              refine lv_iconst (v := iv 1) hx hb dX12_pairs_62 (by decide) ?_
              refine r_icmp_ne (tgt := 88) hx hb ⟨(by omega), (by omega)⟩ ⟨(by omega), (by omega)⟩ dX12_pairs_63 (by decide) (fun c_57 => ?_) (fun c_57 => ?_)
              · refine lv_iconst (v := iv 0) hx hb dX12_pairs_88 (by decide) ?_
                exact join_89 0 _ _ _ (by omega) hW hL (lv_sub hl [0, 1, 2] rfl)
              · have haln1 : al (u_12.2.1 289) 0 = 1 := by unfold al; rw [if_neg (by omega)]; omega
                have hlbn1 := xu_12.1.2.1 1 (by omega) (by rw [haln1]; omega)
                refine lv_aload_n hx hb dX12_pairs_66 rfl (lv_at hl 2 rfl) ?_
                refine g_X12_187 Cx hW (k := 231) (by decide) rfl (v := .ref (G.2.2.1 + 289)) (rd_99 iu_12) dX12_pairs_67 ?_
                refine lv_iconst (v := iv 1) hx hb dX12_pairs_70 (by decide) ?_
                refine rIald Cx hW (k := 289) (by decide) rfl (by decide) (by omega) (by omega) dX12_pairs_71 ?_
                have q_58 : (-2147483648) ≤ u_12.2.1 289 1 ∧ u_12.2.1 289 1 ≤ 2147483647 := iu_12.ai 289 1
                refine r_i (b := u_12.2.1 289 1) rfl ?_
                refine lv_aload_n hx hb dX12_pairs_72 rfl (lv_at hl 2 rfl) ?_
                have q_59 : (-2147483648) ≤ S.1 231 100 ∧ S.1 231 100 ≤ 2147483647 := hI.fi 100
                refine g_X12_738 Cx hW (k := 231) (by decide) rfl (v := S.1 231 100) ((gu_12 100 rfl).trans ((gL30_ 100 rfl).trans (gL2_ 100 rfl))) dX12_pairs_73 ?_
                refine r_icmp_gt (tgt := 88) hx hb ⟨(by omega), (by omega)⟩ ⟨(by omega), (by omega)⟩ dX12_pairs_76 (by decide) (fun c_60 => ?_) (fun c_60 => ?_)
                · refine lv_iconst (v := iv 0) hx hb dX12_pairs_88 (by decide) ?_
                  exact join_89 0 _ _ _ (by omega) hW hL (lv_sub hl [0, 1, 2] rfl)
                · refine lv_aload_n hx hb dX12_pairs_79 rfl (lv_at hl 2 rfl) ?_
                  refine g_X12_187 Cx hW (k := 231) (by decide) rfl (v := .ref (G.2.2.1 + 289)) (rd_99 iu_12) dX12_pairs_80 ?_
                  refine lv_iconst (v := iv 1) hx hb dX12_pairs_83 (by decide) ?_
                  refine rIald Cx hW (k := 289) (by decide) rfl (by decide) (by omega) (by omega) dX12_pairs_84 ?_
                  refine r_i (b := u_12.2.1 289 1) rfl ?_
                  refine lv_goto (tgt := 89) hx hb dX12_pairs_85 (by decide) ?_
                  exact join_89 (u_12.2.1 289 1) _ _ _ (by omega) hW hL (lv_sub hl [0, 1, 2] rfl)
        have q_61 : (-2147483648) ≤ S.1 231 24 ∧ S.1 231 24 ≤ 2147483647 := hI.fi 24
        have lk_62 : S2.1 231 24 = S.1 231 24 := gL2_ 24 rfl
        exact loop_30 (_ + 1) S2 0 1 _ _ _ (Nat.lt_succ_self _) hI2 hFm2 Fr.rf hGm2 FF.rf (by omega) (by have y := gTl_le (R := gPnE K Vt) (fun c x r => by have := r.2.2; omega) hg; omega) (by rw [(show S2.1 231 24 = S.1 231 24 from gL2_ 24 rfl), hc]; exact hg) (fun t t0 t1 => NO_z (hz2 t t0 (by omega)) (by omega)) (fun _ t t0 t1 => by rw [nv_z (hz2 t t0 (by omega)), Int.zero_mul]; omega) hW hL (lv_sub hl [0, 1, 2] rfl)
      · refine lv_aload_n hx hb dX12_pairs_10 rfl (lv_at hl 1 rfl) ?_
        refine g_X12_172 Cx hW (k := 231) (by decide) rfl (v := .ref (G.2.2.1 + 284)) (rd_94 hI2) dX12_pairs_11 ?_
        refine lv_bipush (v := iv 40) hx hb dX12_pairs_14 (by decide) ?_
        refine lv_iload_n hx hb dX12_pairs_16 rfl (lv_at hl 0 rfl) ?_
        refine r_imul hx hb dX12_pairs_17 ?_
        refine lv_iconst (v := iv 0) hx hb dX12_pairs_18 (by decide) ?_
        refine rIast Cx hW hL (k := 284) (by decide) rfl (by decide) (by omega) (by omega) dX12_pairs_19 (fun H locs hW hL => ?_)
        have F_63 : Fr S (uA S2 284 (40 * i) 0) (pl [231, 237, 284, 289]) := hFm2.A rfl
        have F_64 : Fr S (uA S2 284 (40 * i) 0) (pl [284]) := hL2_.A rfl
        have i_65 : dX G (uA S2 284 (40 * i) 0) := hI2.A (k := 284) (show (-2147483648) ≤ 0 ∧ 0 ≤ 2147483647 from ⟨by omega, by omega⟩)
        refine lv_iinc (v := iv (i + 1)) (lv' := [(1, .int (iv (i + 1))), (0, .ref (G.2.2.1 + 231))]) hx hb dX12_pairs_20 hl (k := 0) rfl ((Int32.ofInt_add _ _).symm) (by decide) rfl (fun ls hl => ?_)
        refine lv_goto (tgt := 2) hx hb dX12_pairs_23 (by decide) ?_
        exact ih_2 (uA S2 284 (40 * i) 0) (i + 1) _ _ _ (by omega) i_65 F_63 F_64 hGm2 gL2_ (by omega) (fun t a b => by rw [uA_get]; split; rfl; rename_i z; exact hz2 t a (by omega)) hW hL (lv_sub hl [0, 1] rfl)
  exact loop_2 (_ + 1) S 0 _ _ _ (Nat.lt_succ_self _) hI (Fr.rf : Fr S S (pl [231, 237, 284, 289])) Fr.rf FF.rf FF.rf (by omega) (fun t a b => absurd b (by omega)) hW hL (lv_sub hl [0, 1] rfl)
