/-! The checker: numbers -/
theorem V_gt {f : Int → Int} {s : Int} : ∀ {n : Nat}, (∀ i : Int, s ≤ i → i < s + n → 0 ≤ f i) → (∃ i : Int, s ≤ i ∧ i < s + n ∧ f i ≠ 0) → 0 < V f s n := by
  intro n
  induction n with
  | zero => intro _ h; obtain ⟨i, a, b, _⟩ := h; omega
  | succ n ih =>
    intro h0 h
    rw [V_s]
    have p := pw_pos n
    have hn := h0 (s + n) (by omega) (by omega)
    have hv := V_0 (f := f) (s := s) (n := n) (fun i a b => h0 i a (by omega))
    have hm := Int.mul_nonneg hn (Int.le_of_lt p)
    obtain ⟨i, a, b, c⟩ := h
    by_cases q : i = s + n
    · have : 0 < f (s + n) * pw n := Int.mul_pos (by rw [q] at c; omega) p
      omega
    · have := ih (fun i a b => h0 i a (by omega)) ⟨i, a, by omega, c⟩
      omega
def p10 (i : Int) : Int := 10 ^ i.toNat
theorem p10_s {i : Int} (h : 0 ≤ i) : p10 (i + 1) = 10 * p10 i := by
  unfold p10; rw [show (i + 1).toNat = i.toNat + 1 by omega, Int.pow_succ]; omega
theorem p10_b {i : Int} (h : 0 ≤ i ∧ i ≤ 8) : p10 i ≤ 100000000 := by
  unfold p10
  obtain ⟨n, e⟩ : ∃ n : Nat, i.toNat = n := ⟨_, rfl⟩
  rw [e]
  have : n ≤ 8 := by omega
  match n, this with
  | 0, _ => decide
  | 1, _ => decide
  | 2, _ => decide
  | 3, _ => decide
  | 4, _ => decide
  | 5, _ => decide
  | 6, _ => decide
  | 7, _ => decide
  | 8, _ => decide
theorem p10_9 {i : Int} (h : 0 ≤ i ∧ i ≤ 9) : p10 i ≤ 1000000000 := by
  by_cases q : i = 9
  · rw [q]; decide
  · have := p10_b (i := i) (by omega); omega
set_option maxRecDepth 100000 in
set_option maxHeartbeats 4000000 in
theorem s_X12_numberAt (l : Launch) (G : sG) (S : sS) {ka Nka : Nat} {Xt Fm Wd Vt : Int → Int} {tk po : Int} (hI : dX G S) (hika : ia ka Nka) (nka243 : Hd (ka ≠ 243)) (nka245 : Hd (ka ≠ 245)) (nka246 : Hd (ka ≠ 246)) (nka247 : Hd (ka ≠ 247)) (hX : S.2.1 243 = Xt) (hFm : S.2.1 245 = Fm) (hWd : S.2.1 246 = Wd) (hVt : S.2.1 247 = Vt) (hnt : nTk Xt Fm Wd Vt tk) (htk : 0 ≤ tk ∧ tk < 30004) (hpo : 0 ≤ po ∧ po + 7 < Nka) : Met l yX12_numberAt (.code yX12_numberAt cX12_numberAt 10 none :: tb) (rmk 2 0 0) (sPc G 294 S [.ref (G.2.2.1 + 231), .int (iv tk), .ref (G.2.2.1 + ka), .int (iv po)]) (sQv G 294 (fun u => dX G u ∧ Fr S u (pl [ka]) ∧ FF S u (fl []) ∧ (NO (u.2.1 ka) po 7 ∧ Hd (Vt tk = 1 → 0 < nv (u.2.1 ka) po) ∧ ∀ x, x < po ∨ po + 7 < x → u.2.1 ka x = S.2.1 ka x))) 0 0 (sF G) := by
  refine sEnter (by decide) (Nat.le_of_ble_eq_true rfl) ?_
  intro p e s m args below meth c Cx hr hlk hnm hW ls hl
  have Cx : sC G p m c cX12_numberAt 10 s args RX12 := Cx
  obtain ⟨hx, hb, hml, hown, hts⟩ := id Cx.1
  have hL : sL G [] := sL_nil
  have hl : lv_has ls 10 [(0, .ref (G.2.2.1 + 231)), (1, .int (iv tk)), (2, .ref (G.2.2.1 + ka)), (3, .int (iv po))] := hl
  have hW0 := hW
  obtain ⟨⟨f0, f1⟩, v1, gn, hgn, hw6, hdg, hpos⟩ := hnt
  have hN := hika.2.2.2.1
  have e5 : S.2.1 245 tk = Fm tk := by rw [hFm]
  have e6 : S.2.1 246 tk = Wd tk := by rw [hWd]
  have e7 : S.2.1 247 tk = Vt tk := by rw [hVt]
  refine lv_aload_n hx hb dX12_numberAt_0 rfl (lv_at hl 0 rfl) ?_
  refine g_X12_50 Cx hW (k := 231) (by decide) rfl (v := .ref (G.2.2.1 + 245)) (rd_16 hI) dX12_numberAt_1 ?_
  refine lv_iload_n hx hb dX12_numberAt_4 rfl (lv_at hl 1 rfl) ?_
  refine rIald Cx hW (k := 245) (by decide) rfl (by decide) (by omega) (by omega) dX12_numberAt_5 ?_
  have q_1 : (-2147483648) ≤ S.2.1 245 tk ∧ S.2.1 245 tk ≤ 2147483647 := hI.ai 245 tk
  refine r_i (b := S.2.1 245 tk) rfl ?_
  refine lv_aload_n hx hb dX12_numberAt_6 rfl (lv_at hl 0 rfl) ?_
  refine g_X12_53 Cx hW (k := 231) (by decide) rfl (v := .ref (G.2.2.1 + 246)) (rd_17 hI) dX12_numberAt_7 ?_
  refine lv_iload_n hx hb dX12_numberAt_10 rfl (lv_at hl 1 rfl) ?_
  refine rIald Cx hW (k := 246) (by decide) rfl (by decide) (by omega) (by omega) dX12_numberAt_11 ?_
  have q_2 : (-2147483648) ≤ S.2.1 246 tk ∧ S.2.1 246 tk ≤ 2147483647 := hI.ai 246 tk
  refine r_i (b := S.2.1 246 tk) rfl ?_
  refine r_iadd hx hb dX12_numberAt_12 ?_
  refine lv_istore (lv' := [(4, .int (iv ((S.2.1 245 tk) + (S.2.1 246 tk)))), (0, .ref (G.2.2.1 + 231)), (1, .int (iv tk)), (2, .ref (G.2.2.1 + ka)), (3, .int (iv po))]) hx hb dX12_numberAt_13 hl (by decide) rfl (fun ls hl => ?_)
  refine lv_aload_n hx hb dX12_numberAt_15 rfl (lv_at hl 1 rfl) ?_
  refine g_X12_50 Cx hW (k := 231) (by decide) rfl (v := .ref (G.2.2.1 + 245)) (rd_16 hI) dX12_numberAt_16 ?_
  refine lv_iload_n hx hb dX12_numberAt_19 rfl (lv_at hl 2 rfl) ?_
  refine rIald Cx hW (k := 245) (by decide) rfl (by decide) (by omega) (by omega) dX12_numberAt_20 ?_
  refine r_i (b := S.2.1 245 tk) rfl ?_
  refine lv_aload_n hx hb dX12_numberAt_21 rfl (lv_at hl 1 rfl) ?_
  refine g_X12_44 Cx hW (k := 231) (by decide) rfl (v := .ref (G.2.2.1 + 243)) (rd_13 hI) dX12_numberAt_22 ?_
  refine lv_aload_n hx hb dX12_numberAt_25 rfl (lv_at hl 1 rfl) ?_
  refine g_X12_50 Cx hW (k := 231) (by decide) rfl (v := .ref (G.2.2.1 + 245)) (rd_16 hI) dX12_numberAt_26 ?_
  refine lv_iload_n hx hb dX12_numberAt_29 rfl (lv_at hl 2 rfl) ?_
  refine rIald Cx hW (k := 245) (by decide) rfl (by decide) (by omega) (by omega) dX12_numberAt_30 ?_
  refine r_i (b := S.2.1 245 tk) rfl ?_
  refine rBald Cx hW (k := 243) (by decide) rfl (by decide) (by omega) (by omega) dX12_numberAt_31 ?_
  have q_3 : (-128) ≤ S.2.1 243 (S.2.1 245 tk) ∧ S.2.1 243 (S.2.1 245 tk) ≤ 127 := hI.ai 243 (S.2.1 245 tk)
  refine r_i (b := S.2.1 243 (S.2.1 245 tk)) rfl ?_
  have hx0 : Xt (Fm tk) = S.2.1 243 (S.2.1 245 tk) := by rw [← hX, ← e5]
  refine lv_bipush (v := iv 45) hx hb dX12_numberAt_32 (by decide) ?_
  refine r_icmp_ne (tgt := 41) hx hb ⟨(by omega), (by omega)⟩ ⟨(by omega), (by omega)⟩ dX12_numberAt_34 (by decide) (fun c_4 => ?_) (fun c_4 => ?_)
  · refine lv_iconst (v := iv 0) hx hb dX12_numberAt_41 (by decide) ?_
    refine r_iadd hx hb dX12_numberAt_42 ?_
    refine lv_istore (lv' := [(5, .int (iv ((S.2.1 245 tk) + 0))), (4, .int (iv ((S.2.1 245 tk) + (S.2.1 246 tk)))), (0, .ref (G.2.2.1 + 231)), (1, .int (iv tk)), (2, .ref (G.2.2.1 + ka)), (3, .int (iv po))]) hx hb dX12_numberAt_43 hl (by decide) rfl (fun ls hl => ?_)
    have hlo : (S.2.1 245 tk) + 0 = Fm tk + gn := by rcases hgn with h | h; (have y := h.2; rw [← hX, ← e5] at y; omega); (have y := h.2; rw [← hX, ← e5] at y; omega)
    have hhi : (S.2.1 245 tk) + (S.2.1 246 tk) = Fm tk + Wd tk := by omega
    have hg01 : 0 ≤ gn ∧ gn ≤ 1 := by omega
    clear hgn
    refine lv_iconst (v := iv 0) hx hb dX12_numberAt_45 (by decide) ?_
    refine lv_istore (lv' := [(6, .int (iv 0)), (5, .int (iv ((S.2.1 245 tk) + 0))), (4, .int (iv ((S.2.1 245 tk) + (S.2.1 246 tk)))), (0, .ref (G.2.2.1 + 231)), (1, .int (iv tk)), (2, .ref (G.2.2.1 + ka)), (3, .int (iv po))]) hx hb dX12_numberAt_46 hl (by decide) rfl (fun ls hl => ?_)
    have loop_48 : ∀ (fuel : Nat) (S48 : sS) (c6 : Int) (hi : Int) (H : Heap) (locs : List Loc) (ls : Array Slot), (hi - (Fm tk + gn)).toNat < fuel → (dX G S48) → (Fr S S48 (pl [ka])) → (Fr S S48 (pl [ka])) → (FF S S48 (fl [])) → (FF S S48 (fl [])) → ((Fm tk + gn) ≤ hi ∧ hi ≤ (Fm tk + Wd tk) ∧ 0 ≤ c6 ∧ c6 ≤ 7) → (Hd (hi = (Fm tk + gn) ∨ (Fm tk + Wd tk) - hi = 9 * c6)) → (∀ j, 1 ≤ j → j ≤ c6 → 0 ≤ S48.2.1 ka (po + j) ∧ S48.2.1 ka (po + j) ≤ 999999999) → (∀ x, x < po ∨ po + 7 < x → S48.2.1 ka x = S.2.1 ka x) → (Hd ((∃ x, hi ≤ x ∧ x < (Fm tk + Wd tk) ∧ Xt x ≠ 48) → ∃ j, 1 ≤ j ∧ j ≤ c6 ∧ S48.2.1 ka (po + j) ≠ 0)) → sW G 294 S48 H → sL G locs → lv_has ls 10 [(6, .int (iv c6)), (5, .int (iv ((S.2.1 245 tk) + 0))), (4, .int (iv hi)), (0, .ref (G.2.2.1 + 231)), (1, .int (iv tk)), (2, .ref (G.2.2.1 + ka)), (3, .int (iv po))] → W p l e (rmk 2 0 0) s m args below meth c H locs 0 0 (MQ below (sQv G 294 (fun u => dX G u ∧ Fr S u (pl [ka]) ∧ FF S u (fl []) ∧ (NO (u.2.1 ka) po 7 ∧ Hd (Vt tk = 1 → 0 < nv (u.2.1 ka) po) ∧ ∀ x, x < po ∨ po + 7 < x → u.2.1 ka x = S.2.1 ka x))) args s 0 0 (sF G)) (F0 m 48 ls []) := by
      intro fuel
      induction fuel with
      | zero => intro S48 c6 hi H locs ls hmeas hI48 hFm48 hL48_ hGm48 gL48_ hh hh2 hl48 ho48 hp48 hW hL hl; exact absurd hmeas (Nat.not_lt_zero _)
      | succ fuel ih_48 =>
        intro S48 c6 hi H locs ls hmeas hI48 hFm48 hL48_ hGm48 gL48_ hh hh2 hl48 ho48 hp48 hW hL hl
        refine lv_iload hx hb dX12_numberAt_48 (lv_at hl 2 rfl) ?_
        refine lv_iload hx hb dX12_numberAt_50 (lv_at hl 1 rfl) ?_
        refine r_icmp_le (tgt := 123) hx hb ⟨(by omega), (by omega)⟩ ⟨(by omega), (by omega)⟩ dX12_numberAt_52 (by decide) (fun c_5 => ?_) (fun c_5 => ?_)
        · refine lv_aload_n hx hb dX12_numberAt_123 rfl (lv_at hl 5 rfl) ?_
          refine lv_iload_n hx hb dX12_numberAt_124 rfl (lv_at hl 6 rfl) ?_
          refine lv_iload hx hb dX12_numberAt_125 (lv_at hl 0 rfl) ?_
          refine lv_aload_n hx hb dX12_numberAt_127 rfl (lv_at hl 3 rfl) ?_
          refine g_X12_56 Cx hW (k := 231) (by decide) rfl (v := .ref (G.2.2.1 + 247)) (rd_18 hI48) dX12_numberAt_128 ?_
          refine lv_iload_n hx hb dX12_numberAt_131 rfl (lv_at hl 4 rfl) ?_
          refine rIald Cx hW (k := 247) (by decide) rfl (by decide) (by omega) (by omega) dX12_numberAt_132 ?_
          have q_6 : (-2147483648) ≤ S.2.1 247 tk ∧ S.2.1 247 tk ≤ 2147483647 := hI.ai 247 tk
          refine r_i (b := S.2.1 247 tk) ((hL48_ 247 (pl_c (neS nka247) rfl)).2.1 tk) ?_
          refine r_if_ge (tgt := 140) hx hb ⟨(by omega), (by omega)⟩ dX12_numberAt_133 (by decide) (fun c_7 => ?_) (fun c_7 => ?_)
          · refine lv_iconst (v := iv 1) hx hb dX12_numberAt_140 (by decide) ?_
            refine sBv (sSt (As := [.ref (G.2.2.1 + ka), .int (iv po), .int (iv c6), .int (iv 1)]) (rest := []) Cx (s_X12_trim l G S48 (ka := ka) (po := po) (n0 := c6) (sn := 1) (Nka := Nka) hI48 hika (by omega) (by omega) (fun z => absurd z (by decide)) (fun j j0 j1 => hl48 (j + 1) (by omega) (by omega))) (c_X12_237 Cx rfl rfl (rmk_ok (by omega) (by decide))) hW rfl hl.1 rfl (Nat.le_of_ble_eq_true rfl) dX12_numberAt_141 ⟨Nat.le_of_ble_eq_true rfl, Nat.le_of_ble_eq_true rfl⟩) hL (fun u_8 H locs k_9 hW hL => ?_)
            obtain ⟨iu_8, fu_8, xu_8⟩ := k_9
            have F_10 := hFm48.trans (fu_8.to (p1_sub pl_h))
            have F_11 := hL48_.trans (fu_8.to (p1_sub pl_h))
            have g_12 : FF S u_8 (fl []) := FF.fr hGm48 fu_8 (p1_no (tau_ne (rfl : tau 231 = .inl 12) hika.1 (fun h => by cases h)))
            have g_13 : FF S u_8 (fl []) := FF.fr gL48_ fu_8 (p1_no (tau_ne (rfl : tau 231 = .inl 12) hika.1 (fun h => by cases h)))
            exact sVret Cx hr hlk hW hL ⟨iu_8, F_10, g_12, ⟨xu_8.1.mono (by omega), (fun z => by rw [xu_8.2.1, show (1 : Int) = 1 by omega, Int.one_mul]; refine V_gt (fun i a b => (hl48 (i + 1) (by omega) (by omega)).1) ?_; obtain ⟨x, a, b, d⟩ := hpos z; obtain ⟨j, j0, j1, j2⟩ := hp48 ⟨x, by omega, b, d⟩; exact ⟨j - 1, by omega, by omega, by show S48.2.1 ka (po + (j - 1 + 1)) ≠ 0; rw [show j - 1 + 1 = j by omega]; exact j2⟩), (fun x a => (xu_8.2.2 x (by omega)).trans (ho48 x a))⟩⟩ dX12_numberAt_144
          · refine lv_iconst (v := iv (-1)) hx hb dX12_numberAt_136 (by decide) ?_
            refine lv_goto (tgt := 141) hx hb dX12_numberAt_137 (by decide) ?_
            refine sBv (sSt (As := [.ref (G.2.2.1 + ka), .int (iv po), .int (iv c6), .int (iv ((-1)))]) (rest := []) Cx (s_X12_trim l G S48 (ka := ka) (po := po) (n0 := c6) (sn := (-1)) (Nka := Nka) hI48 hika (by omega) (by omega) (fun z => absurd z (by decide)) (fun j j0 j1 => hl48 (j + 1) (by omega) (by omega))) (c_X12_237 Cx rfl rfl (rmk_ok (by omega) (by decide))) hW rfl hl.1 rfl (Nat.le_of_ble_eq_true rfl) dX12_numberAt_141 ⟨Nat.le_of_ble_eq_true rfl, Nat.le_of_ble_eq_true rfl⟩) hL (fun u_14 H locs k_15 hW hL => ?_)
            obtain ⟨iu_14, fu_14, xu_14⟩ := k_15
            have F_16 := hFm48.trans (fu_14.to (p1_sub pl_h))
            have F_17 := hL48_.trans (fu_14.to (p1_sub pl_h))
            have g_18 : FF S u_14 (fl []) := FF.fr hGm48 fu_14 (p1_no (tau_ne (rfl : tau 231 = .inl 12) hika.1 (fun h => by cases h)))
            have g_19 : FF S u_14 (fl []) := FF.fr gL48_ fu_14 (p1_no (tau_ne (rfl : tau 231 = .inl 12) hika.1 (fun h => by cases h)))
            exact sVret Cx hr hlk hW hL ⟨iu_14, F_16, g_18, ⟨xu_14.1.mono (by omega), (fun z => by rw [xu_14.2.1, show ((-1) : Int) = 1 by omega, Int.one_mul]; refine V_gt (fun i a b => (hl48 (i + 1) (by omega) (by omega)).1) ?_; obtain ⟨x, a, b, d⟩ := hpos z; obtain ⟨j, j0, j1, j2⟩ := hp48 ⟨x, by omega, b, d⟩; exact ⟨j - 1, by omega, by omega, by show S48.2.1 ka (po + (j - 1 + 1)) ≠ 0; rw [show j - 1 + 1 = j by omega]; exact j2⟩), (fun x a => (xu_14.2.2 x (by omega)).trans (ho48 x a))⟩⟩ dX12_numberAt_144
        · have hh3 : Fm tk + Wd tk - hi = 9 * c6 := by rcases hh2 with h | h; (omega); exact h
          refine lv_iload hx hb dX12_numberAt_55 (lv_at hl 1 rfl) ?_
          refine lv_iload hx hb dX12_numberAt_57 (lv_at hl 2 rfl) ?_
          refine lv_bipush (v := iv 9) hx hb dX12_numberAt_59 (by decide) ?_
          refine r_isub hx hb dX12_numberAt_61 ?_
          refine r_max hx hb (hml.trans hl.1.symm) hown (hts _ w_2745) (hts _ w_242) (hts _ w_206) (hts _ w_243) (rmk_f (by omega)) (rmk_l (by omega) (Nat.le_of_ble_eq_true rfl)) (Nat.le_of_ble_eq_true rfl) (Nat.le_of_ble_eq_true rfl) ⟨(by omega), (by omega)⟩ ⟨(by omega), (by omega)⟩ dX12_numberAt_62 (fun s7 hs7 => ?_)
          refine lv_istore (lv' := [(7, .int (iv s7)), (6, .int (iv c6)), (5, .int (iv ((S.2.1 245 tk) + 0))), (4, .int (iv hi)), (0, .ref (G.2.2.1 + 231)), (1, .int (iv tk)), (2, .ref (G.2.2.1 + ka)), (3, .int (iv po))]) hx hb dX12_numberAt_65 hl (by decide) rfl (fun ls hl => ?_)
          refine lv_iconst (v := iv 0) hx hb dX12_numberAt_67 (by decide) ?_
          refine lv_istore (lv' := [(8, .int (iv 0)), (7, .int (iv s7)), (6, .int (iv c6)), (5, .int (iv ((S.2.1 245 tk) + 0))), (4, .int (iv hi)), (0, .ref (G.2.2.1 + 231)), (1, .int (iv tk)), (2, .ref (G.2.2.1 + ka)), (3, .int (iv po))]) hx hb dX12_numberAt_68 hl (by decide) rfl (fun ls hl => ?_)
          refine lv_iload hx hb dX12_numberAt_70 (lv_at hl 1 rfl) ?_
          refine lv_istore (lv' := [(9, .int (iv s7)), (8, .int (iv 0)), (7, .int (iv s7)), (6, .int (iv c6)), (5, .int (iv ((S.2.1 245 tk) + 0))), (4, .int (iv hi)), (0, .ref (G.2.2.1 + 231)), (1, .int (iv tk)), (2, .ref (G.2.2.1 + ka)), (3, .int (iv po))]) hx hb dX12_numberAt_72 hl (by decide) rfl (fun ls hl => ?_)
          have loop_74 : ∀ (fuel : Nat) (x9 : Int) (vv : Int) (H : Heap) (locs : List Loc) (ls : Array Slot), (hi - x9).toNat < fuel → (s7 ≤ x9 ∧ x9 ≤ hi ∧ hi ≤ s7 + 9) → (0 ≤ vv ∧ vv < p10 (x9 - s7)) → (Hd ((∃ x, s7 ≤ x ∧ x < x9 ∧ Xt x ≠ 48) → 1 ≤ vv)) → sW G 294 S48 H → sL G locs → lv_has ls 10 [(9, .int (iv x9)), (8, .int (iv vv)), (7, .int (iv s7)), (6, .int (iv c6)), (5, .int (iv ((S.2.1 245 tk) + 0))), (4, .int (iv hi)), (0, .ref (G.2.2.1 + 231)), (1, .int (iv tk)), (2, .ref (G.2.2.1 + ka)), (3, .int (iv po))] → W p l e (rmk 2 0 0) s m args below meth c H locs 0 0 (MQ below (sQv G 294 (fun u => dX G u ∧ Fr S u (pl [ka]) ∧ FF S u (fl []) ∧ (NO (u.2.1 ka) po 7 ∧ Hd (Vt tk = 1 → 0 < nv (u.2.1 ka) po) ∧ ∀ x, x < po ∨ po + 7 < x → u.2.1 ka x = S.2.1 ka x))) args s 0 0 (sF G)) (F0 m 74 ls []) := by
            intro fuel
            induction fuel with
            | zero => intro x9 vv H locs ls hmeas hx9 hv9 hv74 hW hL hl; exact absurd hmeas (Nat.not_lt_zero _)
            | succ fuel ih_74 =>
              intro x9 vv H locs ls hmeas hx9 hv9 hv74 hW hL hl
              refine lv_iload hx hb dX12_numberAt_74 (lv_at hl 0 rfl) ?_
              refine lv_iload hx hb dX12_numberAt_76 (lv_at hl 5 rfl) ?_
              refine r_icmp_ge (tgt := 105) hx hb ⟨(by omega), (by omega)⟩ ⟨(by omega), (by omega)⟩ dX12_numberAt_78 (by decide) (fun c_20 => ?_) (fun c_20 => ?_)
              · have hp9 := p10_9 (i := x9 - s7) (by omega)
                refine lv_iinc (v := iv (c6 + 1)) (lv' := [(6, .int (iv (c6 + 1))), (9, .int (iv x9)), (8, .int (iv vv)), (7, .int (iv s7)), (5, .int (iv ((S.2.1 245 tk) + 0))), (4, .int (iv hi)), (0, .ref (G.2.2.1 + 231)), (1, .int (iv tk)), (2, .ref (G.2.2.1 + ka)), (3, .int (iv po))]) hx hb dX12_numberAt_105 hl (k := 3) rfl ((Int32.ofInt_add _ _).symm) (by decide) rfl (fun ls hl => ?_)
                refine lv_aload_n hx hb dX12_numberAt_108 rfl (lv_at hl 8 rfl) ?_
                refine lv_iload_n hx hb dX12_numberAt_109 rfl (lv_at hl 9 rfl) ?_
                refine lv_iload hx hb dX12_numberAt_110 (lv_at hl 0 rfl) ?_
                refine r_iadd hx hb dX12_numberAt_112 ?_
                refine lv_iload hx hb dX12_numberAt_113 (lv_at hl 2 rfl) ?_
                refine rIast Cx hW hL (k := ka) hika.lt hika.1 (by omega) (by omega) (by omega) dX12_numberAt_115 (fun H locs hW hL => ?_)
                have F_21 : Fr S (uA S48 ka (po + (c6 + 1)) vv) (pl [ka]) := hFm48.A pl_h
                have F_22 : Fr S (uA S48 ka (po + (c6 + 1)) vv) (pl [ka]) := hL48_.A pl_h
                have i_23 : dX G (uA S48 ka (po + (c6 + 1)) vv) := hI48.Aj hika ⟨by omega, by omega⟩
                refine lv_iload hx hb dX12_numberAt_116 (lv_at hl 3 rfl) ?_
                refine lv_istore (lv' := [(4, .int (iv s7)), (6, .int (iv (c6 + 1))), (9, .int (iv x9)), (8, .int (iv vv)), (7, .int (iv s7)), (5, .int (iv ((S.2.1 245 tk) + 0))), (0, .ref (G.2.2.1 + 231)), (1, .int (iv tk)), (2, .ref (G.2.2.1 + ka)), (3, .int (iv po))]) hx hb dX12_numberAt_118 hl (by decide) rfl (fun ls hl => ?_)
                refine lv_goto (tgt := 48) hx hb dX12_numberAt_120 (by decide) ?_
                exact ih_48 (uA S48 ka (po + (c6 + 1)) vv) (c6 + 1) s7 _ _ _ (by omega) i_23 F_21 F_22 hGm48 gL48_ (by omega) (by show _ ∨ _; omega) (fun j j0 j1 => by rw [uA_get]; by_cases z : j = c6 + 1; (rw [if_pos ⟨rfl, (by omega)⟩]; omega); rw [if_neg (fun h => z (by have := h.2; omega))]; exact hl48 j j0 (by omega)) (fun x a => by rw [uA_ne (fun h => by have := h.2; omega)]; exact ho48 x a) (fun hh => by obtain ⟨x, a, b, d⟩ := hh; by_cases z : x < hi; (exact ⟨c6 + 1, by omega, by omega, by rw [uA_get, if_pos ⟨rfl, (by omega)⟩]; have y := hv74 ⟨x, by omega, by omega, d⟩; omega⟩); (obtain ⟨j, j0, j1, j2⟩ := hp48 ⟨x, by omega, b, d⟩; exact ⟨j, j0, by omega, by rw [uA_ne (fun h => by have := h.2; omega)]; exact j2⟩)) hW hL (lv_sub hl [1, 5, 0, 6, 7, 8, 9] rfl)
              · have hdx := hdg x9 (by omega) (by omega)
                have hp8 := p10_b (i := x9 - s7) (by omega)
                refine lv_bipush (v := iv 10) hx hb dX12_numberAt_81 (by decide) ?_
                refine lv_iload hx hb dX12_numberAt_83 (lv_at hl 1 rfl) ?_
                refine r_imul hx hb dX12_numberAt_85 ?_
                refine lv_aload_n hx hb dX12_numberAt_86 rfl (lv_at hl 6 rfl) ?_
                refine g_X12_44 Cx hW (k := 231) (by decide) rfl (v := .ref (G.2.2.1 + 243)) (rd_13 hI48) dX12_numberAt_87 ?_
                refine lv_iload hx hb dX12_numberAt_90 (lv_at hl 0 rfl) ?_
                refine rBald Cx hW (k := 243) (by decide) rfl (by decide) (by omega) (by omega) dX12_numberAt_92 ?_
                have q_24 : (-128) ≤ S.2.1 243 x9 ∧ S.2.1 243 x9 ≤ 127 := hI.ai 243 x9
                refine r_i (b := S.2.1 243 x9) ((hL48_ 243 (pl_c (neS nka243) rfl)).2.1 x9) ?_
                have hrx : Xt x9 = S.2.1 243 x9 := by rw [← hX]
                refine r_iadd hx hb dX12_numberAt_93 ?_
                refine lv_bipush (v := iv 48) hx hb dX12_numberAt_94 (by decide) ?_
                refine r_isub hx hb dX12_numberAt_96 ?_
                refine lv_istore (lv' := [(8, .int (iv (((10 * vv) + (S.2.1 243 x9)) - 48))), (9, .int (iv x9)), (7, .int (iv s7)), (6, .int (iv c6)), (5, .int (iv ((S.2.1 245 tk) + 0))), (4, .int (iv hi)), (0, .ref (G.2.2.1 + 231)), (1, .int (iv tk)), (2, .ref (G.2.2.1 + ka)), (3, .int (iv po))]) hx hb dX12_numberAt_97 hl (by decide) rfl (fun ls hl => ?_)
                refine lv_iinc (v := iv (x9 + 1)) (lv' := [(9, .int (iv (x9 + 1))), (8, .int (iv (((10 * vv) + (S.2.1 243 x9)) - 48))), (7, .int (iv s7)), (6, .int (iv c6)), (5, .int (iv ((S.2.1 245 tk) + 0))), (4, .int (iv hi)), (0, .ref (G.2.2.1 + 231)), (1, .int (iv tk)), (2, .ref (G.2.2.1 + ka)), (3, .int (iv po))]) hx hb dX12_numberAt_99 hl (k := 1) rfl ((Int32.ofInt_add _ _).symm) (by decide) rfl (fun ls hl => ?_)
                refine lv_goto (tgt := 74) hx hb dX12_numberAt_102 (by decide) ?_
                exact ih_74 (x9 + 1) (((10 * vv) + (S.2.1 243 x9)) - 48) _ _ _ (by omega) (by omega) (by rw [show x9 + 1 - s7 = (x9 - s7) + 1 by omega, p10_s (by omega)]; omega) (fun hh => by obtain ⟨x, a, b, d⟩ := hh; by_cases z : x = x9; (rw [z] at d; omega); (have y := hv74 ⟨x, a, by omega, d⟩; omega)) hW hL (lv_sub hl [0, 1, 2, 3, 4, 5, 6, 7, 8, 9] rfl)
          exact loop_74 (_ + 1) s7 0 _ _ _ (Nat.lt_succ_self _) (by omega) (by rw [Int.sub_self]; decide) (fun hh => by obtain ⟨x, a, b, d⟩ := hh; exfalso; omega) hW hL (lv_sub hl [0, 1, 2, 3, 4, 5, 6, 7, 8, 9] rfl)
    exact loop_48 (_ + 1) S 0 ((S.2.1 245 tk) + (S.2.1 246 tk)) _ _ _ (Nat.lt_succ_self _) hI (Fr.rf : Fr S S (pl [ka])) Fr.rf FF.rf FF.rf (by omega) (.inr (by omega)) (fun j a b => absurd b (by omega)) (fun x _ => rfl) (fun hh => by obtain ⟨x, a, b, d⟩ := hh; exfalso; omega) hW hL (lv_sub hl [0, 1, 2, 3, 4, 5, 6] rfl)
  · refine lv_iconst (v := iv 1) hx hb dX12_numberAt_37 (by decide) ?_
    refine lv_goto (tgt := 42) hx hb dX12_numberAt_38 (by decide) ?_
    refine r_iadd hx hb dX12_numberAt_42 ?_
    refine lv_istore (lv' := [(5, .int (iv ((S.2.1 245 tk) + 1))), (4, .int (iv ((S.2.1 245 tk) + (S.2.1 246 tk)))), (0, .ref (G.2.2.1 + 231)), (1, .int (iv tk)), (2, .ref (G.2.2.1 + ka)), (3, .int (iv po))]) hx hb dX12_numberAt_43 hl (by decide) rfl (fun ls hl => ?_)
    have hlo : (S.2.1 245 tk) + 1 = Fm tk + gn := by rcases hgn with h | h; (have y := h.2; rw [← hX, ← e5] at y; omega); (have y := h.2; rw [← hX, ← e5] at y; omega)
    have hhi : (S.2.1 245 tk) + (S.2.1 246 tk) = Fm tk + Wd tk := by omega
    have hg01 : 0 ≤ gn ∧ gn ≤ 1 := by omega
    clear hgn
    refine lv_iconst (v := iv 0) hx hb dX12_numberAt_45 (by decide) ?_
    refine lv_istore (lv' := [(6, .int (iv 0)), (5, .int (iv ((S.2.1 245 tk) + 1))), (4, .int (iv ((S.2.1 245 tk) + (S.2.1 246 tk)))), (0, .ref (G.2.2.1 + 231)), (1, .int (iv tk)), (2, .ref (G.2.2.1 + ka)), (3, .int (iv po))]) hx hb dX12_numberAt_46 hl (by decide) rfl (fun ls hl => ?_)
    have loop_48 : ∀ (fuel : Nat) (S48 : sS) (c6 : Int) (hi : Int) (H : Heap) (locs : List Loc) (ls : Array Slot), (hi - (Fm tk + gn)).toNat < fuel → (dX G S48) → (Fr S S48 (pl [ka])) → (Fr S S48 (pl [ka])) → (FF S S48 (fl [])) → (FF S S48 (fl [])) → ((Fm tk + gn) ≤ hi ∧ hi ≤ (Fm tk + Wd tk) ∧ 0 ≤ c6 ∧ c6 ≤ 7) → (Hd (hi = (Fm tk + gn) ∨ (Fm tk + Wd tk) - hi = 9 * c6)) → (∀ j, 1 ≤ j → j ≤ c6 → 0 ≤ S48.2.1 ka (po + j) ∧ S48.2.1 ka (po + j) ≤ 999999999) → (∀ x, x < po ∨ po + 7 < x → S48.2.1 ka x = S.2.1 ka x) → (Hd ((∃ x, hi ≤ x ∧ x < (Fm tk + Wd tk) ∧ Xt x ≠ 48) → ∃ j, 1 ≤ j ∧ j ≤ c6 ∧ S48.2.1 ka (po + j) ≠ 0)) → sW G 294 S48 H → sL G locs → lv_has ls 10 [(6, .int (iv c6)), (5, .int (iv ((S.2.1 245 tk) + 1))), (4, .int (iv hi)), (0, .ref (G.2.2.1 + 231)), (1, .int (iv tk)), (2, .ref (G.2.2.1 + ka)), (3, .int (iv po))] → W p l e (rmk 2 0 0) s m args below meth c H locs 0 0 (MQ below (sQv G 294 (fun u => dX G u ∧ Fr S u (pl [ka]) ∧ FF S u (fl []) ∧ (NO (u.2.1 ka) po 7 ∧ Hd (Vt tk = 1 → 0 < nv (u.2.1 ka) po) ∧ ∀ x, x < po ∨ po + 7 < x → u.2.1 ka x = S.2.1 ka x))) args s 0 0 (sF G)) (F0 m 48 ls []) := by
      intro fuel
      induction fuel with
      | zero => intro S48 c6 hi H locs ls hmeas hI48 hFm48 hL48_ hGm48 gL48_ hh hh2 hl48 ho48 hp48 hW hL hl; exact absurd hmeas (Nat.not_lt_zero _)
      | succ fuel ih_48 =>
        intro S48 c6 hi H locs ls hmeas hI48 hFm48 hL48_ hGm48 gL48_ hh hh2 hl48 ho48 hp48 hW hL hl
        refine lv_iload hx hb dX12_numberAt_48 (lv_at hl 2 rfl) ?_
        refine lv_iload hx hb dX12_numberAt_50 (lv_at hl 1 rfl) ?_
        refine r_icmp_le (tgt := 123) hx hb ⟨(by omega), (by omega)⟩ ⟨(by omega), (by omega)⟩ dX12_numberAt_52 (by decide) (fun c_25 => ?_) (fun c_25 => ?_)
        · refine lv_aload_n hx hb dX12_numberAt_123 rfl (lv_at hl 5 rfl) ?_
          refine lv_iload_n hx hb dX12_numberAt_124 rfl (lv_at hl 6 rfl) ?_
          refine lv_iload hx hb dX12_numberAt_125 (lv_at hl 0 rfl) ?_
          refine lv_aload_n hx hb dX12_numberAt_127 rfl (lv_at hl 3 rfl) ?_
          refine g_X12_56 Cx hW (k := 231) (by decide) rfl (v := .ref (G.2.2.1 + 247)) (rd_18 hI48) dX12_numberAt_128 ?_
          refine lv_iload_n hx hb dX12_numberAt_131 rfl (lv_at hl 4 rfl) ?_
          refine rIald Cx hW (k := 247) (by decide) rfl (by decide) (by omega) (by omega) dX12_numberAt_132 ?_
          have q_26 : (-2147483648) ≤ S.2.1 247 tk ∧ S.2.1 247 tk ≤ 2147483647 := hI.ai 247 tk
          refine r_i (b := S.2.1 247 tk) ((hL48_ 247 (pl_c (neS nka247) rfl)).2.1 tk) ?_
          refine r_if_ge (tgt := 140) hx hb ⟨(by omega), (by omega)⟩ dX12_numberAt_133 (by decide) (fun c_27 => ?_) (fun c_27 => ?_)
          · refine lv_iconst (v := iv 1) hx hb dX12_numberAt_140 (by decide) ?_
            refine sBv (sSt (As := [.ref (G.2.2.1 + ka), .int (iv po), .int (iv c6), .int (iv 1)]) (rest := []) Cx (s_X12_trim l G S48 (ka := ka) (po := po) (n0 := c6) (sn := 1) (Nka := Nka) hI48 hika (by omega) (by omega) (fun z => absurd z (by decide)) (fun j j0 j1 => hl48 (j + 1) (by omega) (by omega))) (c_X12_237 Cx rfl rfl (rmk_ok (by omega) (by decide))) hW rfl hl.1 rfl (Nat.le_of_ble_eq_true rfl) dX12_numberAt_141 ⟨Nat.le_of_ble_eq_true rfl, Nat.le_of_ble_eq_true rfl⟩) hL (fun u_28 H locs k_29 hW hL => ?_)
            obtain ⟨iu_28, fu_28, xu_28⟩ := k_29
            have F_30 := hFm48.trans (fu_28.to (p1_sub pl_h))
            have F_31 := hL48_.trans (fu_28.to (p1_sub pl_h))
            have g_32 : FF S u_28 (fl []) := FF.fr hGm48 fu_28 (p1_no (tau_ne (rfl : tau 231 = .inl 12) hika.1 (fun h => by cases h)))
            have g_33 : FF S u_28 (fl []) := FF.fr gL48_ fu_28 (p1_no (tau_ne (rfl : tau 231 = .inl 12) hika.1 (fun h => by cases h)))
            exact sVret Cx hr hlk hW hL ⟨iu_28, F_30, g_32, ⟨xu_28.1.mono (by omega), (fun z => by rw [xu_28.2.1, show (1 : Int) = 1 by omega, Int.one_mul]; refine V_gt (fun i a b => (hl48 (i + 1) (by omega) (by omega)).1) ?_; obtain ⟨x, a, b, d⟩ := hpos z; obtain ⟨j, j0, j1, j2⟩ := hp48 ⟨x, by omega, b, d⟩; exact ⟨j - 1, by omega, by omega, by show S48.2.1 ka (po + (j - 1 + 1)) ≠ 0; rw [show j - 1 + 1 = j by omega]; exact j2⟩), (fun x a => (xu_28.2.2 x (by omega)).trans (ho48 x a))⟩⟩ dX12_numberAt_144
          · refine lv_iconst (v := iv (-1)) hx hb dX12_numberAt_136 (by decide) ?_
            refine lv_goto (tgt := 141) hx hb dX12_numberAt_137 (by decide) ?_
            refine sBv (sSt (As := [.ref (G.2.2.1 + ka), .int (iv po), .int (iv c6), .int (iv ((-1)))]) (rest := []) Cx (s_X12_trim l G S48 (ka := ka) (po := po) (n0 := c6) (sn := (-1)) (Nka := Nka) hI48 hika (by omega) (by omega) (fun z => absurd z (by decide)) (fun j j0 j1 => hl48 (j + 1) (by omega) (by omega))) (c_X12_237 Cx rfl rfl (rmk_ok (by omega) (by decide))) hW rfl hl.1 rfl (Nat.le_of_ble_eq_true rfl) dX12_numberAt_141 ⟨Nat.le_of_ble_eq_true rfl, Nat.le_of_ble_eq_true rfl⟩) hL (fun u_34 H locs k_35 hW hL => ?_)
            obtain ⟨iu_34, fu_34, xu_34⟩ := k_35
            have F_36 := hFm48.trans (fu_34.to (p1_sub pl_h))
            have F_37 := hL48_.trans (fu_34.to (p1_sub pl_h))
            have g_38 : FF S u_34 (fl []) := FF.fr hGm48 fu_34 (p1_no (tau_ne (rfl : tau 231 = .inl 12) hika.1 (fun h => by cases h)))
            have g_39 : FF S u_34 (fl []) := FF.fr gL48_ fu_34 (p1_no (tau_ne (rfl : tau 231 = .inl 12) hika.1 (fun h => by cases h)))
            exact sVret Cx hr hlk hW hL ⟨iu_34, F_36, g_38, ⟨xu_34.1.mono (by omega), (fun z => by rw [xu_34.2.1, show ((-1) : Int) = 1 by omega, Int.one_mul]; refine V_gt (fun i a b => (hl48 (i + 1) (by omega) (by omega)).1) ?_; obtain ⟨x, a, b, d⟩ := hpos z; obtain ⟨j, j0, j1, j2⟩ := hp48 ⟨x, by omega, b, d⟩; exact ⟨j - 1, by omega, by omega, by show S48.2.1 ka (po + (j - 1 + 1)) ≠ 0; rw [show j - 1 + 1 = j by omega]; exact j2⟩), (fun x a => (xu_34.2.2 x (by omega)).trans (ho48 x a))⟩⟩ dX12_numberAt_144
        · have hh3 : Fm tk + Wd tk - hi = 9 * c6 := by rcases hh2 with h | h; (omega); exact h
          refine lv_iload hx hb dX12_numberAt_55 (lv_at hl 1 rfl) ?_
          refine lv_iload hx hb dX12_numberAt_57 (lv_at hl 2 rfl) ?_
          refine lv_bipush (v := iv 9) hx hb dX12_numberAt_59 (by decide) ?_
          refine r_isub hx hb dX12_numberAt_61 ?_
          refine r_max hx hb (hml.trans hl.1.symm) hown (hts _ w_2745) (hts _ w_242) (hts _ w_206) (hts _ w_243) (rmk_f (by omega)) (rmk_l (by omega) (Nat.le_of_ble_eq_true rfl)) (Nat.le_of_ble_eq_true rfl) (Nat.le_of_ble_eq_true rfl) ⟨(by omega), (by omega)⟩ ⟨(by omega), (by omega)⟩ dX12_numberAt_62 (fun s7 hs7 => ?_)
          refine lv_istore (lv' := [(7, .int (iv s7)), (6, .int (iv c6)), (5, .int (iv ((S.2.1 245 tk) + 1))), (4, .int (iv hi)), (0, .ref (G.2.2.1 + 231)), (1, .int (iv tk)), (2, .ref (G.2.2.1 + ka)), (3, .int (iv po))]) hx hb dX12_numberAt_65 hl (by decide) rfl (fun ls hl => ?_)
          refine lv_iconst (v := iv 0) hx hb dX12_numberAt_67 (by decide) ?_
          refine lv_istore (lv' := [(8, .int (iv 0)), (7, .int (iv s7)), (6, .int (iv c6)), (5, .int (iv ((S.2.1 245 tk) + 1))), (4, .int (iv hi)), (0, .ref (G.2.2.1 + 231)), (1, .int (iv tk)), (2, .ref (G.2.2.1 + ka)), (3, .int (iv po))]) hx hb dX12_numberAt_68 hl (by decide) rfl (fun ls hl => ?_)
          refine lv_iload hx hb dX12_numberAt_70 (lv_at hl 1 rfl) ?_
          refine lv_istore (lv' := [(9, .int (iv s7)), (8, .int (iv 0)), (7, .int (iv s7)), (6, .int (iv c6)), (5, .int (iv ((S.2.1 245 tk) + 1))), (4, .int (iv hi)), (0, .ref (G.2.2.1 + 231)), (1, .int (iv tk)), (2, .ref (G.2.2.1 + ka)), (3, .int (iv po))]) hx hb dX12_numberAt_72 hl (by decide) rfl (fun ls hl => ?_)
          have loop_74 : ∀ (fuel : Nat) (x9 : Int) (vv : Int) (H : Heap) (locs : List Loc) (ls : Array Slot), (hi - x9).toNat < fuel → (s7 ≤ x9 ∧ x9 ≤ hi ∧ hi ≤ s7 + 9) → (0 ≤ vv ∧ vv < p10 (x9 - s7)) → (Hd ((∃ x, s7 ≤ x ∧ x < x9 ∧ Xt x ≠ 48) → 1 ≤ vv)) → sW G 294 S48 H → sL G locs → lv_has ls 10 [(9, .int (iv x9)), (8, .int (iv vv)), (7, .int (iv s7)), (6, .int (iv c6)), (5, .int (iv ((S.2.1 245 tk) + 1))), (4, .int (iv hi)), (0, .ref (G.2.2.1 + 231)), (1, .int (iv tk)), (2, .ref (G.2.2.1 + ka)), (3, .int (iv po))] → W p l e (rmk 2 0 0) s m args below meth c H locs 0 0 (MQ below (sQv G 294 (fun u => dX G u ∧ Fr S u (pl [ka]) ∧ FF S u (fl []) ∧ (NO (u.2.1 ka) po 7 ∧ Hd (Vt tk = 1 → 0 < nv (u.2.1 ka) po) ∧ ∀ x, x < po ∨ po + 7 < x → u.2.1 ka x = S.2.1 ka x))) args s 0 0 (sF G)) (F0 m 74 ls []) := by
            intro fuel
            induction fuel with
            | zero => intro x9 vv H locs ls hmeas hx9 hv9 hv74 hW hL hl; exact absurd hmeas (Nat.not_lt_zero _)
            | succ fuel ih_74 =>
              intro x9 vv H locs ls hmeas hx9 hv9 hv74 hW hL hl
              refine lv_iload hx hb dX12_numberAt_74 (lv_at hl 0 rfl) ?_
              refine lv_iload hx hb dX12_numberAt_76 (lv_at hl 5 rfl) ?_
              refine r_icmp_ge (tgt := 105) hx hb ⟨(by omega), (by omega)⟩ ⟨(by omega), (by omega)⟩ dX12_numberAt_78 (by decide) (fun c_40 => ?_) (fun c_40 => ?_)
              · have hp9 := p10_9 (i := x9 - s7) (by omega)
                refine lv_iinc (v := iv (c6 + 1)) (lv' := [(6, .int (iv (c6 + 1))), (9, .int (iv x9)), (8, .int (iv vv)), (7, .int (iv s7)), (5, .int (iv ((S.2.1 245 tk) + 1))), (4, .int (iv hi)), (0, .ref (G.2.2.1 + 231)), (1, .int (iv tk)), (2, .ref (G.2.2.1 + ka)), (3, .int (iv po))]) hx hb dX12_numberAt_105 hl (k := 3) rfl ((Int32.ofInt_add _ _).symm) (by decide) rfl (fun ls hl => ?_)
                refine lv_aload_n hx hb dX12_numberAt_108 rfl (lv_at hl 8 rfl) ?_
                refine lv_iload_n hx hb dX12_numberAt_109 rfl (lv_at hl 9 rfl) ?_
                refine lv_iload hx hb dX12_numberAt_110 (lv_at hl 0 rfl) ?_
                refine r_iadd hx hb dX12_numberAt_112 ?_
                refine lv_iload hx hb dX12_numberAt_113 (lv_at hl 2 rfl) ?_
                refine rIast Cx hW hL (k := ka) hika.lt hika.1 (by omega) (by omega) (by omega) dX12_numberAt_115 (fun H locs hW hL => ?_)
                have F_41 : Fr S (uA S48 ka (po + (c6 + 1)) vv) (pl [ka]) := hFm48.A pl_h
                have F_42 : Fr S (uA S48 ka (po + (c6 + 1)) vv) (pl [ka]) := hL48_.A pl_h
                have i_43 : dX G (uA S48 ka (po + (c6 + 1)) vv) := hI48.Aj hika ⟨by omega, by omega⟩
                refine lv_iload hx hb dX12_numberAt_116 (lv_at hl 3 rfl) ?_
                refine lv_istore (lv' := [(4, .int (iv s7)), (6, .int (iv (c6 + 1))), (9, .int (iv x9)), (8, .int (iv vv)), (7, .int (iv s7)), (5, .int (iv ((S.2.1 245 tk) + 1))), (0, .ref (G.2.2.1 + 231)), (1, .int (iv tk)), (2, .ref (G.2.2.1 + ka)), (3, .int (iv po))]) hx hb dX12_numberAt_118 hl (by decide) rfl (fun ls hl => ?_)
                refine lv_goto (tgt := 48) hx hb dX12_numberAt_120 (by decide) ?_
                exact ih_48 (uA S48 ka (po + (c6 + 1)) vv) (c6 + 1) s7 _ _ _ (by omega) i_43 F_41 F_42 hGm48 gL48_ (by omega) (by show _ ∨ _; omega) (fun j j0 j1 => by rw [uA_get]; by_cases z : j = c6 + 1; (rw [if_pos ⟨rfl, (by omega)⟩]; omega); rw [if_neg (fun h => z (by have := h.2; omega))]; exact hl48 j j0 (by omega)) (fun x a => by rw [uA_ne (fun h => by have := h.2; omega)]; exact ho48 x a) (fun hh => by obtain ⟨x, a, b, d⟩ := hh; by_cases z : x < hi; (exact ⟨c6 + 1, by omega, by omega, by rw [uA_get, if_pos ⟨rfl, (by omega)⟩]; have y := hv74 ⟨x, by omega, by omega, d⟩; omega⟩); (obtain ⟨j, j0, j1, j2⟩ := hp48 ⟨x, by omega, b, d⟩; exact ⟨j, j0, by omega, by rw [uA_ne (fun h => by have := h.2; omega)]; exact j2⟩)) hW hL (lv_sub hl [1, 5, 0, 6, 7, 8, 9] rfl)
              · have hdx := hdg x9 (by omega) (by omega)
                have hp8 := p10_b (i := x9 - s7) (by omega)
                refine lv_bipush (v := iv 10) hx hb dX12_numberAt_81 (by decide) ?_
                refine lv_iload hx hb dX12_numberAt_83 (lv_at hl 1 rfl) ?_
                refine r_imul hx hb dX12_numberAt_85 ?_
                refine lv_aload_n hx hb dX12_numberAt_86 rfl (lv_at hl 6 rfl) ?_
                refine g_X12_44 Cx hW (k := 231) (by decide) rfl (v := .ref (G.2.2.1 + 243)) (rd_13 hI48) dX12_numberAt_87 ?_
                refine lv_iload hx hb dX12_numberAt_90 (lv_at hl 0 rfl) ?_
                refine rBald Cx hW (k := 243) (by decide) rfl (by decide) (by omega) (by omega) dX12_numberAt_92 ?_
                have q_44 : (-128) ≤ S.2.1 243 x9 ∧ S.2.1 243 x9 ≤ 127 := hI.ai 243 x9
                refine r_i (b := S.2.1 243 x9) ((hL48_ 243 (pl_c (neS nka243) rfl)).2.1 x9) ?_
                have hrx : Xt x9 = S.2.1 243 x9 := by rw [← hX]
                refine r_iadd hx hb dX12_numberAt_93 ?_
                refine lv_bipush (v := iv 48) hx hb dX12_numberAt_94 (by decide) ?_
                refine r_isub hx hb dX12_numberAt_96 ?_
                refine lv_istore (lv' := [(8, .int (iv (((10 * vv) + (S.2.1 243 x9)) - 48))), (9, .int (iv x9)), (7, .int (iv s7)), (6, .int (iv c6)), (5, .int (iv ((S.2.1 245 tk) + 1))), (4, .int (iv hi)), (0, .ref (G.2.2.1 + 231)), (1, .int (iv tk)), (2, .ref (G.2.2.1 + ka)), (3, .int (iv po))]) hx hb dX12_numberAt_97 hl (by decide) rfl (fun ls hl => ?_)
                refine lv_iinc (v := iv (x9 + 1)) (lv' := [(9, .int (iv (x9 + 1))), (8, .int (iv (((10 * vv) + (S.2.1 243 x9)) - 48))), (7, .int (iv s7)), (6, .int (iv c6)), (5, .int (iv ((S.2.1 245 tk) + 1))), (4, .int (iv hi)), (0, .ref (G.2.2.1 + 231)), (1, .int (iv tk)), (2, .ref (G.2.2.1 + ka)), (3, .int (iv po))]) hx hb dX12_numberAt_99 hl (k := 1) rfl ((Int32.ofInt_add _ _).symm) (by decide) rfl (fun ls hl => ?_)
                refine lv_goto (tgt := 74) hx hb dX12_numberAt_102 (by decide) ?_
                exact ih_74 (x9 + 1) (((10 * vv) + (S.2.1 243 x9)) - 48) _ _ _ (by omega) (by omega) (by rw [show x9 + 1 - s7 = (x9 - s7) + 1 by omega, p10_s (by omega)]; omega) (fun hh => by obtain ⟨x, a, b, d⟩ := hh; by_cases z : x = x9; (rw [z] at d; omega); (have y := hv74 ⟨x, a, by omega, d⟩; omega)) hW hL (lv_sub hl [0, 1, 2, 3, 4, 5, 6, 7, 8, 9] rfl)
          exact loop_74 (_ + 1) s7 0 _ _ _ (Nat.lt_succ_self _) (by omega) (by rw [Int.sub_self]; decide) (fun hh => by obtain ⟨x, a, b, d⟩ := hh; exfalso; omega) hW hL (lv_sub hl [0, 1, 2, 3, 4, 5, 6, 7, 8, 9] rfl)
    exact loop_48 (_ + 1) S 0 ((S.2.1 245 tk) + (S.2.1 246 tk)) _ _ _ (Nat.lt_succ_self _) hI (Fr.rf : Fr S S (pl [ka])) Fr.rf FF.rf FF.rf (by omega) (.inr (by omega)) (fun j a b => absurd b (by omega)) (fun x _ => rfl) (fun hh => by obtain ⟨x, a, b, d⟩ := hh; exfalso; omega) hW hL (lv_sub hl [0, 1, 2, 3, 4, 5, 6] rfl)
