/-! The reference's NUMBERS by their values -/
theorem nb_in {f : Int → Int} {D : Int} : V f 0 (0 : Int).toNat + D * pw (0 : Int).toNat = D := by
  show 0 + D * 1 = D; omega
theorem nb_st {B f g : Int → Int} {po LO HI hi s7 c6 v : Int} (h : V (cf f po) 0 c6.toNat + dvn B LO (hi - LO).toNat * pw c6.toNat = dvn B LO (HI - LO).toNat) (h0 : 0 ≤ c6) (hc : HI - hi = 9 * c6) (hl : LO < hi) (hs : (9 ≤ hi - LO → s7 = hi - 9) ∧ (hi - LO < 9 → s7 = LO)) (hv : v = dvn B s7 (hi - s7).toNat) (hg : g (po + (c6 + 1)) = v) (ho : ∀ j, 0 ≤ j → j < c6 → g (po + (j + 1)) = f (po + (j + 1))) : V (cf g po) 0 (c6 + 1).toNat + dvn B LO (s7 - LO).toNat * pw (c6 + 1).toNat = dvn B LO (HI - LO).toNat := by
  have d := dvn_9 (B := B) (f := LO) (f0 := s7) (b := HI) (i := c6) (L := hi - LO) (by omega) (by omega) (by omega)
  rw [show HI - 9 * c6 - s7 = hi - s7 by omega, show (hi - LO - 9).toNat = (s7 - LO).toNat by omega, ← hv] at d
  rw [V_stp h0, ← h, d, V_cg (f := cf g po) (g := cf f po) (s := 0) (t := 0) (n := c6.toNat) (fun i a b => by show g (po + (0 + i + 1)) = f (po + (0 + i + 1)); rw [show 0 + i = i by omega]; exact ho i a (by omega)), show cf g po (0 + c6) = v by show g (po + (0 + c6 + 1)) = v; rw [show (0 : Int) + c6 = c6 by omega]; exact hg, show (c6 + 1).toNat = c6.toNat + 1 by omega, pw_s, Int.add_mul, Int.mul_assoc]
  omega
theorem nb_end {B f : Int → Int} {po LO HI hi c6 : Int} (h : V (cf f po) 0 c6.toNat + dvn B LO (hi - LO).toNat * pw c6.toNat = dvn B LO (HI - LO).toNat) (e : hi = LO) : V (cf f po) 0 c6.toNat = dvn B LO (HI - LO).toNat := by
  rw [e, show (LO - LO).toNat = 0 by omega, show dvn B LO 0 = 0 from rfl, Int.zero_mul] at h
  omega
theorem NVr.fin {X Fm Wd Vt : Int → Int} {t x gn sn D : Int} (h : NVr X Fm Wd Vt t x) (hg : (gn = 1 ∧ X (Fm t) = 45) ∨ (gn = 0 ∧ X (Fm t) ≠ 45)) (hD : D = dvn X (Fm t + gn) (Fm t + Wd t - (Fm t + gn)).toNat) (hD0 : 0 ≤ D) (hs : (Vt t < 0 → sn = -1) ∧ (0 ≤ Vt t → sn = 1)) : sn * D = x := by
  obtain ⟨h1, h2⟩ := h
  rcases hg with ⟨g1, g2⟩ | ⟨g1, g2⟩
  · rcases h2 with ⟨_, h2⟩ | ⟨h2, _⟩
    · rw [g1, show (Fm t + Wd t - (Fm t + 1)).toNat = (Wd t - 1).toNat by omega] at hD
      rw [← hD] at h2
      rcases h1 with ⟨a, b⟩ | ⟨a, b⟩ | ⟨a, b⟩
      · rw [hs.2 (by omega)]; omega
      · omega
      · rw [hs.1 (by omega)]; omega
    · exact absurd g2 h2
  · rcases h2 with ⟨h2, _⟩ | ⟨_, h2⟩
    · exact absurd h2 g2
    · rw [g1, show Fm t + 0 = Fm t by omega, show (Fm t + Wd t - Fm t).toNat = (Wd t).toNat by omega] at hD
      rw [← hD] at h2
      rcases h1 with ⟨a, b⟩ | ⟨a, b⟩ | ⟨a, b⟩
      · rw [hs.2 (by omega)]; omega
      · rw [hs.2 (by omega)]; omega
      · omega
set_option maxRecDepth 100000 in
set_option maxHeartbeats 4000000 in
theorem q_X12_numberAt (l : Launch) (G : sG) (S : sS) {ka Nka : Nat} {Xt Fm Wd Vt : Int → Int} {tk po xx : Int} (hI : dX G S) (hika : ia ka Nka) (nka243 : Hd (ka ≠ 243)) (nka245 : Hd (ka ≠ 245)) (nka246 : Hd (ka ≠ 246)) (nka247 : Hd (ka ≠ 247)) (hX : S.2.1 243 = Xt) (hFm : S.2.1 245 = Fm) (hWd : S.2.1 246 = Wd) (hVt : S.2.1 247 = Vt) (hnt : nTk Xt Fm Wd Vt tk) (hvx : Hd (NVr Xt Fm Wd Vt tk xx)) (htk : 0 ≤ tk ∧ tk < 30004) (hpo : 0 ≤ po ∧ po + 7 < Nka) : Met l yX12_numberAt (.code yX12_numberAt cX12_numberAt 10 none :: tb) (rmk 2 0 0) (sPc G 294 S [.ref (G.2.2.1 + 231), .int (iv tk), .ref (G.2.2.1 + ka), .int (iv po)]) (sQv G 294 (fun u => dX G u ∧ Fr S u (pl [ka]) ∧ FF S u (fl []) ∧ (NO (u.2.1 ka) po 7 ∧ Hd (nv (u.2.1 ka) po = xx) ∧ ∀ x, x < po ∨ po + 7 < x → u.2.1 ka x = S.2.1 ka x))) 0 0 (sF G) := by
  refine sEnter (by decide) (Nat.le_of_ble_eq_true rfl) ?_
  intro p e s m args below meth c Cx hr hlk hnm hW ls hl
  have Cx : sC G p m c cX12_numberAt 10 s args RX12 := Cx
  obtain ⟨hx, hb, hml, hown, hts⟩ := id Cx.1
  have hL : sL G [] := sL_nil
  have hl : lv_has ls 10 [(0, .ref (G.2.2.1 + 231)), (1, .int (iv tk)), (2, .ref (G.2.2.1 + ka)), (3, .int (iv po))] := hl
  have hW0 := hW
  obtain ⟨⟨f0, f1⟩, v1, gn, hgn, hw6, hdg, hpos⟩ := hnt
  have hN := hika.2.2.2.1
  have e5 : S.2.1 245 tk = Fm tk := by rw [hFm]
  have e6 : S.2.1 246 tk = Wd tk := by rw [hWd]
  have e7 : S.2.1 247 tk = Vt tk := by rw [hVt]
  refine lv_aload_n hx hb dX12_numberAt_0 rfl (lv_at hl 0 rfl) ?_
  refine g_X12_50 Cx hW (k := 231) (by decide) rfl (v := .ref (G.2.2.1 + 245)) (rd_16 hI) dX12_numberAt_1 ?_
  refine lv_iload_n hx hb dX12_numberAt_4 rfl (lv_at hl 1 rfl) ?_
  refine rIald Cx hW (k := 245) (by decide) rfl (by decide) (by omega) (by omega) dX12_numberAt_5 ?_
  have q_1 : (-2147483648) ≤ S.2.1 245 tk ∧ S.2.1 245 tk ≤ 2147483647 := hI.ai 245 tk
  refine r_i (b := S.2.1 245 tk) rfl ?_
  refine lv_aload_n hx hb dX12_numberAt_6 rfl (lv_at hl 0 rfl) ?_
  refine g_X12_53 Cx hW (k := 231) (by decide) rfl (v := .ref (G.2.2.1 + 246)) (rd_17 hI) dX12_numberAt_7 ?_
  refine lv_iload_n hx hb dX12_numberAt_10 rfl (lv_at hl 1 rfl) ?_
  refine rIald Cx hW (k := 246) (by decide) rfl (by decide) (by omega) (by omega) dX12_numberAt_11 ?_
  have q_2 : (-2147483648) ≤ S.2.1 246 tk ∧ S.2.1 246 tk ≤ 2147483647 := hI.ai 246 tk
  refine r_i (b := S.2.1 246 tk) rfl ?_
  refine r_iadd hx hb dX12_numberAt_12 ?_
  refine lv_istore (lv' := [(4, .int (iv ((S.2.1 245 tk) + (S.2.1 246 tk)))), (0, .ref (G.2.2.1 + 231)), (1, .int (iv tk)), (2, .ref (G.2.2.1 + ka)), (3, .int (iv po))]) hx hb dX12_numberAt_13 hl (by decide) rfl (fun ls hl => ?_)
  refine lv_aload_n hx hb dX12_numberAt_15 rfl (lv_at hl 1 rfl) ?_
  refine g_X12_50 Cx hW (k := 231) (by decide) rfl (v := .ref (G.2.2.1 + 245)) (rd_16 hI) dX12_numberAt_16 ?_
  refine lv_iload_n hx hb dX12_numberAt_19 rfl (lv_at hl 2 rfl) ?_
  refine rIald Cx hW (k := 245) (by decide) rfl (by decide) (by omega) (by omega) dX12_numberAt_20 ?_
  refine r_i (b := S.2.1 245 tk) rfl ?_
  refine lv_aload_n hx hb dX12_numberAt_21 rfl (lv_at hl 1 rfl) ?_
  refine g_X12_44 Cx hW (k := 231) (by decide) rfl (v := .ref (G.2.2.1 + 243)) (rd_13 hI) dX12_numberAt_22 ?_
  refine lv_aload_n hx hb dX12_numberAt_25 rfl (lv_at hl 1 rfl) ?_
  refine g_X12_50 Cx hW (k := 231) (by decide) rfl (v := .ref (G.2.2.1 + 245)) (rd_16 hI) dX12_numberAt_26 ?_
  refine lv_iload_n hx hb dX12_numberAt_29 rfl (lv_at hl 2 rfl) ?_
  refine rIald Cx hW (k := 245) (by decide) rfl (by decide) (by omega) (by omega) dX12_numberAt_30 ?_
  refine r_i (b := S.2.1 245 tk) rfl ?_
  refine rBald Cx hW (k := 243) (by decide) rfl (by decide) (by omega) (by omega) dX12_numberAt_31 ?_
  have q_3 : (-128) ≤ S.2.1 243 (S.2.1 245 tk) ∧ S.2.1 243 (S.2.1 245 tk) ≤ 127 := hI.ai 243 (S.2.1 245 tk)
  refine r_i (b := S.2.1 243 (S.2.1 245 tk)) rfl ?_
  have hx0 : Xt (Fm tk) = S.2.1 243 (S.2.1 245 tk) := by rw [← hX, ← e5]
  refine lv_bipush (v := iv 45) hx hb dX12_numberAt_32 (by decide) ?_
  refine r_icmp_ne (tgt := 41) hx hb ⟨(by omega), (by omega)⟩ ⟨(by omega), (by omega)⟩ dX12_numberAt_34 (by decide) (fun c_4 => ?_) (fun c_4 => ?_)
  · refine lv_iconst (v := iv 0) hx hb dX12_numberAt_41 (by decide) ?_
    refine r_iadd hx hb dX12_numberAt_42 ?_
    refine lv_istore (lv' := [(5, .int (iv ((S.2.1 245 tk) + 0))), (4, .int (iv ((S.2.1 245 tk) + (S.2.1 246 tk)))), (0, .ref (G.2.2.1 + 231)), (1, .int (iv tk)), (2, .ref (G.2.2.1 + ka)), (3, .int (iv po))]) hx hb dX12_numberAt_43 hl (by decide) rfl (fun ls hl => ?_)
    have hlo : (S.2.1 245 tk) + 0 = Fm tk + gn := by rcases hgn with h | h; (have y := h.2; rw [← hX, ← e5] at y; omega); (have y := h.2; rw [← hX, ← e5] at y; omega)
    have hhi : (S.2.1 245 tk) + (S.2.1 246 tk) = Fm tk + Wd tk := by omega
    have hg01 : 0 ≤ gn ∧ gn ≤ 1 := by omega
    have hgnH : Hd _ := hgn
    clear hgn
    refine lv_iconst (v := iv 0) hx hb dX12_numberAt_45 (by decide) ?_
    refine lv_istore (lv' := [(6, .int (iv 0)), (5, .int (iv ((S.2.1 245 tk) + 0))), (4, .int (iv ((S.2.1 245 tk) + (S.2.1 246 tk)))), (0, .ref (G.2.2.1 + 231)), (1, .int (iv tk)), (2, .ref (G.2.2.1 + ka)), (3, .int (iv po))]) hx hb dX12_numberAt_46 hl (by decide) rfl (fun ls hl => ?_)
    have loop_48 : ∀ (fuel : Nat) (S48 : sS) (c6 : Int) (hi : Int) (H : Heap) (locs : List Loc) (ls : Array Slot), (hi - (Fm tk + gn)).toNat < fuel → (dX G S48) → (Fr S S48 (pl [ka])) → (Fr S S48 (pl [ka])) → (FF S S48 (fl [])) → (FF S S48 (fl [])) → ((Fm tk + gn) ≤ hi ∧ hi ≤ (Fm tk + Wd tk) ∧ 0 ≤ c6 ∧ c6 ≤ 7) → (Hd (hi = (Fm tk + gn) ∨ (Fm tk + Wd tk) - hi = 9 * c6)) → (∀ j, 1 ≤ j → j ≤ c6 → 0 ≤ S48.2.1 ka (po + j) ∧ S48.2.1 ka (po + j) ≤ 999999999) → (∀ x, x < po ∨ po + 7 < x → S48.2.1 ka x = S.2.1 ka x) → (Hd (V (cf (S48.2.1 ka) po) 0 c6.toNat + dvn Xt (Fm tk + gn) (hi - (Fm tk + gn)).toNat * pw c6.toNat = dvn Xt (Fm tk + gn) ((Fm tk + Wd tk) - (Fm tk + gn)).toNat)) → (Hd ((∃ x, hi ≤ x ∧ x < (Fm tk + Wd tk) ∧ Xt x ≠ 48) → ∃ j, 1 ≤ j ∧ j ≤ c6 ∧ S48.2.1 ka (po + j) ≠ 0)) → sW G 294 S48 H → sL G locs → lv_has ls 10 [(6, .int (iv c6)), (5, .int (iv ((S.2.1 245 tk) + 0))), (4, .int (iv hi)), (0, .ref (G.2.2.1 + 231)), (1, .int (iv tk)), (2, .ref (G.2.2.1 + ka)), (3, .int (iv po))] → W p l e (rmk 2 0 0) s m args below meth c H locs 0 0 (MQ below (sQv G 294 (fun u => dX G u ∧ Fr S u (pl [ka]) ∧ FF S u (fl []) ∧ (NO (u.2.1 ka) po 7 ∧ Hd (nv (u.2.1 ka) po = xx) ∧ ∀ x, x < po ∨ po + 7 < x → u.2.1 ka x = S.2.1 ka x))) args s 0 0 (sF G)) (F0 m 48 ls []) := by
      intro fuel
      induction fuel with
      | zero => intro S48 c6 hi H locs ls hmeas hI48 hFm48 hL48_ hGm48 gL48_ hh hh2 hl48 ho48 hvl hp48 hW hL hl; exact absurd hmeas (Nat.not_lt_zero _)
      | succ fuel ih_48 =>
        intro S48 c6 hi H locs ls hmeas hI48 hFm48 hL48_ hGm48 gL48_ hh hh2 hl48 ho48 hvl hp48 hW hL hl
        refine lv_iload hx hb dX12_numberAt_48 (lv_at hl 2 rfl) ?_
        refine lv_iload hx hb dX12_numberAt_50 (lv_at hl 1 rfl) ?_
        refine r_icmp_le (tgt := 123) hx hb ⟨(by omega), (by omega)⟩ ⟨(by omega), (by omega)⟩ dX12_numberAt_52 (by decide) (fun c_5 => ?_) (fun c_5 => ?_)
        · refine lv_aload_n hx hb dX12_numberAt_123 rfl (lv_at hl 5 rfl) ?_
          refine lv_iload_n hx hb dX12_numberAt_124 rfl (lv_at hl 6 rfl) ?_
          refine lv_iload hx hb dX12_numberAt_125 (lv_at hl 0 rfl) ?_
          refine lv_aload_n hx hb dX12_numberAt_127 rfl (lv_at hl 3 rfl) ?_
          refine g_X12_56 Cx hW (k := 231) (by decide) rfl (v := .ref (G.2.2.1 + 247)) (rd_18 hI48) dX12_numberAt_128 ?_
          refine lv_iload_n hx hb dX12_numberAt_131 rfl (lv_at hl 4 rfl) ?_
          refine rIald Cx hW (k := 247) (by decide) rfl (by decide) (by omega) (by omega) dX12_numberAt_132 ?_
          have q_6 : (-2147483648) ≤ S.2.1 247 tk ∧ S.2.1 247 tk ≤ 2147483647 := hI.ai 247 tk
          refine r_i (b := S.2.1 247 tk) ((hL48_ 247 (pl_c (neS nka247) rfl)).2.1 tk) ?_
          refine r_if_ge (tgt := 140) hx hb ⟨(by omega), (by omega)⟩ dX12_numberAt_133 (by decide) (fun c_7 => ?_) (fun c_7 => ?_)
          · refine lv_iconst (v := iv 1) hx hb dX12_numberAt_140 (by decide) ?_
            refine sBv (sSt (As := [.ref (G.2.2.1 + ka), .int (iv po), .int (iv c6), .int (iv 1)]) (rest := []) Cx (s_X12_trim l G S48 (ka := ka) (po := po) (n0 := c6) (sn := 1) (Nka := Nka) hI48 hika (by omega) (by omega) (fun z => absurd z (by decide)) (fun j j0 j1 => hl48 (j + 1) (by omega) (by omega))) (c_X12_237 Cx rfl rfl (rmk_ok (by omega) (by decide))) hW rfl hl.1 rfl (Nat.le_of_ble_eq_true rfl) dX12_numberAt_141 ⟨Nat.le_of_ble_eq_true rfl, Nat.le_of_ble_eq_true rfl⟩) hL (fun u_8 H locs k_9 hW hL => ?_)
            obtain ⟨iu_8, fu_8, xu_8⟩ := k_9
            have F_10 := hFm48.trans (fu_8.to (p1_sub pl_h))
            have F_11 := hL48_.trans (fu_8.to (p1_sub pl_h))
            have g_12 : FF S u_8 (fl []) := FF.fr hGm48 fu_8 (p1_no (tau_ne (rfl : tau 231 = .inl 12) hika.1 (fun h => by cases h)))
            have g_13 : FF S u_8 (fl []) := FF.fr gL48_ fu_8 (p1_no (tau_ne (rfl : tau 231 = .inl 12) hika.1 (fun h => by cases h)))
            exact sVret Cx hr hlk hW hL ⟨iu_8, F_10, g_12, ⟨xu_8.1.mono (by omega), (show _ = _ by rw [xu_8.2.1]; exact NVr.fin hvx hgnH (nb_end hvl (by omega)) (V_0 (fun i a b => (hl48 (i + 1) (by omega) (by omega)).1)) (by omega)), (fun x a => (xu_8.2.2 x (by omega)).trans (ho48 x a))⟩⟩ dX12_numberAt_144
          · refine lv_iconst (v := iv (-1)) hx hb dX12_numberAt_136 (by decide) ?_
            refine lv_goto (tgt := 141) hx hb dX12_numberAt_137 (by decide) ?_
            refine sBv (sSt (As := [.ref (G.2.2.1 + ka), .int (iv po), .int (iv c6), .int (iv ((-1)))]) (rest := []) Cx (s_X12_trim l G S48 (ka := ka) (po := po) (n0 := c6) (sn := (-1)) (Nka := Nka) hI48 hika (by omega) (by omega) (fun z => absurd z (by decide)) (fun j j0 j1 => hl48 (j + 1) (by omega) (by omega))) (c_X12_237 Cx rfl rfl (rmk_ok (by omega) (by decide))) hW rfl hl.1 rfl (Nat.le_of_ble_eq_true rfl) dX12_numberAt_141 ⟨Nat.le_of_ble_eq_true rfl, Nat.le_of_ble_eq_true rfl⟩) hL (fun u_14 H locs k_15 hW hL => ?_)
            obtain ⟨iu_14, fu_14, xu_14⟩ := k_15
            have F_16 := hFm48.trans (fu_14.to (p1_sub pl_h))
            have F_17 := hL48_.trans (fu_14.to (p1_sub pl_h))
            have g_18 : FF S u_14 (fl []) := FF.fr hGm48 fu_14 (p1_no (tau_ne (rfl : tau 231 = .inl 12) hika.1 (fun h => by cases h)))
            have g_19 : FF S u_14 (fl []) := FF.fr gL48_ fu_14 (p1_no (tau_ne (rfl : tau 231 = .inl 12) hika.1 (fun h => by cases h)))
            exact sVret Cx hr hlk hW hL ⟨iu_14, F_16, g_18, ⟨xu_14.1.mono (by omega), (show _ = _ by rw [xu_14.2.1]; exact NVr.fin hvx hgnH (nb_end hvl (by omega)) (V_0 (fun i a b => (hl48 (i + 1) (by omega) (by omega)).1)) (by omega)), (fun x a => (xu_14.2.2 x (by omega)).trans (ho48 x a))⟩⟩ dX12_numberAt_144
        · have hh3 : Fm tk + Wd tk - hi = 9 * c6 := by rcases hh2 with h | h; (omega); exact h
          refine lv_iload hx hb dX12_numberAt_55 (lv_at hl 1 rfl) ?_
          refine lv_iload hx hb dX12_numberAt_57 (lv_at hl 2 rfl) ?_
          refine lv_bipush (v := iv 9) hx hb dX12_numberAt_59 (by decide) ?_
          refine r_isub hx hb dX12_numberAt_61 ?_
          refine r_max hx hb (hml.trans hl.1.symm) hown (hts _ w_2745) (hts _ w_242) (hts _ w_206) (hts _ w_243) (rmk_f (by omega)) (rmk_l (by omega) (Nat.le_of_ble_eq_true rfl)) (Nat.le_of_ble_eq_true rfl) (Nat.le_of_ble_eq_true rfl) ⟨(by omega), (by omega)⟩ ⟨(by omega), (by omega)⟩ dX12_numberAt_62 (fun s7 hs7 => ?_)
          refine lv_istore (lv' := [(7, .int (iv s7)), (6, .int (iv c6)), (5, .int (iv ((S.2.1 245 tk) + 0))), (4, .int (iv hi)), (0, .ref (G.2.2.1 + 231)), (1, .int (iv tk)), (2, .ref (G.2.2.1 + ka)), (3, .int (iv po))]) hx hb dX12_numberAt_65 hl (by decide) rfl (fun ls hl => ?_)
          refine lv_iconst (v := iv 0) hx hb dX12_numberAt_67 (by decide) ?_
          refine lv_istore (lv' := [(8, .int (iv 0)), (7, .int (iv s7)), (6, .int (iv c6)), (5, .int (iv ((S.2.1 245 tk) + 0))), (4, .int (iv hi)), (0, .ref (G.2.2.1 + 231)), (1, .int (iv tk)), (2, .ref (G.2.2.1 + ka)), (3, .int (iv po))]) hx hb dX12_numberAt_68 hl (by decide) rfl (fun ls hl => ?_)
          refine lv_iload hx hb dX12_numberAt_70 (lv_at hl 1 rfl) ?_
          refine lv_istore (lv' := [(9, .int (iv s7)), (8, .int (iv 0)), (7, .int (iv s7)), (6, .int (iv c6)), (5, .int (iv ((S.2.1 245 tk) + 0))), (4, .int (iv hi)), (0, .ref (G.2.2.1 + 231)), (1, .int (iv tk)), (2, .ref (G.2.2.1 + ka)), (3, .int (iv po))]) hx hb dX12_numberAt_72 hl (by decide) rfl (fun ls hl => ?_)
          have loop_74 : ∀ (fuel : Nat) (x9 : Int) (vv : Int) (H : Heap) (locs : List Loc) (ls : Array Slot), (hi - x9).toNat < fuel → (s7 ≤ x9 ∧ x9 ≤ hi ∧ hi ≤ s7 + 9) → (0 ≤ vv ∧ vv < p10 (x9 - s7)) → (vv = dvn Xt s7 (x9 - s7).toNat) → (Hd ((∃ x, s7 ≤ x ∧ x < x9 ∧ Xt x ≠ 48) → 1 ≤ vv)) → sW G 294 S48 H → sL G locs → lv_has ls 10 [(9, .int (iv x9)), (8, .int (iv vv)), (7, .int (iv s7)), (6, .int (iv c6)), (5, .int (iv ((S.2.1 245 tk) + 0))), (4, .int (iv hi)), (0, .ref (G.2.2.1 + 231)), (1, .int (iv tk)), (2, .ref (G.2.2.1 + ka)), (3, .int (iv po))] → W p l e (rmk 2 0 0) s m args below meth c H locs 0 0 (MQ below (sQv G 294 (fun u => dX G u ∧ Fr S u (pl [ka]) ∧ FF S u (fl []) ∧ (NO (u.2.1 ka) po 7 ∧ Hd (nv (u.2.1 ka) po = xx) ∧ ∀ x, x < po ∨ po + 7 < x → u.2.1 ka x = S.2.1 ka x))) args s 0 0 (sF G)) (F0 m 74 ls []) := by
            intro fuel
            induction fuel with
            | zero => intro x9 vv H locs ls hmeas hx9 hv9 hvd hv74 hW hL hl; exact absurd hmeas (Nat.not_lt_zero _)
            | succ fuel ih_74 =>
              intro x9 vv H locs ls hmeas hx9 hv9 hvd hv74 hW hL hl
              refine lv_iload hx hb dX12_numberAt_74 (lv_at hl 0 rfl) ?_
              refine lv_iload hx hb dX12_numberAt_76 (lv_at hl 5 rfl) ?_
              refine r_icmp_ge (tgt := 105) hx hb ⟨(by omega), (by omega)⟩ ⟨(by omega), (by omega)⟩ dX12_numberAt_78 (by decide) (fun c_20 => ?_) (fun c_20 => ?_)
              · have hp9 := p10_9 (i := x9 - s7) (by omega)
                refine lv_iinc (v := iv (c6 + 1)) (lv' := [(6, .int (iv (c6 + 1))), (9, .int (iv x9)), (8, .int (iv vv)), (7, .int (iv s7)), (5, .int (iv ((S.2.1 245 tk) + 0))), (4, .int (iv hi)), (0, .ref (G.2.2.1 + 231)), (1, .int (iv tk)), (2, .ref (G.2.2.1 + ka)), (3, .int (iv po))]) hx hb dX12_numberAt_105 hl (k := 3) rfl ((Int32.ofInt_add _ _).symm) (by decide) rfl (fun ls hl => ?_)
                refine lv_aload_n hx hb dX12_numberAt_108 rfl (lv_at hl 8 rfl) ?_
                refine lv_iload_n hx hb dX12_numberAt_109 rfl (lv_at hl 9 rfl) ?_
                refine lv_iload hx hb dX12_numberAt_110 (lv_at hl 0 rfl) ?_
                refine r_iadd hx hb dX12_numberAt_112 ?_
                refine lv_iload hx hb dX12_numberAt_113 (lv_at hl 2 rfl) ?_
                refine rIast Cx hW hL (k := ka) hika.lt hika.1 (by omega) (by omega) (by omega) dX12_numberAt_115 (fun H locs hW hL => ?_)
                have F_21 : Fr S (uA S48 ka (po + (c6 + 1)) vv) (pl [ka]) := hFm48.A pl_h
                have F_22 : Fr S (uA S48 ka (po + (c6 + 1)) vv) (pl [ka]) := hL48_.A pl_h
                have i_23 : dX G (uA S48 ka (po + (c6 + 1)) vv) := hI48.Aj hika ⟨by omega, by omega⟩
                refine lv_iload hx hb dX12_numberAt_116 (lv_at hl 3 rfl) ?_
                refine lv_istore (lv' := [(4, .int (iv s7)), (6, .int (iv (c6 + 1))), (9, .int (iv x9)), (8, .int (iv vv)), (7, .int (iv s7)), (5, .int (iv ((S.2.1 245 tk) + 0))), (0, .ref (G.2.2.1 + 231)), (1, .int (iv tk)), (2, .ref (G.2.2.1 + ka)), (3, .int (iv po))]) hx hb dX12_numberAt_118 hl (by decide) rfl (fun ls hl => ?_)
                refine lv_goto (tgt := 48) hx hb dX12_numberAt_120 (by decide) ?_
                exact ih_48 (uA S48 ka (po + (c6 + 1)) vv) (c6 + 1) s7 _ _ _ (by omega) i_23 F_21 F_22 hGm48 gL48_ (by omega) (by show _ ∨ _; omega) (fun j j0 j1 => by rw [uA_get]; by_cases z : j = c6 + 1; (rw [if_pos ⟨rfl, (by omega)⟩]; omega); rw [if_neg (fun h => z (by have := h.2; omega))]; exact hl48 j j0 (by omega)) (fun x a => by rw [uA_ne (fun h => by have := h.2; omega)]; exact ho48 x a) (show _ = _ from nb_st hvl (by omega) hh3 (by omega) (by omega) (show vv = _ by rw [show hi = x9 by omega]; exact hvd) (by rw [uA_get, if_pos ⟨rfl, (by omega)⟩]) (fun j j0 j1 => by rw [uA_ne (fun h => by have := h.2; omega)])) (fun hh => by obtain ⟨x, a, b, d⟩ := hh; by_cases z : x < hi; (exact ⟨c6 + 1, by omega, by omega, by rw [uA_get, if_pos ⟨rfl, (by omega)⟩]; have y := hv74 ⟨x, by omega, by omega, d⟩; omega⟩); (obtain ⟨j, j0, j1, j2⟩ := hp48 ⟨x, by omega, b, d⟩; exact ⟨j, j0, by omega, by rw [uA_ne (fun h => by have := h.2; omega)]; exact j2⟩)) hW hL (lv_sub hl [1, 5, 0, 6, 7, 8, 9] rfl)
              · have hdx := hdg x9 (by omega) (by omega)
                have hp8 := p10_b (i := x9 - s7) (by omega)
                refine lv_bipush (v := iv 10) hx hb dX12_numberAt_81 (by decide) ?_
                refine lv_iload hx hb dX12_numberAt_83 (lv_at hl 1 rfl) ?_
                refine r_imul hx hb dX12_numberAt_85 ?_
                refine lv_aload_n hx hb dX12_numberAt_86 rfl (lv_at hl 6 rfl) ?_
                refine g_X12_44 Cx hW (k := 231) (by decide) rfl (v := .ref (G.2.2.1 + 243)) (rd_13 hI48) dX12_numberAt_87 ?_
                refine lv_iload hx hb dX12_numberAt_90 (lv_at hl 0 rfl) ?_
                refine rBald Cx hW (k := 243) (by decide) rfl (by decide) (by omega) (by omega) dX12_numberAt_92 ?_
                have q_24 : (-128) ≤ S.2.1 243 x9 ∧ S.2.1 243 x9 ≤ 127 := hI.ai 243 x9
                refine r_i (b := S.2.1 243 x9) ((hL48_ 243 (pl_c (neS nka243) rfl)).2.1 x9) ?_
                have hrx : Xt x9 = S.2.1 243 x9 := by rw [← hX]
                refine r_iadd hx hb dX12_numberAt_93 ?_
                refine lv_bipush (v := iv 48) hx hb dX12_numberAt_94 (by decide) ?_
                refine r_isub hx hb dX12_numberAt_96 ?_
                refine lv_istore (lv' := [(8, .int (iv (((10 * vv) + (S.2.1 243 x9)) - 48))), (9, .int (iv x9)), (7, .int (iv s7)), (6, .int (iv c6)), (5, .int (iv ((S.2.1 245 tk) + 0))), (4, .int (iv hi)), (0, .ref (G.2.2.1 + 231)), (1, .int (iv tk)), (2, .ref (G.2.2.1 + ka)), (3, .int (iv po))]) hx hb dX12_numberAt_97 hl (by decide) rfl (fun ls hl => ?_)
                refine lv_iinc (v := iv (x9 + 1)) (lv' := [(9, .int (iv (x9 + 1))), (8, .int (iv (((10 * vv) + (S.2.1 243 x9)) - 48))), (7, .int (iv s7)), (6, .int (iv c6)), (5, .int (iv ((S.2.1 245 tk) + 0))), (4, .int (iv hi)), (0, .ref (G.2.2.1 + 231)), (1, .int (iv tk)), (2, .ref (G.2.2.1 + ka)), (3, .int (iv po))]) hx hb dX12_numberAt_99 hl (k := 1) rfl ((Int32.ofInt_add _ _).symm) (by decide) rfl (fun ls hl => ?_)
                refine lv_goto (tgt := 74) hx hb dX12_numberAt_102 (by decide) ?_
                exact ih_74 (x9 + 1) (((10 * vv) + (S.2.1 243 x9)) - 48) _ _ _ (by omega) (by omega) (by rw [show x9 + 1 - s7 = (x9 - s7) + 1 by omega, p10_s (by omega)]; omega) (by rw [← dvn_1 (B := Xt) (f := s7) (k := x9) (l := vv) (by omega) hvd hrx.symm]) (fun hh => by obtain ⟨x, a, b, d⟩ := hh; by_cases z : x = x9; (rw [z] at d; omega); (have y := hv74 ⟨x, a, by omega, d⟩; omega)) hW hL (lv_sub hl [0, 1, 2, 3, 4, 5, 6, 7, 8, 9] rfl)
          exact loop_74 (_ + 1) s7 0 _ _ _ (Nat.lt_succ_self _) (by omega) (by rw [Int.sub_self]; decide) (by rw [show (s7 - s7).toNat = 0 by omega]; rfl) (fun hh => by obtain ⟨x, a, b, d⟩ := hh; exfalso; omega) hW hL (lv_sub hl [0, 1, 2, 3, 4, 5, 6, 7, 8, 9] rfl)
    exact loop_48 (_ + 1) S 0 ((S.2.1 245 tk) + (S.2.1 246 tk)) _ _ _ (Nat.lt_succ_self _) hI (Fr.rf : Fr S S (pl [ka])) Fr.rf FF.rf FF.rf (by omega) (.inr (by omega)) (fun j a b => absurd b (by omega)) (fun x _ => rfl) (show _ = _ by rw [hhi]; exact nb_in) (fun hh => by obtain ⟨x, a, b, d⟩ := hh; exfalso; omega) hW hL (lv_sub hl [0, 1, 2, 3, 4, 5, 6] rfl)
  · refine lv_iconst (v := iv 1) hx hb dX12_numberAt_37 (by decide) ?_
    refine lv_goto (tgt := 42) hx hb dX12_numberAt_38 (by decide) ?_
    refine r_iadd hx hb dX12_numberAt_42 ?_
    refine lv_istore (lv' := [(5, .int (iv ((S.2.1 245 tk) + 1))), (4, .int (iv ((S.2.1 245 tk) + (S.2.1 246 tk)))), (0, .ref (G.2.2.1 + 231)), (1, .int (iv tk)), (2, .ref (G.2.2.1 + ka)), (3, .int (iv po))]) hx hb dX12_numberAt_43 hl (by decide) rfl (fun ls hl => ?_)
    have hlo : (S.2.1 245 tk) + 1 = Fm tk + gn := by rcases hgn with h | h; (have y := h.2; rw [← hX, ← e5] at y; omega); (have y := h.2; rw [← hX, ← e5] at y; omega)
    have hhi : (S.2.1 245 tk) + (S.2.1 246 tk) = Fm tk + Wd tk := by omega
    have hg01 : 0 ≤ gn ∧ gn ≤ 1 := by omega
    have hgnH : Hd _ := hgn
    clear hgn
    refine lv_iconst (v := iv 0) hx hb dX12_numberAt_45 (by decide) ?_
    refine lv_istore (lv' := [(6, .int (iv 0)), (5, .int (iv ((S.2.1 245 tk) + 1))), (4, .int (iv ((S.2.1 245 tk) + (S.2.1 246 tk)))), (0, .ref (G.2.2.1 + 231)), (1, .int (iv tk)), (2, .ref (G.2.2.1 + ka)), (3, .int (iv po))]) hx hb dX12_numberAt_46 hl (by decide) rfl (fun ls hl => ?_)
    have loop_48 : ∀ (fuel : Nat) (S48 : sS) (c6 : Int) (hi : Int) (H : Heap) (locs : List Loc) (ls : Array Slot), (hi - (Fm tk + gn)).toNat < fuel → (dX G S48) → (Fr S S48 (pl [ka])) → (Fr S S48 (pl [ka])) → (FF S S48 (fl [])) → (FF S S48 (fl [])) → ((Fm tk + gn) ≤ hi ∧ hi ≤ (Fm tk + Wd tk) ∧ 0 ≤ c6 ∧ c6 ≤ 7) → (Hd (hi = (Fm tk + gn) ∨ (Fm tk + Wd tk) - hi = 9 * c6)) → (∀ j, 1 ≤ j → j ≤ c6 → 0 ≤ S48.2.1 ka (po + j) ∧ S48.2.1 ka (po + j) ≤ 999999999) → (∀ x, x < po ∨ po + 7 < x → S48.2.1 ka x = S.2.1 ka x) → (Hd (V (cf (S48.2.1 ka) po) 0 c6.toNat + dvn Xt (Fm tk + gn) (hi - (Fm tk + gn)).toNat * pw c6.toNat = dvn Xt (Fm tk + gn) ((Fm tk + Wd tk) - (Fm tk + gn)).toNat)) → (Hd ((∃ x, hi ≤ x ∧ x < (Fm tk + Wd tk) ∧ Xt x ≠ 48) → ∃ j, 1 ≤ j ∧ j ≤ c6 ∧ S48.2.1 ka (po + j) ≠ 0)) → sW G 294 S48 H → sL G locs → lv_has ls 10 [(6, .int (iv c6)), (5, .int (iv ((S.2.1 245 tk) + 1))), (4, .int (iv hi)), (0, .ref (G.2.2.1 + 231)), (1, .int (iv tk)), (2, .ref (G.2.2.1 + ka)), (3, .int (iv po))] → W p l e (rmk 2 0 0) s m args below meth c H locs 0 0 (MQ below (sQv G 294 (fun u => dX G u ∧ Fr S u (pl [ka]) ∧ FF S u (fl []) ∧ (NO (u.2.1 ka) po 7 ∧ Hd (nv (u.2.1 ka) po = xx) ∧ ∀ x, x < po ∨ po + 7 < x → u.2.1 ka x = S.2.1 ka x))) args s 0 0 (sF G)) (F0 m 48 ls []) := by
      intro fuel
      induction fuel with
      | zero => intro S48 c6 hi H locs ls hmeas hI48 hFm48 hL48_ hGm48 gL48_ hh hh2 hl48 ho48 hvl hp48 hW hL hl; exact absurd hmeas (Nat.not_lt_zero _)
      | succ fuel ih_48 =>
        intro S48 c6 hi H locs ls hmeas hI48 hFm48 hL48_ hGm48 gL48_ hh hh2 hl48 ho48 hvl hp48 hW hL hl
        refine lv_iload hx hb dX12_numberAt_48 (lv_at hl 2 rfl) ?_
        refine lv_iload hx hb dX12_numberAt_50 (lv_at hl 1 rfl) ?_
        refine r_icmp_le (tgt := 123) hx hb ⟨(by omega), (by omega)⟩ ⟨(by omega), (by omega)⟩ dX12_numberAt_52 (by decide) (fun c_25 => ?_) (fun c_25 => ?_)
        · refine lv_aload_n hx hb dX12_numberAt_123 rfl (lv_at hl 5 rfl) ?_
          refine lv_iload_n hx hb dX12_numberAt_124 rfl (lv_at hl 6 rfl) ?_
          refine lv_iload hx hb dX12_numberAt_125 (lv_at hl 0 rfl) ?_
          refine lv_aload_n hx hb dX12_numberAt_127 rfl (lv_at hl 3 rfl) ?_
          refine g_X12_56 Cx hW (k := 231) (by decide) rfl (v := .ref (G.2.2.1 + 247)) (rd_18 hI48) dX12_numberAt_128 ?_
          refine lv_iload_n hx hb dX12_numberAt_131 rfl (lv_at hl 4 rfl) ?_
          refine rIald Cx hW (k := 247) (by decide) rfl (by decide) (by omega) (by omega) dX12_numberAt_132 ?_
          have q_26 : (-2147483648) ≤ S.2.1 247 tk ∧ S.2.1 247 tk ≤ 2147483647 := hI.ai 247 tk
          refine r_i (b := S.2.1 247 tk) ((hL48_ 247 (pl_c (neS nka247) rfl)).2.1 tk) ?_
          refine r_if_ge (tgt := 140) hx hb ⟨(by omega), (by omega)⟩ dX12_numberAt_133 (by decide) (fun c_27 => ?_) (fun c_27 => ?_)
          · refine lv_iconst (v := iv 1) hx hb dX12_numberAt_140 (by decide) ?_
            refine sBv (sSt (As := [.ref (G.2.2.1 + ka), .int (iv po), .int (iv c6), .int (iv 1)]) (rest := []) Cx (s_X12_trim l G S48 (ka := ka) (po := po) (n0 := c6) (sn := 1) (Nka := Nka) hI48 hika (by omega) (by omega) (fun z => absurd z (by decide)) (fun j j0 j1 => hl48 (j + 1) (by omega) (by omega))) (c_X12_237 Cx rfl rfl (rmk_ok (by omega) (by decide))) hW rfl hl.1 rfl (Nat.le_of_ble_eq_true rfl) dX12_numberAt_141 ⟨Nat.le_of_ble_eq_true rfl, Nat.le_of_ble_eq_true rfl⟩) hL (fun u_28 H locs k_29 hW hL => ?_)
            obtain ⟨iu_28, fu_28, xu_28⟩ := k_29
            have F_30 := hFm48.trans (fu_28.to (p1_sub pl_h))
            have F_31 := hL48_.trans (fu_28.to (p1_sub pl_h))
            have g_32 : FF S u_28 (fl []) := FF.fr hGm48 fu_28 (p1_no (tau_ne (rfl : tau 231 = .inl 12) hika.1 (fun h => by cases h)))
            have g_33 : FF S u_28 (fl []) := FF.fr gL48_ fu_28 (p1_no (tau_ne (rfl : tau 231 = .inl 12) hika.1 (fun h => by cases h)))
            exact sVret Cx hr hlk hW hL ⟨iu_28, F_30, g_32, ⟨xu_28.1.mono (by omega), (show _ = _ by rw [xu_28.2.1]; exact NVr.fin hvx hgnH (nb_end hvl (by omega)) (V_0 (fun i a b => (hl48 (i + 1) (by omega) (by omega)).1)) (by omega)), (fun x a => (xu_28.2.2 x (by omega)).trans (ho48 x a))⟩⟩ dX12_numberAt_144
          · refine lv_iconst (v := iv (-1)) hx hb dX12_numberAt_136 (by decide) ?_
            refine lv_goto (tgt := 141) hx hb dX12_numberAt_137 (by decide) ?_
            refine sBv (sSt (As := [.ref (G.2.2.1 + ka), .int (iv po), .int (iv c6), .int (iv ((-1)))]) (rest := []) Cx (s_X12_trim l G S48 (ka := ka) (po := po) (n0 := c6) (sn := (-1)) (Nka := Nka) hI48 hika (by omega) (by omega) (fun z => absurd z (by decide)) (fun j j0 j1 => hl48 (j + 1) (by omega) (by omega))) (c_X12_237 Cx rfl rfl (rmk_ok (by omega) (by decide))) hW rfl hl.1 rfl (Nat.le_of_ble_eq_true rfl) dX12_numberAt_141 ⟨Nat.le_of_ble_eq_true rfl, Nat.le_of_ble_eq_true rfl⟩) hL (fun u_34 H locs k_35 hW hL => ?_)
            obtain ⟨iu_34, fu_34, xu_34⟩ := k_35
            have F_36 := hFm48.trans (fu_34.to (p1_sub pl_h))
            have F_37 := hL48_.trans (fu_34.to (p1_sub pl_h))
            have g_38 : FF S u_34 (fl []) := FF.fr hGm48 fu_34 (p1_no (tau_ne (rfl : tau 231 = .inl 12) hika.1 (fun h => by cases h)))
            have g_39 : FF S u_34 (fl []) := FF.fr gL48_ fu_34 (p1_no (tau_ne (rfl : tau 231 = .inl 12) hika.1 (fun h => by cases h)))
            exact sVret Cx hr hlk hW hL ⟨iu_34, F_36, g_38, ⟨xu_34.1.mono (by omega), (show _ = _ by rw [xu_34.2.1]; exact NVr.fin hvx hgnH (nb_end hvl (by omega)) (V_0 (fun i a b => (hl48 (i + 1) (by omega) (by omega)).1)) (by omega)), (fun x a => (xu_34.2.2 x (by omega)).trans (ho48 x a))⟩⟩ dX12_numberAt_144
        · have hh3 : Fm tk + Wd tk - hi = 9 * c6 := by rcases hh2 with h | h; (omega); exact h
          refine lv_iload hx hb dX12_numberAt_55 (lv_at hl 1 rfl) ?_
          refine lv_iload hx hb dX12_numberAt_57 (lv_at hl 2 rfl) ?_
          refine lv_bipush (v := iv 9) hx hb dX12_numberAt_59 (by decide) ?_
          refine r_isub hx hb dX12_numberAt_61 ?_
          refine r_max hx hb (hml.trans hl.1.symm) hown (hts _ w_2745) (hts _ w_242) (hts _ w_206) (hts _ w_243) (rmk_f (by omega)) (rmk_l (by omega) (Nat.le_of_ble_eq_true rfl)) (Nat.le_of_ble_eq_true rfl) (Nat.le_of_ble_eq_true rfl) ⟨(by omega), (by omega)⟩ ⟨(by omega), (by omega)⟩ dX12_numberAt_62 (fun s7 hs7 => ?_)
          refine lv_istore (lv' := [(7, .int (iv s7)), (6, .int (iv c6)), (5, .int (iv ((S.2.1 245 tk) + 1))), (4, .int (iv hi)), (0, .ref (G.2.2.1 + 231)), (1, .int (iv tk)), (2, .ref (G.2.2.1 + ka)), (3, .int (iv po))]) hx hb dX12_numberAt_65 hl (by decide) rfl (fun ls hl => ?_)
          refine lv_iconst (v := iv 0) hx hb dX12_numberAt_67 (by decide) ?_
          refine lv_istore (lv' := [(8, .int (iv 0)), (7, .int (iv s7)), (6, .int (iv c6)), (5, .int (iv ((S.2.1 245 tk) + 1))), (4, .int (iv hi)), (0, .ref (G.2.2.1 + 231)), (1, .int (iv tk)), (2, .ref (G.2.2.1 + ka)), (3, .int (iv po))]) hx hb dX12_numberAt_68 hl (by decide) rfl (fun ls hl => ?_)
          refine lv_iload hx hb dX12_numberAt_70 (lv_at hl 1 rfl) ?_
          refine lv_istore (lv' := [(9, .int (iv s7)), (8, .int (iv 0)), (7, .int (iv s7)), (6, .int (iv c6)), (5, .int (iv ((S.2.1 245 tk) + 1))), (4, .int (iv hi)), (0, .ref (G.2.2.1 + 231)), (1, .int (iv tk)), (2, .ref (G.2.2.1 + ka)), (3, .int (iv po))]) hx hb dX12_numberAt_72 hl (by decide) rfl (fun ls hl => ?_)
          have loop_74 : ∀ (fuel : Nat) (x9 : Int) (vv : Int) (H : Heap) (locs : List Loc) (ls : Array Slot), (hi - x9).toNat < fuel → (s7 ≤ x9 ∧ x9 ≤ hi ∧ hi ≤ s7 + 9) → (0 ≤ vv ∧ vv < p10 (x9 - s7)) → (vv = dvn Xt s7 (x9 - s7).toNat) → (Hd ((∃ x, s7 ≤ x ∧ x < x9 ∧ Xt x ≠ 48) → 1 ≤ vv)) → sW G 294 S48 H → sL G locs → lv_has ls 10 [(9, .int (iv x9)), (8, .int (iv vv)), (7, .int (iv s7)), (6, .int (iv c6)), (5, .int (iv ((S.2.1 245 tk) + 1))), (4, .int (iv hi)), (0, .ref (G.2.2.1 + 231)), (1, .int (iv tk)), (2, .ref (G.2.2.1 + ka)), (3, .int (iv po))] → W p l e (rmk 2 0 0) s m args below meth c H locs 0 0 (MQ below (sQv G 294 (fun u => dX G u ∧ Fr S u (pl [ka]) ∧ FF S u (fl []) ∧ (NO (u.2.1 ka) po 7 ∧ Hd (nv (u.2.1 ka) po = xx) ∧ ∀ x, x < po ∨ po + 7 < x → u.2.1 ka x = S.2.1 ka x))) args s 0 0 (sF G)) (F0 m 74 ls []) := by
            intro fuel
            induction fuel with
            | zero => intro x9 vv H locs ls hmeas hx9 hv9 hvd hv74 hW hL hl; exact absurd hmeas (Nat.not_lt_zero _)
            | succ fuel ih_74 =>
              intro x9 vv H locs ls hmeas hx9 hv9 hvd hv74 hW hL hl
              refine lv_iload hx hb dX12_numberAt_74 (lv_at hl 0 rfl) ?_
              refine lv_iload hx hb dX12_numberAt_76 (lv_at hl 5 rfl) ?_
              refine r_icmp_ge (tgt := 105) hx hb ⟨(by omega), (by omega)⟩ ⟨(by omega), (by omega)⟩ dX12_numberAt_78 (by decide) (fun c_40 => ?_) (fun c_40 => ?_)
              · have hp9 := p10_9 (i := x9 - s7) (by omega)
                refine lv_iinc (v := iv (c6 + 1)) (lv' := [(6, .int (iv (c6 + 1))), (9, .int (iv x9)), (8, .int (iv vv)), (7, .int (iv s7)), (5, .int (iv ((S.2.1 245 tk) + 1))), (4, .int (iv hi)), (0, .ref (G.2.2.1 + 231)), (1, .int (iv tk)), (2, .ref (G.2.2.1 + ka)), (3, .int (iv po))]) hx hb dX12_numberAt_105 hl (k := 3) rfl ((Int32.ofInt_add _ _).symm) (by decide) rfl (fun ls hl => ?_)
                refine lv_aload_n hx hb dX12_numberAt_108 rfl (lv_at hl 8 rfl) ?_
                refine lv_iload_n hx hb dX12_numberAt_109 rfl (lv_at hl 9 rfl) ?_
                refine lv_iload hx hb dX12_numberAt_110 (lv_at hl 0 rfl) ?_
                refine r_iadd hx hb dX12_numberAt_112 ?_
                refine lv_iload hx hb dX12_numberAt_113 (lv_at hl 2 rfl) ?_
                refine rIast Cx hW hL (k := ka) hika.lt hika.1 (by omega) (by omega) (by omega) dX12_numberAt_115 (fun H locs hW hL => ?_)
                have F_41 : Fr S (uA S48 ka (po + (c6 + 1)) vv) (pl [ka]) := hFm48.A pl_h
                have F_42 : Fr S (uA S48 ka (po + (c6 + 1)) vv) (pl [ka]) := hL48_.A pl_h
                have i_43 : dX G (uA S48 ka (po + (c6 + 1)) vv) := hI48.Aj hika ⟨by omega, by omega⟩
                refine lv_iload hx hb dX12_numberAt_116 (lv_at hl 3 rfl) ?_
                refine lv_istore (lv' := [(4, .int (iv s7)), (6, .int (iv (c6 + 1))), (9, .int (iv x9)), (8, .int (iv vv)), (7, .int (iv s7)), (5, .int (iv ((S.2.1 245 tk) + 1))), (0, .ref (G.2.2.1 + 231)), (1, .int (iv tk)), (2, .ref (G.2.2.1 + ka)), (3, .int (iv po))]) hx hb dX12_numberAt_118 hl (by decide) rfl (fun ls hl => ?_)
                refine lv_goto (tgt := 48) hx hb dX12_numberAt_120 (by decide) ?_
                exact ih_48 (uA S48 ka (po + (c6 + 1)) vv) (c6 + 1) s7 _ _ _ (by omega) i_43 F_41 F_42 hGm48 gL48_ (by omega) (by show _ ∨ _; omega) (fun j j0 j1 => by rw [uA_get]; by_cases z : j = c6 + 1; (rw [if_pos ⟨rfl, (by omega)⟩]; omega); rw [if_neg (fun h => z (by have := h.2; omega))]; exact hl48 j j0 (by omega)) (fun x a => by rw [uA_ne (fun h => by have := h.2; omega)]; exact ho48 x a) (show _ = _ from nb_st hvl (by omega) hh3 (by omega) (by omega) (show vv = _ by rw [show hi = x9 by omega]; exact hvd) (by rw [uA_get, if_pos ⟨rfl, (by omega)⟩]) (fun j j0 j1 => by rw [uA_ne (fun h => by have := h.2; omega)])) (fun hh => by obtain ⟨x, a, b, d⟩ := hh; by_cases z : x < hi; (exact ⟨c6 + 1, by omega, by omega, by rw [uA_get, if_pos ⟨rfl, (by omega)⟩]; have y := hv74 ⟨x, by omega, by omega, d⟩; omega⟩); (obtain ⟨j, j0, j1, j2⟩ := hp48 ⟨x, by omega, b, d⟩; exact ⟨j, j0, by omega, by rw [uA_ne (fun h => by have := h.2; omega)]; exact j2⟩)) hW hL (lv_sub hl [1, 5, 0, 6, 7, 8, 9] rfl)
              · have hdx := hdg x9 (by omega) (by omega)
                have hp8 := p10_b (i := x9 - s7) (by omega)
                refine lv_bipush (v := iv 10) hx hb dX12_numberAt_81 (by decide) ?_
                refine lv_iload hx hb dX12_numberAt_83 (lv_at hl 1 rfl) ?_
                refine r_imul hx hb dX12_numberAt_85 ?_
                refine lv_aload_n hx hb dX12_numberAt_86 rfl (lv_at hl 6 rfl) ?_
                refine g_X12_44 Cx hW (k := 231) (by decide) rfl (v := .ref (G.2.2.1 + 243)) (rd_13 hI48) dX12_numberAt_87 ?_
                refine lv_iload hx hb dX12_numberAt_90 (lv_at hl 0 rfl) ?_
                refine rBald Cx hW (k := 243) (by decide) rfl (by decide) (by omega) (by omega) dX12_numberAt_92 ?_
                have q_44 : (-128) ≤ S.2.1 243 x9 ∧ S.2.1 243 x9 ≤ 127 := hI.ai 243 x9
                refine r_i (b := S.2.1 243 x9) ((hL48_ 243 (pl_c (neS nka243) rfl)).2.1 x9) ?_
                have hrx : Xt x9 = S.2.1 243 x9 := by rw [← hX]
                refine r_iadd hx hb dX12_numberAt_93 ?_
                refine lv_bipush (v := iv 48) hx hb dX12_numberAt_94 (by decide) ?_
                refine r_isub hx hb dX12_numberAt_96 ?_
                refine lv_istore (lv' := [(8, .int (iv (((10 * vv) + (S.2.1 243 x9)) - 48))), (9, .int (iv x9)), (7, .int (iv s7)), (6, .int (iv c6)), (5, .int (iv ((S.2.1 245 tk) + 1))), (4, .int (iv hi)), (0, .ref (G.2.2.1 + 231)), (1, .int (iv tk)), (2, .ref (G.2.2.1 + ka)), (3, .int (iv po))]) hx hb dX12_numberAt_97 hl (by decide) rfl (fun ls hl => ?_)
                refine lv_iinc (v := iv (x9 + 1)) (lv' := [(9, .int (iv (x9 + 1))), (8, .int (iv (((10 * vv) + (S.2.1 243 x9)) - 48))), (7, .int (iv s7)), (6, .int (iv c6)), (5, .int (iv ((S.2.1 245 tk) + 1))), (4, .int (iv hi)), (0, .ref (G.2.2.1 + 231)), (1, .int (iv tk)), (2, .ref (G.2.2.1 + ka)), (3, .int (iv po))]) hx hb dX12_numberAt_99 hl (k := 1) rfl ((Int32.ofInt_add _ _).symm) (by decide) rfl (fun ls hl => ?_)
                refine lv_goto (tgt := 74) hx hb dX12_numberAt_102 (by decide) ?_
                exact ih_74 (x9 + 1) (((10 * vv) + (S.2.1 243 x9)) - 48) _ _ _ (by omega) (by omega) (by rw [show x9 + 1 - s7 = (x9 - s7) + 1 by omega, p10_s (by omega)]; omega) (by rw [← dvn_1 (B := Xt) (f := s7) (k := x9) (l := vv) (by omega) hvd hrx.symm]) (fun hh => by obtain ⟨x, a, b, d⟩ := hh; by_cases z : x = x9; (rw [z] at d; omega); (have y := hv74 ⟨x, a, by omega, d⟩; omega)) hW hL (lv_sub hl [0, 1, 2, 3, 4, 5, 6, 7, 8, 9] rfl)
          exact loop_74 (_ + 1) s7 0 _ _ _ (Nat.lt_succ_self _) (by omega) (by rw [Int.sub_self]; decide) (by rw [show (s7 - s7).toNat = 0 by omega]; rfl) (fun hh => by obtain ⟨x, a, b, d⟩ := hh; exfalso; omega) hW hL (lv_sub hl [0, 1, 2, 3, 4, 5, 6, 7, 8, 9] rfl)
    exact loop_48 (_ + 1) S 0 ((S.2.1 245 tk) + (S.2.1 246 tk)) _ _ _ (Nat.lt_succ_self _) hI (Fr.rf : Fr S S (pl [ka])) Fr.rf FF.rf FF.rf (by omega) (.inr (by omega)) (fun j a b => absurd b (by omega)) (fun x _ => rfl) (show _ = _ by rw [hhi]; exact nb_in) (fun hh => by obtain ⟨x, a, b, d⟩ := hh; exfalso; omega) hW hL (lv_sub hl [0, 1, 2, 3, 4, 5, 6] rfl)
