/-! Finer sets: what the calls between the work leave of the solver -/
def pNz (k : Nat) : Bool := rgB 3 4 k || rgB 122 134 k || rgB 141 156 k || rgB 163 184 k || rgB 194 224 k || Nat.beq k 227
def pEz (k : Nat) : Bool := rgB 188 189 k || rgB 192 227 k
def pEy (k : Nat) : Bool := rgB 194 224 k || Nat.beq k 227
def pEw (k : Nat) : Bool := rgB 193 224 k || Nat.beq k 227
def pZz (k : Nat) : Bool := rgB 0 118 k || rgB 185 230 k
theorem pNz_N : ∀ k, pNz k = true → pN k = true := fun k h => by
  simp only [pNz, pN, rgB, Bool.or_eq_true, Bool.and_eq_true, Nat.ble_eq, Nat.beq_eq] at h ⊢; omega
theorem pEy_Ez : ∀ k, pEy k = true → pEz k = true := fun k h => by
  simp only [pEy, pEz, rgB, Bool.or_eq_true, Bool.and_eq_true, Nat.ble_eq, Nat.beq_eq] at h ⊢; omega
theorem pEy_Ew : ∀ k, pEy k = true → pEw k = true := fun k h => by
  simp only [pEy, pEw, rgB, Bool.or_eq_true, Bool.and_eq_true, Nat.ble_eq, Nat.beq_eq] at h ⊢; omega
theorem pEw_Ez : ∀ k, pEw k = true → pEz k = true := fun k h => by
  simp only [pEw, pEz, rgB, Bool.or_eq_true, Bool.and_eq_true, Nat.ble_eq, Nat.beq_eq] at h ⊢; omega
theorem rgEw_193 : ∀ k, 193 + 3 ≤ k → k ≤ 193 + 8 → pEw k = true := fun k h1 h2 => by
  simp only [pEw, rgB, Bool.or_eq_true, Bool.and_eq_true, Nat.ble_eq, Nat.beq_eq]; omega
theorem pS12_Ey : ∀ k, pS12 k = true → pEy k = true := fun k h => by
  simp only [pS12, pEy, rgB, Bool.or_eq_true, Bool.and_eq_true, Nat.ble_eq, Nat.beq_eq] at h ⊢; omega
theorem rgEy_193 : ∀ k, 193 + 3 ≤ k → k ≤ 193 + 8 → pEy k = true := fun k h1 h2 => by
  simp only [pEy, rgB, Bool.or_eq_true, Bool.and_eq_true, Nat.ble_eq, Nat.beq_eq]; omega
theorem mdl_oEy {o : Nat} (m : mdl o) : pEy o = false ∧ pEy (o + 2) = false ∧ pEy (o + 1) = false := by
  have a : ∀ o, o < 231 → tau o = .inl 3 → pEy o = false ∧ pEy (o + 2) = false ∧ pEy (o + 1) = false := by decide +kernel
  exact a o (mdl_k m) m.1
theorem pEz_Zz : ∀ k, pEz k = true → pZz k = true := fun k h => by
  simp only [pEz, pZz, rgB, Bool.or_eq_true, Bool.and_eq_true, Nat.ble_eq, Nat.beq_eq] at h ⊢; omega
theorem pEz_C : ∀ k, pEz k = true → pC k = true := fun k h => by
  simp only [pEz, pC, rgB, Bool.or_eq_true, Bool.and_eq_true, Nat.ble_eq, Nat.beq_eq] at h ⊢; omega
theorem pZz_A : ∀ k, pZz k = true → pA k = true := fun k h => by
  simp only [pZz, pA, rgB, Bool.or_eq_true, Bool.and_eq_true, Nat.ble_eq, Nat.beq_eq] at h ⊢; omega
theorem pI_Zz : ∀ k, pI k = true → pZz k = true := fun k h => by
  simp only [pI, pZz, rgB, Bool.or_eq_true, Bool.and_eq_true, Nat.ble_eq, Nat.beq_eq] at h ⊢; omega
theorem pTp_Ez : ∀ k, pTp k = true → pEz k = true := fun k h => by
  simp only [pTp, pEz, rgB, Bool.or_eq_true, Bool.and_eq_true, Nat.ble_eq, Nat.beq_eq] at h ⊢; omega
theorem pTq_Ez : ∀ k, pTq k = true → pEz k = true := fun k h => by
  simp only [pTq, pEz, rgB, Bool.or_eq_true, Bool.and_eq_true, Nat.ble_eq, Nat.beq_eq] at h ⊢; omega
theorem pRd_Ez : ∀ k, pRd k = true → pEz k = true := fun k h => by
  simp only [pRd, pEz, rgB, Bool.or_eq_true, Bool.and_eq_true, Nat.ble_eq, Nat.beq_eq] at h ⊢; omega
theorem pS12_Ez : ∀ k, pS12 k = true → pEz k = true := fun k h => by
  simp only [pS12, pEz, rgB, Bool.or_eq_true, Bool.and_eq_true, Nat.ble_eq, Nat.beq_eq] at h ⊢; omega
theorem pP_Nz : ∀ k, pP k = true → pNz k = true := fun k h => by
  simp only [pP, pNz, rgB, Bool.or_eq_true, Bool.and_eq_true, Nat.ble_eq, Nat.beq_eq] at h ⊢; omega
theorem rgEz_193 : ∀ k, 193 + 3 ≤ k → k ≤ 193 + 8 → pEz k = true := fun k h1 h2 => by
  simp only [pEz, rgB, Bool.or_eq_true, Bool.and_eq_true, Nat.ble_eq, Nat.beq_eq]; omega
theorem mdl_oEz {o : Nat} (m : mdl o) : pEz o = false ∧ pEz (o + 2) = false ∧ pEz (o + 1) = false := by
  have a : ∀ o, o < 231 → tau o = .inl 3 → pEz o = false ∧ pEz (o + 2) = false ∧ pEz (o + 1) = false := by decide +kernel
  exact a o (mdl_k m) m.1
set_option maxRecDepth 100000 in
set_option maxHeartbeats 4000000 in
theorem z_X6_keep_193 (l : Launch) (G : sG) (S : sS) {k : Int} (hI : cX G S 0 0 0) (hk : -2147483648 ≤ k ∧ k ≤ 2147483647) : Met l yX6_keep (.code yX6_keep cX6_keep 2 none :: tb) (rmk 2 0 0) (sPc G 294 S [.ref (G.2.2.1 + 193), .int (iv k)]) (sQv G 294 (fun u => cX G u 0 0 0 ∧ Fr S u pEw)) 0 0 (sF G) := by
  refine sEnter (by decide) (Nat.le_of_ble_eq_true rfl) ?_
  intro p e s m args below meth c Cx hr hlk hnm hW ls hl
  have Cx : sC G p m c cX6_keep 2 s args RX6 := Cx
  obtain ⟨hx, hb, hml, hown, hts⟩ := id Cx.1
  have hL : sL G [] := sL_nil
  have hl : lv_has ls 2 [(0, .ref (G.2.2.1 + 193)), (1, .int (iv k))] := hl
  have hW0 := hW
  refine lv_aload_n hx hb dX6_keep_0 rfl (lv_at hl 0 rfl) ?_
  refine lv_aload_n hx hb dX6_keep_1 rfl (lv_at hl 0 rfl) ?_
  have q_1 : 0 ≤ S.1 193 9 ∧ S.1 193 9 ≤ 40 := hI.fi 193 9 6 (by decide) rfl
  refine g_X6_50 Cx hW (k := 193) (by decide) rfl (v := S.1 193 9) rfl dX6_keep_2 ?_
  refine lv_iload_n hx hb dX6_keep_5 rfl (lv_at hl 1 rfl) ?_
  refine lv_iconst (v := iv 0) hx hb dX6_keep_6 (by decide) ?_
  refine r_max hx hb (hml.trans hl.1.symm) hown (hts _ w_1571) (hts _ w_242) (hts _ w_206) (hts _ w_243) (rmk_f (by omega)) (rmk_l (by omega) (Nat.le_of_ble_eq_true rfl)) (Nat.le_of_ble_eq_true rfl) (Nat.le_of_ble_eq_true rfl) ⟨(by omega), (by omega)⟩ ⟨(by omega), (by omega)⟩ dX6_keep_7 (fun z_2 hz_2 => ?_)
  refine r_min hx hb (hml.trans hl.1.symm) hown (hts _ w_1572) (hts _ w_777) (hts _ w_206) (hts _ w_778) (rmk_f (by omega)) (rmk_l (by omega) (Nat.le_of_ble_eq_true rfl)) (Nat.le_of_ble_eq_true rfl) (Nat.le_of_ble_eq_true rfl) ⟨(by omega), (by omega)⟩ ⟨(by omega), (by omega)⟩ dX6_keep_10 (fun z_3 hz_3 => ?_)
  refine p_X6_50 Cx hW hL (k := 193) (by decide) rfl dX6_keep_13 (fun H locs hW hL => ?_)
  have F_4 : Fr S (uF S 193 9 z_3) pEw := (Fr.rf : Fr S S pEw).F rfl
  have i_5 : cX G (uF S 193 9 z_3) 0 0 0 := hI.F rfl rfl (show 0 ≤ z_3 ∧ z_3 ≤ 40 from ⟨by omega, by omega⟩)
  exact sVret Cx hr hlk hW hL ⟨i_5, F_4⟩ dX6_keep_16

set_option maxRecDepth 100000 in
set_option maxHeartbeats 4000000 in
theorem z_X6_lowBits_120 (l : Launch) (G : sG) (S : sS) {k j : Int} (hI : cX G S 0 0 0) (hk : -2147483648 ≤ k ∧ k ≤ 2147483647) (hj : -2147483648 ≤ j ∧ j ≤ 2147483647) : Met l yX6_lowBits (.code yX6_lowBits cX6_lowBits 3 (some .long) :: tb) (rmk 3 0 0) (sPc G 294 S [.ref (G.2.2.1 + 120), .int (iv k), .int (iv j)]) (sQl G 294 (fun r u => cX G u 0 0 0 ∧ Fr S u pNz ∧ (-9223372036854775808 ≤ r ∧ r ≤ 9223372036854775807))) 0 0 (sF G) := by
  refine sEnter (by decide) (Nat.le_of_ble_eq_true rfl) ?_
  intro p e s m args below meth c Cx hr hlk hnm hW ls hl
  have Cx : sC G p m c cX6_lowBits 3 s args RX6 := Cx
  obtain ⟨hx, hb, hml, hown, hts⟩ := id Cx.1
  have hL : sL G [] := sL_nil
  have hl : lv_has ls 3 [(0, .ref (G.2.2.1 + 120)), (1, .int (iv k)), (2, .int (iv j))] := hl
  have hW0 := hW
  refine lv_iload_n hx hb dX6_lowBits_0 rfl (lv_at hl 1 rfl) ?_
  refine r_if_lt (tgt := 24) hx hb ⟨(by omega), (by omega)⟩ dX6_lowBits_1 (by decide) (fun c_1 => ?_) (fun c_1 => ?_)
  · refine lv_lconst (v := jv 0) hx hb dX6_lowBits_24 (by decide) ?_
    exact sLret Cx hr hlk hW hL ⟨hI, (Fr.rf : Fr S S pNz), (by omega)⟩ dX6_lowBits_25
  · refine lv_iload_n hx hb dX6_lowBits_4 rfl (lv_at hl 1 rfl) ?_
    refine lv_aload_n hx hb dX6_lowBits_5 rfl (lv_at hl 0 rfl) ?_
    have q_2 : 0 ≤ S.1 120 9 ∧ S.1 120 9 ≤ 40 := hI.fi 120 9 6 (by decide) rfl
    refine g_X6_50 Cx hW (k := 120) (by decide) rfl (v := S.1 120 9) rfl dX6_lowBits_6 ?_
    refine r_icmp_gt (tgt := 24) hx hb ⟨(by omega), (by omega)⟩ ⟨(by omega), (by omega)⟩ dX6_lowBits_9 (by decide) (fun c_3 => ?_) (fun c_3 => ?_)
    · refine lv_lconst (v := jv 0) hx hb dX6_lowBits_24 (by decide) ?_
      exact sLret Cx hr hlk hW hL ⟨hI, (Fr.rf : Fr S S pNz), (by omega)⟩ dX6_lowBits_25
    · refine lv_iload_n hx hb dX6_lowBits_12 rfl (lv_at hl 2 rfl) ?_
      refine r_if_lt (tgt := 24) hx hb ⟨(by omega), (by omega)⟩ dX6_lowBits_13 (by decide) (fun c_4 => ?_) (fun c_4 => ?_)
      · refine lv_lconst (v := jv 0) hx hb dX6_lowBits_24 (by decide) ?_
        exact sLret Cx hr hlk hW hL ⟨hI, (Fr.rf : Fr S S pNz), (by omega)⟩ dX6_lowBits_25
      · refine lv_iload_n hx hb dX6_lowBits_16 rfl (lv_at hl 2 rfl) ?_
        refine lv_aload_n hx hb dX6_lowBits_17 rfl (lv_at hl 0 rfl) ?_
        have q_5 : 0 ≤ S.1 120 8 ∧ S.1 120 8 ≤ 12 := hI.fi 120 8 6 (by decide) rfl
        refine g_X6_46 Cx hW (k := 120) (by decide) rfl (v := S.1 120 8) rfl dX6_lowBits_18 ?_
        refine r_icmp_le (tgt := 26) hx hb ⟨(by omega), (by omega)⟩ ⟨(by omega), (by omega)⟩ dX6_lowBits_21 (by decide) (fun c_6 => ?_) (fun c_6 => ?_)
        · refine lv_aload_n hx hb dX6_lowBits_26 rfl (lv_at hl 0 rfl) ?_
          refine g_X6_21 Cx hW (k := 120) (by decide) rfl (v := .ref (G.2.2.1 + 123)) (rf_120_2 hI) dX6_lowBits_27 ?_
          refine lv_aload_n hx hb dX6_lowBits_30 rfl (lv_at hl 0 rfl) ?_
          refine g_X6_13 Cx hW (k := 120) (by decide) rfl (v := .ref (G.2.2.1 + 121)) (rf_120_0 hI) dX6_lowBits_31 ?_
          refine lv_iload_n hx hb dX6_lowBits_34 rfl (lv_at hl 1 rfl) ?_
          refine lv_iload_n hx hb dX6_lowBits_35 rfl (lv_at hl 2 rfl) ?_
          refine sBi (sSt (As := [.int (iv k), .int (iv j)]) (rest := [.ref (G.2.2.1 + 121), .ref (G.2.2.1 + 123)]) Cx (s_X6_at l G S (k := k) (j := j) (by omega) (by omega)) (c_X6_53 Cx rfl rfl (rmk_ok (by omega) (by decide))) hW rfl hl.1 rfl (Nat.le_of_ble_eq_true rfl) dX6_lowBits_36 ⟨Nat.le_of_ble_eq_true rfl, Nat.le_of_ble_eq_true rfl⟩) hL (fun r_9 u_7 H locs k_8 hW hL => ?_)
          obtain ⟨eu_7, xu_7⟩ := k_8
          rw [eu_7] at hW
          refine sBv (sV (As := [.ref (G.2.2.1 + 121), .int (iv r_9)]) (rest := []) (k := 123) Cx (s_X0_load l G S (o := 123) (k := 121) (a := r_9) (N := 4264) hI rfl ⟨by decide, rfl, by decide, rfl, rfl, rfl⟩ (by omega)) (c_X6_75 Cx rfl rfl (rmk_ok (by omega) (by decide))) hW (by decide) rfl rfl rfl hl.1 rfl (Nat.le_of_ble_eq_true rfl) dX6_lowBits_39 ⟨Nat.le_of_ble_eq_true rfl, Nat.le_of_ble_eq_true rfl⟩) hL (fun u_10 H locs k_11 hW hL => ?_)
          obtain ⟨iu_10, fu_10, xu_10⟩ := k_11
          have F_12 := (Fr.rf : Fr S S pNz).trans (fu_10.to (pB_sub rfl rfl))
          have yu_10 : u_10.1 123 1 ≤ 7 := xu_10.1
          refine lv_aload_n hx hb dX6_lowBits_42 rfl (lv_at hl 0 rfl) ?_
          refine g_X6_21 Cx hW (k := 120) (by decide) rfl (v := .ref (G.2.2.1 + 123)) (rf_120_2 iu_10) dX6_lowBits_43 ?_
          refine sBl (sV (As := []) (rest := []) (k := 123) Cx (s_X0_lowBits l G u_10 (o := 123) iu_10 rfl) (c_X6_79 Cx rfl rfl (rmk_ok (by omega) (by decide))) hW (by decide) rfl rfl rfl hl.1 rfl (Nat.le_of_ble_eq_true rfl) dX6_lowBits_46 ⟨Nat.le_of_ble_eq_true rfl, Nat.le_of_ble_eq_true rfl⟩) hL (fun r_15 u_13 H locs k_14 hW hL => ?_)
          obtain ⟨eu_13, xu_13⟩ := k_14
          rw [eu_13] at hW
          exact sLret Cx hr hlk hW hL ⟨iu_10, F_12, (by omega)⟩ dX6_lowBits_49
        · refine lv_lconst (v := jv 0) hx hb dX6_lowBits_24 (by decide) ?_
          exact sLret Cx hr hlk hW hL ⟨hI, (Fr.rf : Fr S S pNz), (by omega)⟩ dX6_lowBits_25

set_option maxRecDepth 100000 in
set_option maxHeartbeats 4000000 in
theorem z_X6_take_193 (l : Launch) (G : sG) (S : sS) {md : Nat} (hI : cX G S 0 0 0) (hm2 : mdl md) : Met l yX6_take (.code yX6_take cX6_take 4 none :: tb) (rmk 3 0 0) (sPc G 294 S [.ref (G.2.2.1 + 193), .ref (G.2.2.1 + md)]) (sQv G 294 (fun u => cX G u 0 0 0 ∧ Fr S u pEw)) 0 0 (sF G) := by
  refine sEnter (by decide) (Nat.le_of_ble_eq_true rfl) ?_
  intro p e s m args below meth c Cx hr hlk hnm hW ls hl
  have Cx : sC G p m c cX6_take 4 s args RX6 := Cx
  obtain ⟨hx, hb, hml, hown, hts⟩ := id Cx.1
  have hL : sL G [] := sL_nil
  have hl : lv_has ls 4 [(0, .ref (G.2.2.1 + 193)), (1, .ref (G.2.2.1 + md))] := hl
  have hW0 := hW
  refine lv_aload_n hx hb dX6_take_0 rfl (lv_at hl 0 rfl) ?_
  refine lv_aload_n hx hb dX6_take_1 rfl (lv_at hl 1 rfl) ?_
  have q_1 : 0 ≤ S.1 md 2 ∧ S.1 md 2 ≤ 12 := hI.fi md 2 3 (mdl_k hm2) hm2.1
  refine g_X6_40 Cx hW (k := md) (mdl_l hm2) hm2.1 (v := S.1 md 2) rfl dX6_take_2 ?_
  refine p_X6_46 Cx hW hL (k := 193) (by decide) rfl dX6_take_5 (fun H locs hW hL => ?_)
  have F_2 : Fr S (uF S 193 8 (S.1 md 2)) pEw := (Fr.rf : Fr S S pEw).F rfl
  have i_3 : cX G (uF S 193 8 (S.1 md 2)) 0 0 0 := hI.F rfl rfl (show 0 ≤ S.1 md 2 ∧ S.1 md 2 ≤ 12 from ⟨by omega, by omega⟩)
  refine lv_aload_n hx hb dX6_take_8 rfl (lv_at hl 0 rfl) ?_
  refine lv_aload_n hx hb dX6_take_9 rfl (lv_at hl 1 rfl) ?_
  have q_4 : 0 ≤ S.1 md 3 ∧ S.1 md 3 ≤ 16 := hI.fi md 3 3 (mdl_k hm2) hm2.1
  refine g_X6_47 Cx hW (k := md) (mdl_l hm2) hm2.1 (v := S.1 md 3) (uF_ne (fun h => absurd h.2 (by decide))) dX6_take_10 ?_
  refine p_X6_50 Cx hW hL (k := 193) (by decide) rfl dX6_take_13 (fun H locs hW hL => ?_)
  have F_5 : Fr S (uF (uF S 193 8 (S.1 md 2)) 193 9 (S.1 md 3)) pEw := F_2.F rfl
  have i_6 : cX G (uF (uF S 193 8 (S.1 md 2)) 193 9 (S.1 md 3)) 0 0 0 := i_3.F rfl rfl (show 0 ≤ S.1 md 3 ∧ S.1 md 3 ≤ 40 from ⟨by omega, by omega⟩)
  refine lv_iconst (v := iv 0) hx hb dX6_take_16 (by decide) ?_
  refine lv_istore_n (lv' := [(2, .int (iv 0)), (0, .ref (G.2.2.1 + 193)), (1, .ref (G.2.2.1 + md))]) hx hb dX6_take_17 rfl hl (by decide) rfl (fun ls hl => ?_)
  have loop_18 : ∀ (fuel : Nat) (S18 : sS) (k : Int) (H : Heap) (locs : List Loc) (ls : Array Slot), (17 - k).toNat < fuel → (cX G S18 0 0 0) → (Fr S S18 pEw) → (Fr ((uF (uF S 193 8 (S.1 md 2)) 193 9 (S.1 md 3))) S18 pEy) → (0 ≤ k ∧ k ≤ 17) → sW G 294 S18 H → sL G locs → lv_has ls 4 [(2, .int (iv k)), (0, .ref (G.2.2.1 + 193)), (1, .ref (G.2.2.1 + md))] → W p l e (rmk 3 0 0) s m args below meth c H locs 0 0 (MQ below (sQv G 294 (fun u => cX G u 0 0 0 ∧ Fr S u pEw)) args s 0 0 (sF G)) (F0 m 18 ls []) := by
    intro fuel
    induction fuel with
    | zero => intro S18 k H locs ls hmeas hI18 hFm18 hL18_ hk hW hL hl; exact absurd hmeas (Nat.not_lt_zero _)
    | succ fuel ih_18 =>
      intro S18 k H locs ls hmeas hI18 hFm18 hL18_ hk hW hL hl
      refine lv_iload_n hx hb dX6_take_18 rfl (lv_at hl 0 rfl) ?_
      refine lv_aload_n hx hb dX6_take_19 rfl (lv_at hl 1 rfl) ?_
      refine g_X6_50 Cx hW (k := 193) (by decide) rfl (v := S.1 md 3) (((hL18_ 193 rfl).1 9).trans (uF_on)) dX6_take_20 ?_
      refine r_icmp_gt (tgt := 67) hx hb ⟨(by omega), (by omega)⟩ ⟨(by omega), (by omega)⟩ dX6_take_23 (by decide) (fun c_7 => ?_) (fun c_7 => ?_)
      · refine lv_aload_n hx hb dX6_take_67 rfl (lv_at hl 1 rfl) ?_
        refine sBv (sV (As := []) (rest := []) (k := 193) Cx (s_X6_clearFactors_193 l G S18  hI18) (c_X6_64 Cx rfl rfl (rmk_ok (by omega) (by decide))) hW (by decide) rfl rfl rfl hl.1 rfl (Nat.le_of_ble_eq_true rfl) dX6_take_68 ⟨Nat.le_of_ble_eq_true rfl, Nat.le_of_ble_eq_true rfl⟩) hL (fun u_8 H locs k_9 hW hL => ?_)
        obtain ⟨iu_8, fu_8⟩ := k_9
        have F_10 := hFm18.trans (fu_8.to (p1_sub rfl))
        have F_11 := hL18_.trans (fu_8.to (p1_sub rfl))
        exact sVret Cx hr hlk hW hL ⟨iu_8, F_10⟩ dX6_take_71
      · refine lv_iconst (v := iv 0) hx hb dX6_take_26 (by decide) ?_
        refine lv_istore_n (lv' := [(3, .int (iv 0)), (2, .int (iv k)), (0, .ref (G.2.2.1 + 193)), (1, .ref (G.2.2.1 + md))]) hx hb dX6_take_27 rfl hl (by decide) rfl (fun ls hl => ?_)
        have loop_28 : ∀ (fuel : Nat) (S28 : sS) (j : Int) (H : Heap) (locs : List Loc) (ls : Array Slot), (13 - j).toNat < fuel → (cX G S28 0 0 0) → (Fr S S28 pEw) → (Fr ((uF (uF S 193 8 (S.1 md 2)) 193 9 (S.1 md 3))) S28 pEy) → (Fr S18 S28 pEy) → (0 ≤ j ∧ j ≤ 13) → sW G 294 S28 H → sL G locs → lv_has ls 4 [(3, .int (iv j)), (2, .int (iv k)), (0, .ref (G.2.2.1 + 193)), (1, .ref (G.2.2.1 + md))] → W p l e (rmk 3 0 0) s m args below meth c H locs 0 0 (MQ below (sQv G 294 (fun u => cX G u 0 0 0 ∧ Fr S u pEw)) args s 0 0 (sF G)) (F0 m 28 ls []) := by
          intro fuel
          induction fuel with
          | zero => intro S28 j H locs ls hmeas hI28 hFm28 hFL1828 hL28_ hj hW hL hl; exact absurd hmeas (Nat.not_lt_zero _)
          | succ fuel ih_28 =>
            intro S28 j H locs ls hmeas hI28 hFm28 hFL1828 hL28_ hj hW hL hl
            refine lv_iload_n hx hb dX6_take_28 rfl (lv_at hl 0 rfl) ?_
            refine lv_aload_n hx hb dX6_take_29 rfl (lv_at hl 2 rfl) ?_
            refine g_X6_46 Cx hW (k := 193) (by decide) rfl (v := S.1 md 2) (((hL28_ 193 rfl).1 8).trans (((hL18_ 193 rfl).1 8).trans ((uF_ne (fun h => absurd h.2 (by decide))).trans (uF_on)))) dX6_take_30 ?_
            refine r_icmp_gt (tgt := 61) hx hb ⟨(by omega), (by omega)⟩ ⟨(by omega), (by omega)⟩ dX6_take_33 (by decide) (fun c_12 => ?_) (fun c_12 => ?_)
            · refine lv_iinc (v := iv (k + 1)) (lv' := [(2, .int (iv (k + 1))), (3, .int (iv j)), (0, .ref (G.2.2.1 + 193)), (1, .ref (G.2.2.1 + md))]) hx hb dX6_take_61 hl (k := 1) rfl ((Int32.ofInt_add _ _).symm) (by decide) rfl (fun ls hl => ?_)
              refine lv_goto (tgt := 18) hx hb dX6_take_64 (by decide) ?_
              exact ih_18 S28 (k + 1) _ _ _ (by omega) hI28 hFm28 hFL1828 (by omega) hW hL (lv_sub hl [0, 2, 3] rfl)
            · refine lv_aload_n hx hb dX6_take_36 rfl (lv_at hl 2 rfl) ?_
              refine g_X6_13 Cx hW (k := 193) (by decide) rfl (v := .ref (G.2.2.1 + 194)) (rf_193_0 hI28) dX6_take_37 ?_
              refine lv_iload_n hx hb dX6_take_40 rfl (lv_at hl 1 rfl) ?_
              refine lv_iload_n hx hb dX6_take_41 rfl (lv_at hl 0 rfl) ?_
              refine sBi (sSt (As := [.int (iv k), .int (iv j)]) (rest := [.ref (G.2.2.1 + 194)]) Cx (s_X6_at l G S28 (k := k) (j := j) (by omega) (by omega)) (c_X6_53 Cx rfl rfl (rmk_ok (by omega) (by decide))) hW rfl hl.1 rfl (Nat.le_of_ble_eq_true rfl) dX6_take_42 ⟨Nat.le_of_ble_eq_true rfl, Nat.le_of_ble_eq_true rfl⟩) hL (fun r_15 u_13 H locs k_14 hW hL => ?_)
              obtain ⟨eu_13, xu_13⟩ := k_14
              rw [eu_13] at hW
              refine lv_aload_n hx hb dX6_take_45 rfl (lv_at hl 3 rfl) ?_
              refine lv_iload_n hx hb dX6_take_46 rfl (lv_at hl 1 rfl) ?_
              refine lv_iload_n hx hb dX6_take_47 rfl (lv_at hl 0 rfl) ?_
              refine sBi (sV (As := [.int (iv k), .int (iv j)]) (rest := [.int (iv r_15), .ref (G.2.2.1 + 194)]) (k := md) Cx (s_X3_number l G S28 (o := md) (k := k) (j := j) hI28 hm2 (by omega) (by omega)) (c_X6_57 Cx rfl rfl (rmk_ok (by omega) (by decide))) hW (mdl_l hm2) hm2.1 rfl rfl hl.1 rfl (Nat.le_of_ble_eq_true rfl) dX6_take_48 ⟨Nat.le_of_ble_eq_true rfl, Nat.le_of_ble_eq_true rfl⟩) hL (fun r_18 u_16 H locs k_17 hW hL => ?_)
              obtain ⟨eu_16, xu_16⟩ := k_17
              rw [eu_16] at hW
              refine r_i2l hx hb ⟨(by omega), (by omega)⟩ dX6_take_51 ?_
              refine sBv (sSt (As := [.ref (G.2.2.1 + 194), .int (iv r_15), .long (jv r_18)]) (rest := []) Cx (s_X0_store l G S28 (k := 194) (a := r_15) (v := r_18) (N := 4264) hI28 ⟨by decide, rfl, by decide, rfl, rfl, rfl⟩ (by omega) (by omega) (fun q _ => by rcases q with q | q <;> exact absurd q (by decide))) (c_X6_60 Cx rfl rfl (rmk_ok (by omega) (by decide))) hW rfl hl.1 rfl (Nat.le_of_ble_eq_true rfl) dX6_take_52 ⟨Nat.le_of_ble_eq_true rfl, Nat.le_of_ble_eq_true rfl⟩) hL (fun u_19 H locs k_20 hW hL => ?_)
              obtain ⟨iu_19, fu_19⟩ := k_20
              have F_21 := hFm28.trans (fu_19.to (p1_sub rfl))
              have F_22 := hFL1828.trans (fu_19.to (p1_sub rfl))
              have F_23 := hL28_.trans (fu_19.to (p1_sub rfl))
              refine lv_iinc (v := iv (j + 1)) (lv' := [(3, .int (iv (j + 1))), (2, .int (iv k)), (0, .ref (G.2.2.1 + 193)), (1, .ref (G.2.2.1 + md))]) hx hb dX6_take_55 hl (k := 0) rfl ((Int32.ofInt_add _ _).symm) (by decide) rfl (fun ls hl => ?_)
              refine lv_goto (tgt := 28) hx hb dX6_take_58 (by decide) ?_
              exact ih_28 u_19 (j + 1) _ _ _ (by omega) iu_19 F_21 F_22 F_23 (by omega) hW hL (lv_sub hl [0, 1, 2, 3] rfl)
        exact loop_28 (_ + 1) S18 0 _ _ _ (Nat.lt_succ_self _) hI18 hFm18 hL18_ Fr.rf (by omega) hW hL (lv_sub hl [0, 1, 2, 3] rfl)
  exact loop_18 (_ + 1) (uF (uF S 193 8 (S.1 md 2)) 193 9 (S.1 md 3)) 0 _ _ _ (Nat.lt_succ_self _) i_6 F_5 Fr.rf (by omega) hW hL (lv_sub hl [0, 1, 2] rfl)

set_option maxRecDepth 100000 in
set_option maxHeartbeats 4000000 in
theorem z_X6_addCut_193 (l : Launch) (G : sG) (S : sS)  (hI : cX G S 0 0 0) (hq : S.1 213 1 ≤ 30) : Met l yX6_addCut (.code yX6_addCut cX6_addCut 3 (some .boolean) :: tb) (rmk 5 0 0) (sPc G 294 S [.ref (G.2.2.1 + 193), .ref (G.2.2.1 + 213)]) (sQi G 294 (fun r u => cX G u 0 0 0 ∧ Fr S u pEw ∧ (0 ≤ r ∧ r ≤ 1))) 0 0 (sF G) := by
  refine sEnter (by decide) (Nat.le_of_ble_eq_true rfl) ?_
  intro p e s m args below meth c Cx hr hlk hnm hW ls hl
  have Cx : sC G p m c cX6_addCut 3 s args RX6 := Cx
  obtain ⟨hx, hb, hml, hown, hts⟩ := id Cx.1
  have hL : sL G [] := sL_nil
  have hl : lv_has ls 3 [(0, .ref (G.2.2.1 + 193)), (1, .ref (G.2.2.1 + 213))] := hl
  have hW0 := hW
  refine lv_aload_n hx hb dX6_addCut_0 rfl (lv_at hl 0 rfl) ?_
  have q_1 : 0 ≤ S.1 193 9 ∧ S.1 193 9 ≤ 40 := hI.fi 193 9 6 (by decide) rfl
  refine sBi (sV (As := []) (rest := []) (k := 193) Cx (s_X6_isFull_193 l G S  hI) (c_X6_97 Cx rfl rfl (rmk_ok (by omega) (by decide))) hW (by decide) rfl rfl rfl hl.1 rfl (Nat.le_of_ble_eq_true rfl) dX6_addCut_1 ⟨Nat.le_of_ble_eq_true rfl, Nat.le_of_ble_eq_true rfl⟩) hL (fun r_4 u_2 H locs k_3 hW hL => ?_)
  obtain ⟨eu_2, xu_2⟩ := k_3
  rw [eu_2] at hW
  refine r_if_eq (tgt := 9) hx hb ⟨(by omega), (by omega)⟩ dX6_addCut_4 (by decide) (fun c_5 => ?_) (fun c_5 => ?_)
  · refine lv_iconst (v := iv 0) hx hb dX6_addCut_9 (by decide) ?_
    refine lv_istore_n (lv' := [(2, .int (iv 0)), (0, .ref (G.2.2.1 + 193)), (1, .ref (G.2.2.1 + 213))]) hx hb dX6_addCut_10 rfl hl (by decide) rfl (fun ls hl => ?_)
    have loop_11 : ∀ (fuel : Nat) (S11 : sS) (j : Int) (H : Heap) (locs : List Loc) (ls : Array Slot), (13 - j).toNat < fuel → (cX G S11 0 0 0) → (Fr S S11 pEw) → (Fr S S11 pEy) → (0 ≤ j ∧ j ≤ 13) → (S11.1 213 1 ≤ 30) → sW G 294 S11 H → sL G locs → lv_has ls 3 [(2, .int (iv j)), (0, .ref (G.2.2.1 + 193)), (1, .ref (G.2.2.1 + 213))] → W p l e (rmk 5 0 0) s m args below meth c H locs 0 0 (MQ below (sQi G 294 (fun r u => cX G u 0 0 0 ∧ Fr S u pEw ∧ (0 ≤ r ∧ r ≤ 1))) args s 0 0 (sF G)) (F0 m 11 ls []) := by
      intro fuel
      induction fuel with
      | zero => intro S11 j H locs ls hmeas hI11 hFm11 hL11_ hj hq2 hW hL hl; exact absurd hmeas (Nat.not_lt_zero _)
      | succ fuel ih_11 =>
        intro S11 j H locs ls hmeas hI11 hFm11 hL11_ hj hq2 hW hL hl
        refine lv_iload_n hx hb dX6_addCut_11 rfl (lv_at hl 0 rfl) ?_
        refine lv_aload_n hx hb dX6_addCut_12 rfl (lv_at hl 1 rfl) ?_
        have q_6 : 0 ≤ S.1 193 8 ∧ S.1 193 8 ≤ 12 := hI.fi 193 8 6 (by decide) rfl
        refine g_X6_46 Cx hW (k := 193) (by decide) rfl (v := S.1 193 8) ((hL11_ 193 rfl).1 8) dX6_addCut_13 ?_
        refine r_icmp_gt (tgt := 85) hx hb ⟨(by omega), (by omega)⟩ ⟨(by omega), (by omega)⟩ dX6_addCut_16 (by decide) (fun c_7 => ?_) (fun c_7 => ?_)
        · refine lv_aload_n hx hb dX6_addCut_85 rfl (lv_at hl 1 rfl) ?_
          refine lv_dup hx hb dX6_addCut_86 rfl ?_
          refine g_X6_50 Cx hW (k := 193) (by decide) rfl (v := S.1 193 9) ((hL11_ 193 rfl).1 9) dX6_addCut_87 ?_
          refine lv_iconst (v := iv 1) hx hb dX6_addCut_90 (by decide) ?_
          refine r_iadd hx hb dX6_addCut_91 ?_
          refine p_X6_50 Cx hW hL (k := 193) (by decide) rfl dX6_addCut_92 (fun H locs hW hL => ?_)
          have F_8 : Fr S (uF S11 193 9 ((S.1 193 9) + 1)) pEw := hFm11.F rfl
          have i_9 : cX G (uF S11 193 9 ((S.1 193 9) + 1)) 0 0 0 := hI11.F rfl rfl (show 0 ≤ (S.1 193 9) + 1 ∧ (S.1 193 9) + 1 ≤ 40 from ⟨by omega, by omega⟩)
          refine lv_iconst (v := iv 1) hx hb dX6_addCut_95 (by decide) ?_
          exact sZret Cx hr hlk hW hL (by omega) ⟨i_9, F_8, (by omega)⟩ dX6_addCut_96
        · refine lv_aload_n hx hb dX6_addCut_19 rfl (lv_at hl 1 rfl) ?_
          refine lv_iload_n hx hb dX6_addCut_20 rfl (lv_at hl 0 rfl) ?_
          refine lv_aload_n hx hb dX6_addCut_21 rfl (lv_at hl 1 rfl) ?_
          refine g_X6_31 Cx hW (k := 193) (by decide) rfl (v := .ref (G.2.2.1 + 202)) (rf_193_5 hI11) dX6_addCut_22 ?_
          refine sBv (sV (As := [.int (iv j), .ref (G.2.2.1 + 202)]) (rest := []) (k := 193) Cx (s_X6_combine_193_202 l G S11 (j := j) hI11 (by omega)) (c_X6_101 Cx rfl rfl (rmk_ok (by omega) (by decide))) hW (by decide) rfl rfl rfl hl.1 rfl (Nat.le_of_ble_eq_true rfl) dX6_addCut_25 ⟨Nat.le_of_ble_eq_true rfl, Nat.le_of_ble_eq_true rfl⟩) hL (fun u_10 H locs k_11 hW hL => ?_)
          obtain ⟨iu_10, fu_10, xu_10⟩ := k_11
          have F_12 := hFm11.trans (fu_10.to (pK_sub rgEw_193 rfl rfl))
          have F_13 := hL11_.trans (fu_10.to (pK_sub rgEy_193 rfl rfl))
          refine lv_aload_n hx hb dX6_addCut_28 rfl (lv_at hl 1 rfl) ?_
          refine g_X6_31 Cx hW (k := 193) (by decide) rfl (v := .ref (G.2.2.1 + 202)) (rf_193_5 iu_10) dX6_addCut_29 ?_
          refine lv_aload_n hx hb dX6_addCut_32 rfl (lv_at hl 2 rfl) ?_
          refine lv_aload_n hx hb dX6_addCut_33 rfl (lv_at hl 1 rfl) ?_
          refine g_X6_34 Cx hW (k := 193) (by decide) rfl (v := .ref (G.2.2.1 + 204)) (rf_193_6 iu_10) dX6_addCut_34 ?_
          refine lv_aload_n hx hb dX6_addCut_37 rfl (lv_at hl 1 rfl) ?_
          refine g_X6_37 Cx hW (k := 193) (by decide) rfl (v := .ref (G.2.2.1 + 206)) (rf_193_7 iu_10) dX6_addCut_38 ?_
          have q_14 : 0 ≤ u_10.1 202 1 ∧ u_10.1 202 1 ≤ 32 := iu_10.fi 202 1 0 (by decide) rfl
          have q_15 : 0 ≤ S11.1 213 1 ∧ S11.1 213 1 ≤ 32 := hI11.fi 213 1 0 (by decide) rfl
          have lk_16 : u_10.1 213 1 = S11.1 213 1 := (fu_10 213 rfl).1 1
          have q_17 : (-1) ≤ u_10.1 202 2 ∧ u_10.1 202 2 ≤ 1 := iu_10.fi 202 2 0 (by decide) rfl
          have q_18 : (-1) ≤ S11.1 213 2 ∧ S11.1 213 2 ≤ 1 := hI11.fi 213 2 0 (by decide) rfl
          have lk_19 : u_10.1 213 2 = S11.1 213 2 := (fu_10 213 rfl).1 2
          refine sBv (sV (As := [.ref (G.2.2.1 + 213), .ref (G.2.2.1 + 204), .ref (G.2.2.1 + 206)]) (rest := []) (k := 202) Cx (s_X0_divide l G u_10 (o := 202) (b := 213) (q := 204) (h := 206) (n := 15) iu_10 rfl rfl rfl rfl (show (202 : Nat) ≠ 213 by decide) (show (202 : Nat) ≠ 204 by decide) (show (202 : Nat) ≠ 206 by decide) (show (213 : Nat) ≠ 204 by decide) (show (213 : Nat) ≠ 206 by decide) (show (204 : Nat) ≠ 206 by decide) (by omega)) (c_X6_105 Cx rfl rfl (rmk_ok (by omega) (by decide))) hW (by decide) rfl rfl rfl hl.1 rfl (Nat.le_of_ble_eq_true rfl) dX6_addCut_41 ⟨Nat.le_of_ble_eq_true rfl, Nat.le_of_ble_eq_true rfl⟩) hL (fun u_20 H locs k_21 hW hL => ?_)
          obtain ⟨iu_20, fu_20, xu_20⟩ := k_21
          have F_22 := F_12.trans (fu_20.to (pD_sub (pB_sub rfl rfl) (pB_sub rfl rfl) (pB_sub rfl rfl)))
          have F_23 := F_13.trans (fu_20.to (pD_sub (pB_sub rfl rfl) (pB_sub rfl rfl) (pB_sub rfl rfl)))
          refine lv_aload_n hx hb dX6_addCut_44 rfl (lv_at hl 1 rfl) ?_
          refine g_X6_34 Cx hW (k := 193) (by decide) rfl (v := .ref (G.2.2.1 + 204)) (rf_193_6 iu_20) dX6_addCut_45 ?_
          have q_24 : 0 ≤ u_20.1 204 1 ∧ u_20.1 204 1 ≤ 32 := iu_20.fi 204 1 0 (by decide) rfl
          refine sBi (sV (As := []) (rest := []) (k := 204) Cx (s_X0_digitCount l G u_20 (o := 204) iu_20 rfl) (c_X6_109 Cx rfl rfl (rmk_ok (by omega) (by decide))) hW (by decide) rfl rfl rfl hl.1 rfl (Nat.le_of_ble_eq_true rfl) dX6_addCut_48 ⟨Nat.le_of_ble_eq_true rfl, Nat.le_of_ble_eq_true rfl⟩) hL (fun r_27 u_25 H locs k_26 hW hL => ?_)
          obtain ⟨eu_25, xu_25⟩ := k_26
          rw [eu_25] at hW
          refine lv_bipush (v := iv 60) hx hb dX6_addCut_51 (by decide) ?_
          refine r_icmp_le (tgt := 58) hx hb ⟨(by omega), (by omega)⟩ ⟨(by omega), (by omega)⟩ dX6_addCut_53 (by decide) (fun c_28 => ?_) (fun c_28 => ?_)
          · refine lv_aload_n hx hb dX6_addCut_58 rfl (lv_at hl 1 rfl) ?_
            refine g_X6_34 Cx hW (k := 193) (by decide) rfl (v := .ref (G.2.2.1 + 204)) (rf_193_6 iu_20) dX6_addCut_59 ?_
            refine lv_aload_n hx hb dX6_addCut_62 rfl (lv_at hl 1 rfl) ?_
            refine g_X6_13 Cx hW (k := 193) (by decide) rfl (v := .ref (G.2.2.1 + 194)) (rf_193_0 iu_20) dX6_addCut_63 ?_
            refine lv_aload_n hx hb dX6_addCut_66 rfl (lv_at hl 1 rfl) ?_
            refine g_X6_50 Cx hW (k := 193) (by decide) rfl (v := S.1 193 9) (((fu_20 193 rfl).1 9).trans (((fu_10 193 rfl).1 9).trans ((hL11_ 193 rfl).1 9))) dX6_addCut_67 ?_
            refine lv_iconst (v := iv 1) hx hb dX6_addCut_70 (by decide) ?_
            refine r_iadd hx hb dX6_addCut_71 ?_
            refine lv_iload_n hx hb dX6_addCut_72 rfl (lv_at hl 0 rfl) ?_
            refine sBi (sSt (As := [.int (iv ((S.1 193 9) + 1)), .int (iv j)]) (rest := [.ref (G.2.2.1 + 194), .ref (G.2.2.1 + 204)]) Cx (s_X6_at l G u_20 (k := (S.1 193 9) + 1) (j := j) (by omega) (by omega)) (c_X6_53 Cx rfl rfl (rmk_ok (by omega) (by decide))) hW rfl hl.1 rfl (Nat.le_of_ble_eq_true rfl) dX6_addCut_73 ⟨Nat.le_of_ble_eq_true rfl, Nat.le_of_ble_eq_true rfl⟩) hL (fun r_31 u_29 H locs k_30 hW hL => ?_)
            obtain ⟨eu_29, xu_29⟩ := k_30
            rw [eu_29] at hW
            have q_32 : (-1) ≤ u_20.1 204 2 ∧ u_20.1 204 2 ≤ 1 := iu_20.fi 204 2 0 (by decide) rfl
            refine sBv (sV (As := [.ref (G.2.2.1 + 194), .int (iv r_31)]) (rest := []) (k := 204) Cx (s_X0_save l G u_20 (o := 204) (k := 194) (a := r_31) (N := 4264) iu_20 rfl ⟨by decide, rfl, by decide, rfl, rfl, rfl⟩ (by omega) (show _ ≤ (7 : Int) ∧ (_ → _ ≤ (999999999 : Int)) from ⟨by omega, fun _ => by have := limbR iu_20 (rfl : tau 204 = .inl 0) 6; omega⟩) (fun q _ => by rcases q with q | q <;> exact absurd q (by decide))) (c_X6_83 Cx rfl rfl (rmk_ok (by omega) (by decide))) hW (by decide) rfl rfl rfl hl.1 rfl (Nat.le_of_ble_eq_true rfl) dX6_addCut_76 ⟨Nat.le_of_ble_eq_true rfl, Nat.le_of_ble_eq_true rfl⟩) hL (fun u_33 H locs k_34 hW hL => ?_)
            obtain ⟨iu_33, fu_33⟩ := k_34
            have F_35 := F_22.trans (fu_33.to (p1_sub rfl))
            have F_36 := F_23.trans (fu_33.to (p1_sub rfl))
            refine lv_iinc (v := iv (j + 1)) (lv' := [(2, .int (iv (j + 1))), (0, .ref (G.2.2.1 + 193)), (1, .ref (G.2.2.1 + 213))]) hx hb dX6_addCut_79 hl (k := 0) rfl ((Int32.ofInt_add _ _).symm) (by decide) rfl (fun ls hl => ?_)
            refine lv_goto (tgt := 11) hx hb dX6_addCut_82 (by decide) ?_
            have lk_37 : u_33.1 213 1 = S11.1 213 1 := ((fu_33 213 rfl).1 1).trans (((fu_20 213 rfl).1 1).trans ((fu_10 213 rfl).1 1))
            exact ih_11 u_33 (j + 1) _ _ _ (by omega) iu_33 F_35 F_36 (by omega) (by omega) hW hL (lv_sub hl [0, 1, 2] rfl)
          · refine lv_iconst (v := iv 0) hx hb dX6_addCut_56 (by decide) ?_
            exact sZret Cx hr hlk hW hL (by omega) ⟨iu_20, F_22, (by omega)⟩ dX6_addCut_57
    have q_38 : 0 ≤ S.1 213 1 ∧ S.1 213 1 ≤ 32 := hI.fi 213 1 0 (by decide) rfl
    exact loop_11 (_ + 1) S 0 _ _ _ (Nat.lt_succ_self _) hI (Fr.rf : Fr S S pEw) Fr.rf (by omega) (by omega) hW hL (lv_sub hl [0, 1, 2] rfl)
  · refine lv_iconst (v := iv 0) hx hb dX6_addCut_7 (by decide) ?_
    exact sZret Cx hr hlk hW hL (by omega) ⟨hI, (Fr.rf : Fr S S pEw), (by omega)⟩ dX6_addCut_8

set_option maxRecDepth 100000 in
set_option maxHeartbeats 4000000 in
theorem z_X6_addLimit_193 (l : Launch) (G : sG) (S : sS) {z ab : Int} (hI : cX G S 0 0 0) (hz : -2147483648 ≤ z ∧ z ≤ 2147483647) (hab : 0 ≤ ab ∧ ab ≤ 1) (hv : S.1 219 1 ≤ 7) (hv6 : Hd (S.1 219 1 = 7 → S.2.1 220 6 ≤ 999999)) : Met l yX6_addLimit (.code yX6_addLimit cX6_addLimit 5 none :: tb) (rmk 4 0 0) (sPc G 294 S [.ref (G.2.2.1 + 193), .int (iv z), .ref (G.2.2.1 + 219), .int (iv ab)]) (sQv G 294 (fun u => cX G u 0 0 0 ∧ Fr S u pEw)) 0 0 (sF G) := by
  refine sEnter (by decide) (Nat.le_of_ble_eq_true rfl) ?_
  intro p e s m args below meth c Cx hr hlk hnm hW ls hl
  have Cx : sC G p m c cX6_addLimit 5 s args RX6 := Cx
  obtain ⟨hx, hb, hml, hown, hts⟩ := id Cx.1
  have hL : sL G [] := sL_nil
  have hl : lv_has ls 5 [(0, .ref (G.2.2.1 + 193)), (1, .int (iv z)), (2, .ref (G.2.2.1 + 219)), (3, .int (iv ab))] := hl
  have hW0 := hW
  refine lv_aload_n hx hb dX6_addLimit_0 rfl (lv_at hl 0 rfl) ?_
  have q_1 : 0 ≤ S.1 193 9 ∧ S.1 193 9 ≤ 40 := hI.fi 193 9 6 (by decide) rfl
  refine sBi (sV (As := []) (rest := []) (k := 193) Cx (s_X6_isFull_193 l G S  hI) (c_X6_97 Cx rfl rfl (rmk_ok (by omega) (by decide))) hW (by decide) rfl rfl rfl hl.1 rfl (Nat.le_of_ble_eq_true rfl) dX6_addLimit_1 ⟨Nat.le_of_ble_eq_true rfl, Nat.le_of_ble_eq_true rfl⟩) hL (fun r_4 u_2 H locs k_3 hW hL => ?_)
  obtain ⟨eu_2, xu_2⟩ := k_3
  rw [eu_2] at hW
  refine r_if_ne (tgt := 20) hx hb ⟨(by omega), (by omega)⟩ dX6_addLimit_4 (by decide) (fun c_5 => ?_) (fun c_5 => ?_)
  · exact sVret Cx hr hlk hW hL ⟨hI, (Fr.rf : Fr S S pEw)⟩ dX6_addLimit_20
  · refine lv_iload_n hx hb dX6_addLimit_7 rfl (lv_at hl 1 rfl) ?_
    refine lv_iconst (v := iv 1) hx hb dX6_addLimit_8 (by decide) ?_
    refine r_icmp_lt (tgt := 20) hx hb ⟨(by omega), (by omega)⟩ ⟨(by omega), (by omega)⟩ dX6_addLimit_9 (by decide) (fun c_6 => ?_) (fun c_6 => ?_)
    · exact sVret Cx hr hlk hW hL ⟨hI, (Fr.rf : Fr S S pEw)⟩ dX6_addLimit_20
    · refine lv_iload_n hx hb dX6_addLimit_12 rfl (lv_at hl 1 rfl) ?_
      refine lv_aload_n hx hb dX6_addLimit_13 rfl (lv_at hl 0 rfl) ?_
      have q_7 : 0 ≤ S.1 193 8 ∧ S.1 193 8 ≤ 12 := hI.fi 193 8 6 (by decide) rfl
      refine g_X6_46 Cx hW (k := 193) (by decide) rfl (v := S.1 193 8) rfl dX6_addLimit_14 ?_
      refine r_icmp_le (tgt := 21) hx hb ⟨(by omega), (by omega)⟩ ⟨(by omega), (by omega)⟩ dX6_addLimit_17 (by decide) (fun c_8 => ?_) (fun c_8 => ?_)
      · refine lv_aload_n hx hb dX6_addLimit_21 rfl (lv_at hl 0 rfl) ?_
        refine lv_dup hx hb dX6_addLimit_22 rfl ?_
        refine g_X6_50 Cx hW (k := 193) (by decide) rfl (v := S.1 193 9) rfl dX6_addLimit_23 ?_
        refine lv_iconst (v := iv 1) hx hb dX6_addLimit_26 (by decide) ?_
        refine r_iadd hx hb dX6_addLimit_27 ?_
        refine p_X6_50 Cx hW hL (k := 193) (by decide) rfl dX6_addLimit_28 (fun H locs hW hL => ?_)
        have F_9 : Fr S (uF S 193 9 ((S.1 193 9) + 1)) pEw := (Fr.rf : Fr S S pEw).F rfl
        have i_10 : cX G (uF S 193 9 ((S.1 193 9) + 1)) 0 0 0 := hI.F rfl rfl (show 0 ≤ (S.1 193 9) + 1 ∧ (S.1 193 9) + 1 ≤ 40 from ⟨by omega, by omega⟩)
        refine lv_iconst (v := iv 1) hx hb dX6_addLimit_31 (by decide) ?_
        refine lv_istore (lv' := [(4, .int (iv 1)), (0, .ref (G.2.2.1 + 193)), (1, .int (iv z)), (2, .ref (G.2.2.1 + 219)), (3, .int (iv ab))]) hx hb dX6_addLimit_32 hl (by decide) rfl (fun ls hl => ?_)
        have loop_34 : ∀ (fuel : Nat) (S34 : sS) (j : Int) (H : Heap) (locs : List Loc) (ls : Array Slot), (13 - j).toNat < fuel → (cX G S34 0 0 0) → (Fr S S34 pEw) → (Fr ((uF S 193 9 ((S.1 193 9) + 1))) S34 pEy) → (1 ≤ j ∧ j ≤ 13) → (S34.1 219 1 ≤ 7) → (Hd (S34.1 219 1 = 7 → S34.2.1 220 6 ≤ 999999)) → sW G 294 S34 H → sL G locs → lv_has ls 5 [(4, .int (iv j)), (0, .ref (G.2.2.1 + 193)), (1, .int (iv z)), (2, .ref (G.2.2.1 + 219)), (3, .int (iv ab))] → W p l e (rmk 4 0 0) s m args below meth c H locs 0 0 (MQ below (sQv G 294 (fun u => cX G u 0 0 0 ∧ Fr S u pEw)) args s 0 0 (sF G)) (F0 m 34 ls []) := by
          intro fuel
          induction fuel with
          | zero => intro S34 j H locs ls hmeas hI34 hFm34 hL34_ hj hv34 hv64 hW hL hl; exact absurd hmeas (Nat.not_lt_zero _)
          | succ fuel ih_34 =>
            intro S34 j H locs ls hmeas hI34 hFm34 hL34_ hj hv34 hv64 hW hL hl
            refine lv_iload hx hb dX6_addLimit_34 (lv_at hl 0 rfl) ?_
            refine lv_aload_n hx hb dX6_addLimit_36 rfl (lv_at hl 1 rfl) ?_
            refine g_X6_46 Cx hW (k := 193) (by decide) rfl (v := S.1 193 8) (((hL34_ 193 rfl).1 8).trans (uF_ne (fun h => absurd h.2 (by decide)))) dX6_addLimit_37 ?_
            refine r_icmp_gt (tgt := 86) hx hb ⟨(by omega), (by omega)⟩ ⟨(by omega), (by omega)⟩ dX6_addLimit_40 (by decide) (fun c_11 => ?_) (fun c_11 => ?_)
            · refine lv_aload_n hx hb dX6_addLimit_86 rfl (lv_at hl 1 rfl) ?_
              refine g_X6_31 Cx hW (k := 193) (by decide) rfl (v := .ref (G.2.2.1 + 202)) (rf_193_5 hI34) dX6_addLimit_87 ?_
              refine lv_aload_n hx hb dX6_addLimit_90 rfl (lv_at hl 3 rfl) ?_
              have q_12 : 0 ≤ S34.1 219 1 ∧ S34.1 219 1 ≤ 32 := hI34.fi 219 1 0 (by decide) rfl
              have q_13 : (-1) ≤ S34.1 219 2 ∧ S34.1 219 2 ≤ 1 := hI34.fi 219 2 0 (by decide) rfl
              refine sBv (sV (As := [.ref (G.2.2.1 + 219)]) (rest := []) (k := 202) Cx (s_X0_copy l G S34 (o := 202) (a := 219) hI34 rfl rfl) (c_X6_115 Cx rfl rfl (rmk_ok (by omega) (by decide))) hW (by decide) rfl rfl rfl hl.1 rfl (Nat.le_of_ble_eq_true rfl) dX6_addLimit_91 ⟨Nat.le_of_ble_eq_true rfl, Nat.le_of_ble_eq_true rfl⟩) hL (fun u_14 H locs k_15 hW hL => ?_)
              obtain ⟨iu_14, fu_14, xu_14⟩ := k_15
              have F_16 := hFm34.trans (fu_14.to (pB_sub rfl rfl))
              have F_17 := hL34_.trans (fu_14.to (pB_sub rfl rfl))
              have hsm : Hd (u_14.1 202 1 = 7 → u_14.2.1 203 6 ≤ 999999) := fun q => by rw [xu_14.2.2 6 (by omega) (by omega)]; exact hv64 (by omega)
              have join_125 : ∀ (S125 : sS)  (H : Heap) (locs : List Loc) (ls : Array Slot), (cX G S125 0 0 0) → (Fr S S125 pEw) → (Fr ((uF S 193 9 ((S.1 193 9) + 1))) S125 pEy) → (Fr u_14 S125 pEw) → (S125.1 202 1 ≤ 7) → sW G 294 S125 H → sL G locs → lv_has ls 5 [(4, .int (iv j)), (0, .ref (G.2.2.1 + 193)), (1, .int (iv z)), (2, .ref (G.2.2.1 + 219)), (3, .int (iv ab))] → W p l e (rmk 4 0 0) s m args below meth c H locs 0 0 (MQ below (sQv G 294 (fun u => cX G u 0 0 0 ∧ Fr S u pEw)) args s 0 0 (sF G)) (F0 m 125 ls []) := by
                intro S125  H locs ls hI125 hFm125 hFL34125 hL125_ hs7 hW hL hl
                refine lv_aload_n hx hb dX6_addLimit_125 rfl (lv_at hl 1 rfl) ?_
                refine g_X6_31 Cx hW (k := 193) (by decide) rfl (v := .ref (G.2.2.1 + 202)) (rf_193_5 hI125) dX6_addLimit_126 ?_
                refine lv_aload_n hx hb dX6_addLimit_129 rfl (lv_at hl 1 rfl) ?_
                refine g_X6_13 Cx hW (k := 193) (by decide) rfl (v := .ref (G.2.2.1 + 194)) (rf_193_0 hI125) dX6_addLimit_130 ?_
                refine lv_aload_n hx hb dX6_addLimit_133 rfl (lv_at hl 1 rfl) ?_
                have q_18 : 0 ≤ S125.1 193 9 ∧ S125.1 193 9 ≤ 40 := hI125.fi 193 9 6 (by decide) rfl
                refine g_X6_50 Cx hW (k := 193) (by decide) rfl (v := S125.1 193 9) rfl dX6_addLimit_134 ?_
                refine lv_iconst (v := iv 0) hx hb dX6_addLimit_137 (by decide) ?_
                refine sBi (sSt (As := [.int (iv (S125.1 193 9)), .int (iv 0)]) (rest := [.ref (G.2.2.1 + 194), .ref (G.2.2.1 + 202)]) Cx (s_X6_at l G S125 (k := S125.1 193 9) (j := 0) (by omega) (by omega)) (c_X6_53 Cx rfl rfl (rmk_ok (by omega) (by decide))) hW rfl hl.1 rfl (Nat.le_of_ble_eq_true rfl) dX6_addLimit_138 ⟨Nat.le_of_ble_eq_true rfl, Nat.le_of_ble_eq_true rfl⟩) hL (fun r_21 u_19 H locs k_20 hW hL => ?_)
                obtain ⟨eu_19, xu_19⟩ := k_20
                rw [eu_19] at hW
                have q_22 : 0 ≤ S125.1 202 1 ∧ S125.1 202 1 ≤ 32 := hI125.fi 202 1 0 (by decide) rfl
                have q_23 : (-1) ≤ S125.1 202 2 ∧ S125.1 202 2 ≤ 1 := hI125.fi 202 2 0 (by decide) rfl
                refine sBv (sV (As := [.ref (G.2.2.1 + 194), .int (iv r_21)]) (rest := []) (k := 202) Cx (s_X0_save l G S125 (o := 202) (k := 194) (a := r_21) (N := 4264) hI125 rfl ⟨by decide, rfl, by decide, rfl, rfl, rfl⟩ (by omega) (show _ ≤ (7 : Int) ∧ (_ → _ ≤ (999999999 : Int)) from ⟨by omega, fun _ => by have := limbR hI125 (rfl : tau 202 = .inl 0) 6; omega⟩) (fun q _ => by rcases q with q | q <;> exact absurd q (by decide))) (c_X6_83 Cx rfl rfl (rmk_ok (by omega) (by decide))) hW (by decide) rfl rfl rfl hl.1 rfl (Nat.le_of_ble_eq_true rfl) dX6_addLimit_141 ⟨Nat.le_of_ble_eq_true rfl, Nat.le_of_ble_eq_true rfl⟩) hL (fun u_24 H locs k_25 hW hL => ?_)
                obtain ⟨iu_24, fu_24⟩ := k_25
                have F_26 := hFm125.trans (fu_24.to (p1_sub rfl))
                have F_27 := hFL34125.trans (fu_24.to (p1_sub rfl))
                have F_28 := hL125_.trans (fu_24.to (p1_sub rfl))
                exact sVret Cx hr hlk hW hL ⟨iu_24, F_26⟩ dX6_addLimit_144
              refine lv_iload_n hx hb dX6_addLimit_94 rfl (lv_at hl 4 rfl) ?_
              refine r_if_eq (tgt := 125) hx hb ⟨(by omega), (by omega)⟩ dX6_addLimit_95 (by decide) (fun c_29 => ?_) (fun c_29 => ?_)
              · have q_30 : 0 ≤ u_14.1 202 1 ∧ u_14.1 202 1 ≤ 32 := iu_14.fi 202 1 0 (by decide) rfl
                exact join_125 u_14  _ _ _ iu_14 F_16 F_17 (Fr.rf : Fr u_14 u_14 pEw) (by omega) hW hL (lv_sub hl [0, 1, 2, 3, 4] rfl)
              · refine lv_aload_n hx hb dX6_addLimit_98 rfl (lv_at hl 1 rfl) ?_
                refine g_X6_37 Cx hW (k := 193) (by decide) rfl (v := .ref (G.2.2.1 + 206)) (rf_193_7 iu_14) dX6_addLimit_99 ?_
                refine lv_lconst (v := jv 1) hx hb dX6_addLimit_102 (by decide) ?_
                refine sBv (sV (As := [.long (jv 1)]) (rest := []) (k := 206) Cx (s_X0_put l G u_14 (o := 206) (v := 1) iu_14 rfl (by omega)) (c_X6_86 Cx rfl rfl (rmk_ok (by omega) (by decide))) hW (by decide) rfl rfl rfl hl.1 rfl (Nat.le_of_ble_eq_true rfl) dX6_addLimit_103 ⟨Nat.le_of_ble_eq_true rfl, Nat.le_of_ble_eq_true rfl⟩) hL (fun u_31 H locs k_32 hW hL => ?_)
                obtain ⟨iu_31, fu_31, xu_31⟩ := k_32
                have F_33 := F_16.trans (fu_31.to (pB_sub rfl rfl))
                have F_34 := F_17.trans (fu_31.to (pB_sub rfl rfl))
                have F_35 := (Fr.rf : Fr u_14 u_14 pEw).trans (fu_31.to (pB_sub rfl rfl))
                refine lv_aload_n hx hb dX6_addLimit_106 rfl (lv_at hl 1 rfl) ?_
                refine g_X6_31 Cx hW (k := 193) (by decide) rfl (v := .ref (G.2.2.1 + 202)) (rf_193_5 iu_31) dX6_addLimit_107 ?_
                refine lv_aload_n hx hb dX6_addLimit_110 rfl (lv_at hl 1 rfl) ?_
                refine g_X6_37 Cx hW (k := 193) (by decide) rfl (v := .ref (G.2.2.1 + 206)) (rf_193_7 iu_31) dX6_addLimit_111 ?_
                refine lv_iconst (v := iv 1) hx hb dX6_addLimit_114 (by decide) ?_
                have q_36 : 0 ≤ u_31.1 206 1 ∧ u_31.1 206 1 ≤ 32 := iu_31.fi 206 1 0 (by decide) rfl
                have q_37 : 0 ≤ u_14.1 202 1 ∧ u_14.1 202 1 ≤ 32 := iu_14.fi 202 1 0 (by decide) rfl
                have lk_38 : u_31.1 202 1 = u_14.1 202 1 := (fu_31 202 rfl).1 1
                have q_39 : (-1) ≤ u_14.1 202 2 ∧ u_14.1 202 2 ≤ 1 := iu_14.fi 202 2 0 (by decide) rfl
                have lk_40 : u_31.1 202 2 = u_14.1 202 2 := (fu_31 202 rfl).1 2
                have q_41 : (-1) ≤ u_31.1 206 2 ∧ u_31.1 206 2 ≤ 1 := iu_31.fi 206 2 0 (by decide) rfl
                refine sBv (sV (As := [.ref (G.2.2.1 + 206), .int (iv 1)]) (rest := []) (k := 202) Cx (t_X0_add_p l G u_31 (o := 202) (a := 206) (n := 6) (t := 999999) iu_31 rfl rfl (show (202 : Nat) ≠ 206 by decide) (by omega) (fun q => by have e : u_31.2.1 203 6 = _ := (fu_31 203 rfl).2.1 6; rw [e]; exact hsm (by omega))) (c_X6_93 Cx rfl rfl (rmk_ok (by omega) (by decide))) hW (by decide) rfl rfl rfl hl.1 rfl (Nat.le_of_ble_eq_true rfl) dX6_addLimit_115 ⟨Nat.le_of_ble_eq_true rfl, Nat.le_of_ble_eq_true rfl⟩) hL (fun u_42 H locs k_43 hW hL => ?_)
                obtain ⟨iu_42, fu_42, xu_42⟩ := k_43
                have F_44 := F_33.trans (fu_42.to (pB_sub rfl rfl))
                have F_45 := F_34.trans (fu_42.to (pB_sub rfl rfl))
                have F_46 := F_35.trans (fu_42.to (pB_sub rfl rfl))
                refine lv_aload_n hx hb dX6_addLimit_118 rfl (lv_at hl 1 rfl) ?_
                refine g_X6_31 Cx hW (k := 193) (by decide) rfl (v := .ref (G.2.2.1 + 202)) (rf_193_5 iu_42) dX6_addLimit_119 ?_
                have q_47 : 0 ≤ u_42.1 202 1 ∧ u_42.1 202 1 ≤ 32 := iu_42.fi 202 1 0 (by decide) rfl
                have q_48 : (-1) ≤ u_42.1 202 2 ∧ u_42.1 202 2 ≤ 1 := iu_42.fi 202 2 0 (by decide) rfl
                refine sBv (sV (As := []) (rest := []) (k := 202) Cx (s_X0_turn l G u_42 (o := 202) iu_42 rfl) (c_X6_119 Cx rfl rfl (rmk_ok (by omega) (by decide))) hW (by decide) rfl rfl rfl hl.1 rfl (Nat.le_of_ble_eq_true rfl) dX6_addLimit_122 ⟨Nat.le_of_ble_eq_true rfl, Nat.le_of_ble_eq_true rfl⟩) hL (fun u_49 H locs k_50 hW hL => ?_)
                obtain ⟨iu_49, fu_49, xu_49⟩ := k_50
                have F_51 := F_44.trans (fu_49.to (pB_sub rfl rfl))
                have F_52 := F_45.trans (fu_49.to (pB_sub rfl rfl))
                have F_53 := F_46.trans (fu_49.to (pB_sub rfl rfl))
                have q_54 : 0 ≤ u_49.1 202 1 ∧ u_49.1 202 1 ≤ 32 := iu_49.fi 202 1 0 (by decide) rfl
                exact join_125 u_49  _ _ _ iu_49 F_51 F_52 F_53 (by omega) hW hL (lv_sub hl [0, 1, 2, 3, 4] rfl)
            · refine lv_aload_n hx hb dX6_addLimit_43 rfl (lv_at hl 1 rfl) ?_
              refine g_X6_13 Cx hW (k := 193) (by decide) rfl (v := .ref (G.2.2.1 + 194)) (rf_193_0 hI34) dX6_addLimit_44 ?_
              refine lv_aload_n hx hb dX6_addLimit_47 rfl (lv_at hl 1 rfl) ?_
              refine g_X6_50 Cx hW (k := 193) (by decide) rfl (v := (S.1 193 9) + 1) (((hL34_ 193 rfl).1 9).trans (uF_on)) dX6_addLimit_48 ?_
              refine lv_iload hx hb dX6_addLimit_51 (lv_at hl 0 rfl) ?_
              refine sBi (sSt (As := [.int (iv ((S.1 193 9) + 1)), .int (iv j)]) (rest := [.ref (G.2.2.1 + 194)]) Cx (s_X6_at l G S34 (k := (S.1 193 9) + 1) (j := j) (by omega) (by omega)) (c_X6_53 Cx rfl rfl (rmk_ok (by omega) (by decide))) hW rfl hl.1 rfl (Nat.le_of_ble_eq_true rfl) dX6_addLimit_53 ⟨Nat.le_of_ble_eq_true rfl, Nat.le_of_ble_eq_true rfl⟩) hL (fun r_57 u_55 H locs k_56 hW hL => ?_)
              obtain ⟨eu_55, xu_55⟩ := k_56
              rw [eu_55] at hW
              refine lv_iload hx hb dX6_addLimit_56 (lv_at hl 0 rfl) ?_
              refine lv_iload_n hx hb dX6_addLimit_58 rfl (lv_at hl 2 rfl) ?_
              refine r_icmp_eq (tgt := 66) hx hb ⟨(by omega), (by omega)⟩ ⟨(by omega), (by omega)⟩ dX6_addLimit_59 (by decide) (fun c_58 => ?_) (fun c_58 => ?_)
              · refine lv_iload_n hx hb dX6_addLimit_66 rfl (lv_at hl 4 rfl) ?_
                refine r_if_eq (tgt := 76) hx hb ⟨(by omega), (by omega)⟩ dX6_addLimit_67 (by decide) (fun c_59 => ?_) (fun c_59 => ?_)
                · refine lv_lconst (v := jv 1) hx hb dX6_addLimit_76 (by decide) ?_
                  refine sBv (sSt (As := [.ref (G.2.2.1 + 194), .int (iv r_57), .long (jv 1)]) (rest := []) Cx (s_X0_store l G S34 (k := 194) (a := r_57) (v := 1) (N := 4264) hI34 ⟨by decide, rfl, by decide, rfl, rfl, rfl⟩ (by omega) (by omega) (fun q _ => by rcases q with q | q <;> exact absurd q (by decide))) (c_X6_60 Cx rfl rfl (rmk_ok (by omega) (by decide))) hW rfl hl.1 rfl (Nat.le_of_ble_eq_true rfl) dX6_addLimit_77 ⟨Nat.le_of_ble_eq_true rfl, Nat.le_of_ble_eq_true rfl⟩) hL (fun u_60 H locs k_61 hW hL => ?_)
                  obtain ⟨iu_60, fu_60⟩ := k_61
                  have F_62 := hFm34.trans (fu_60.to (p1_sub rfl))
                  have F_63 := hL34_.trans (fu_60.to (p1_sub rfl))
                  refine lv_iinc (v := iv (j + 1)) (lv' := [(4, .int (iv (j + 1))), (0, .ref (G.2.2.1 + 193)), (1, .int (iv z)), (2, .ref (G.2.2.1 + 219)), (3, .int (iv ab))]) hx hb dX6_addLimit_80 hl (k := 0) rfl ((Int32.ofInt_add _ _).symm) (by decide) rfl (fun ls hl => ?_)
                  refine lv_goto (tgt := 34) hx hb dX6_addLimit_83 (by decide) ?_
                  have q_64 : 0 ≤ S34.1 219 1 ∧ S34.1 219 1 ≤ 32 := hI34.fi 219 1 0 (by decide) rfl
                  have lk_65 : u_60.1 219 1 = S34.1 219 1 := (fu_60 219 rfl).1 1
                  exact ih_34 u_60 (j + 1) _ _ _ (by omega) iu_60 F_62 F_63 (by omega) (by omega) (fun q => by have e : u_60.2.1 220 6 = S34.2.1 220 6 := (fu_60 220 rfl).2.1 6; rw [e]; exact hv64 (by omega)) hW hL (lv_sub hl [0, 1, 2, 3, 4] rfl)
                · refine lv_ldc2 hx hb hown (hts _ w_1551) dX6_addLimit_70 ?_
                  refine lv_goto (tgt := 77) hx hb dX6_addLimit_73 (by decide) ?_
                  refine sBv (sSt (As := [.ref (G.2.2.1 + 194), .int (iv r_57), .long (jv ((-1)))]) (rest := []) Cx (s_X0_store l G S34 (k := 194) (a := r_57) (v := (-1)) (N := 4264) hI34 ⟨by decide, rfl, by decide, rfl, rfl, rfl⟩ (by omega) (by omega) (fun q _ => by rcases q with q | q <;> exact absurd q (by decide))) (c_X6_60 Cx rfl rfl (rmk_ok (by omega) (by decide))) hW rfl hl.1 rfl (Nat.le_of_ble_eq_true rfl) dX6_addLimit_77 ⟨Nat.le_of_ble_eq_true rfl, Nat.le_of_ble_eq_true rfl⟩) hL (fun u_66 H locs k_67 hW hL => ?_)
                  obtain ⟨iu_66, fu_66⟩ := k_67
                  have F_68 := hFm34.trans (fu_66.to (p1_sub rfl))
                  have F_69 := hL34_.trans (fu_66.to (p1_sub rfl))
                  refine lv_iinc (v := iv (j + 1)) (lv' := [(4, .int (iv (j + 1))), (0, .ref (G.2.2.1 + 193)), (1, .int (iv z)), (2, .ref (G.2.2.1 + 219)), (3, .int (iv ab))]) hx hb dX6_addLimit_80 hl (k := 0) rfl ((Int32.ofInt_add _ _).symm) (by decide) rfl (fun ls hl => ?_)
                  refine lv_goto (tgt := 34) hx hb dX6_addLimit_83 (by decide) ?_
                  have q_70 : 0 ≤ S34.1 219 1 ∧ S34.1 219 1 ≤ 32 := hI34.fi 219 1 0 (by decide) rfl
                  have lk_71 : u_66.1 219 1 = S34.1 219 1 := (fu_66 219 rfl).1 1
                  exact ih_34 u_66 (j + 1) _ _ _ (by omega) iu_66 F_68 F_69 (by omega) (by omega) (fun q => by have e : u_66.2.1 220 6 = S34.2.1 220 6 := (fu_66 220 rfl).2.1 6; rw [e]; exact hv64 (by omega)) hW hL (lv_sub hl [0, 1, 2, 3, 4] rfl)
              · refine lv_lconst (v := jv 0) hx hb dX6_addLimit_62 (by decide) ?_
                refine lv_goto (tgt := 77) hx hb dX6_addLimit_63 (by decide) ?_
                refine sBv (sSt (As := [.ref (G.2.2.1 + 194), .int (iv r_57), .long (jv 0)]) (rest := []) Cx (s_X0_store l G S34 (k := 194) (a := r_57) (v := 0) (N := 4264) hI34 ⟨by decide, rfl, by decide, rfl, rfl, rfl⟩ (by omega) (by omega) (fun q _ => by rcases q with q | q <;> exact absurd q (by decide))) (c_X6_60 Cx rfl rfl (rmk_ok (by omega) (by decide))) hW rfl hl.1 rfl (Nat.le_of_ble_eq_true rfl) dX6_addLimit_77 ⟨Nat.le_of_ble_eq_true rfl, Nat.le_of_ble_eq_true rfl⟩) hL (fun u_72 H locs k_73 hW hL => ?_)
                obtain ⟨iu_72, fu_72⟩ := k_73
                have F_74 := hFm34.trans (fu_72.to (p1_sub rfl))
                have F_75 := hL34_.trans (fu_72.to (p1_sub rfl))
                refine lv_iinc (v := iv (j + 1)) (lv' := [(4, .int (iv (j + 1))), (0, .ref (G.2.2.1 + 193)), (1, .int (iv z)), (2, .ref (G.2.2.1 + 219)), (3, .int (iv ab))]) hx hb dX6_addLimit_80 hl (k := 0) rfl ((Int32.ofInt_add _ _).symm) (by decide) rfl (fun ls hl => ?_)
                refine lv_goto (tgt := 34) hx hb dX6_addLimit_83 (by decide) ?_
                have q_76 : 0 ≤ S34.1 219 1 ∧ S34.1 219 1 ≤ 32 := hI34.fi 219 1 0 (by decide) rfl
                have lk_77 : u_72.1 219 1 = S34.1 219 1 := (fu_72 219 rfl).1 1
                exact ih_34 u_72 (j + 1) _ _ _ (by omega) iu_72 F_74 F_75 (by omega) (by omega) (fun q => by have e : u_72.2.1 220 6 = S34.2.1 220 6 := (fu_72 220 rfl).2.1 6; rw [e]; exact hv64 (by omega)) hW hL (lv_sub hl [0, 1, 2, 3, 4] rfl)
        have q_78 : 0 ≤ S.1 219 1 ∧ S.1 219 1 ≤ 32 := hI.fi 219 1 0 (by decide) rfl
        have lk_79 : (uF S 193 9 ((S.1 193 9) + 1)).1 219 1 = S.1 219 1 := uF_ne (fun h => absurd h.2 (by decide))
        exact loop_34 (_ + 1) (uF S 193 9 ((S.1 193 9) + 1)) 1 _ _ _ (Nat.lt_succ_self _) i_10 F_9 Fr.rf (by omega) (by omega) (fun q => by have e : (uF S 193 9 ((S.1 193 9) + 1)).2.1 220 6 = S.2.1 220 6 := uF_a; rw [e]; exact hv6 (by omega)) hW hL (lv_sub hl [0, 1, 2, 3, 4] rfl)
      · exact sVret Cx hr hlk hW hL ⟨hI, (Fr.rf : Fr S S pEw)⟩ dX6_addLimit_20

set_option maxRecDepth 100000 in
set_option maxHeartbeats 4000000 in
theorem z_X2_write (l : Launch) (G : sG) (S : sS) {i j : Int} (hI : cX G S 0 0 0) (hi : -2147483648 ≤ i ∧ i ≤ 2147483647) (hj : -2147483648 ≤ j ∧ j ≤ 2147483647) : Met l yX2_write (.code yX2_write cX2_write 5 (some .boolean) :: tb) (rmk 3 0 0) (sPc G 294 S [.ref (G.2.2.1 + 135), .int (iv i), .int (iv j), .ref (G.2.2.1 + 3)]) (sQi G 294 (fun r u => cX G u 0 0 0 ∧ Fr S u pNz ∧ (0 ≤ r ∧ r ≤ 1))) 0 0 (sF G) := by
  refine sEnter (by decide) (Nat.le_of_ble_eq_true rfl) ?_
  intro p e s m args below meth c Cx hr hlk hnm hW ls hl
  have Cx : sC G p m c cX2_write 5 s args RX2 := Cx
  obtain ⟨hx, hb, hml, hown, hts⟩ := id Cx.1
  have hL : sL G [] := sL_nil
  have hl : lv_has ls 5 [(0, .ref (G.2.2.1 + 135)), (1, .int (iv i)), (2, .int (iv j)), (3, .ref (G.2.2.1 + 3))] := hl
  have hW0 := hW
  refine lv_iload_n hx hb dX2_write_0 rfl (lv_at hl 1 rfl) ?_
  refine lv_bipush (v := iv (-2)) hx hb dX2_write_1 (by decide) ?_
  refine r_icmp_ne (tgt := 18) hx hb ⟨(by omega), (by omega)⟩ ⟨(by omega), (by omega)⟩ dX2_write_3 (by decide) (fun c_1 => ?_) (fun c_1 => ?_)
  · refine lv_iload_n hx hb dX2_write_18 rfl (lv_at hl 1 rfl) ?_
    refine lv_aload_n hx hb dX2_write_19 rfl (lv_at hl 0 rfl) ?_
    have q_2 : 0 ≤ S.1 135 16 ∧ S.1 135 16 ≤ 1 := hI.fi 135 16 2 (by decide) rfl
    refine g_X2_70 Cx hW (k := 135) (by decide) rfl (v := S.1 135 16) rfl dX2_write_20 ?_
    refine r_if_eq (tgt := 30) hx hb ⟨(by omega), (by omega)⟩ dX2_write_23 (by decide) (fun c_3 => ?_) (fun c_3 => ?_)
    · refine lv_iconst (v := iv 0) hx hb dX2_write_30 (by decide) ?_
      refine r_icmp_lt (tgt := 58) hx hb ⟨(by omega), (by omega)⟩ ⟨(by omega), (by omega)⟩ dX2_write_31 (by decide) (fun c_4 => ?_) (fun c_4 => ?_)
      · refine lv_iconst (v := iv 0) hx hb dX2_write_58 (by decide) ?_
        refine lv_istore (lv' := [(4, .int (iv 0)), (0, .ref (G.2.2.1 + 135)), (1, .int (iv i)), (2, .int (iv j)), (3, .ref (G.2.2.1 + 3))]) hx hb dX2_write_59 hl (by decide) rfl (fun ls hl => ?_)
        refine lv_iload hx hb dX2_write_61 (lv_at hl 0 rfl) ?_
        refine r_if_ne (tgt := 68) hx hb ⟨(by omega), (by omega)⟩ dX2_write_63 (by decide) (fun c => absurd (by omega) c) (fun _ => ?_)
        refine lv_iconst (v := iv 0) hx hb dX2_write_66 (by decide) ?_
        exact sZret Cx hr hlk hW hL (by omega) ⟨hI, (Fr.rf : Fr S S pNz), (by omega)⟩ dX2_write_67
      · refine lv_iload_n hx hb dX2_write_34 rfl (lv_at hl 1 rfl) ?_
        refine lv_aload_n hx hb dX2_write_35 rfl (lv_at hl 0 rfl) ?_
        have q_5 : 0 ≤ S.1 135 14 ∧ S.1 135 14 ≤ 40 := hI.fi 135 14 2 (by decide) rfl
        refine g_X2_66 Cx hW (k := 135) (by decide) rfl (v := S.1 135 14) rfl dX2_write_36 ?_
        refine r_icmp_gt (tgt := 58) hx hb ⟨(by omega), (by omega)⟩ ⟨(by omega), (by omega)⟩ dX2_write_39 (by decide) (fun c_6 => ?_) (fun c_6 => ?_)
        · refine lv_iconst (v := iv 0) hx hb dX2_write_58 (by decide) ?_
          refine lv_istore (lv' := [(4, .int (iv 0)), (0, .ref (G.2.2.1 + 135)), (1, .int (iv i)), (2, .int (iv j)), (3, .ref (G.2.2.1 + 3))]) hx hb dX2_write_59 hl (by decide) rfl (fun ls hl => ?_)
          refine lv_iload hx hb dX2_write_61 (lv_at hl 0 rfl) ?_
          refine r_if_ne (tgt := 68) hx hb ⟨(by omega), (by omega)⟩ dX2_write_63 (by decide) (fun c => absurd (by omega) c) (fun _ => ?_)
          refine lv_iconst (v := iv 0) hx hb dX2_write_66 (by decide) ?_
          exact sZret Cx hr hlk hW hL (by omega) ⟨hI, (Fr.rf : Fr S S pNz), (by omega)⟩ dX2_write_67
        · refine lv_iload_n hx hb dX2_write_42 rfl (lv_at hl 2 rfl) ?_
          refine r_if_lt (tgt := 58) hx hb ⟨(by omega), (by omega)⟩ dX2_write_43 (by decide) (fun c_7 => ?_) (fun c_7 => ?_)
          · refine lv_iconst (v := iv 0) hx hb dX2_write_58 (by decide) ?_
            refine lv_istore (lv' := [(4, .int (iv 0)), (0, .ref (G.2.2.1 + 135)), (1, .int (iv i)), (2, .int (iv j)), (3, .ref (G.2.2.1 + 3))]) hx hb dX2_write_59 hl (by decide) rfl (fun ls hl => ?_)
            refine lv_iload hx hb dX2_write_61 (lv_at hl 0 rfl) ?_
            refine r_if_ne (tgt := 68) hx hb ⟨(by omega), (by omega)⟩ dX2_write_63 (by decide) (fun c => absurd (by omega) c) (fun _ => ?_)
            refine lv_iconst (v := iv 0) hx hb dX2_write_66 (by decide) ?_
            exact sZret Cx hr hlk hW hL (by omega) ⟨hI, (Fr.rf : Fr S S pNz), (by omega)⟩ dX2_write_67
          · refine lv_iload_n hx hb dX2_write_46 rfl (lv_at hl 2 rfl) ?_
            refine lv_aload_n hx hb dX2_write_47 rfl (lv_at hl 0 rfl) ?_
            have q_8 : 0 ≤ S.1 135 15 ∧ S.1 135 15 ≤ 13 := hI.fi 135 15 2 (by decide) rfl
            refine g_X2_67 Cx hW (k := 135) (by decide) rfl (v := S.1 135 15) rfl dX2_write_48 ?_
            refine r_icmp_gt (tgt := 58) hx hb ⟨(by omega), (by omega)⟩ ⟨(by omega), (by omega)⟩ dX2_write_51 (by decide) (fun c_9 => ?_) (fun c_9 => ?_)
            · refine lv_iconst (v := iv 0) hx hb dX2_write_58 (by decide) ?_
              refine lv_istore (lv' := [(4, .int (iv 0)), (0, .ref (G.2.2.1 + 135)), (1, .int (iv i)), (2, .int (iv j)), (3, .ref (G.2.2.1 + 3))]) hx hb dX2_write_59 hl (by decide) rfl (fun ls hl => ?_)
              refine lv_iload hx hb dX2_write_61 (lv_at hl 0 rfl) ?_
              refine r_if_ne (tgt := 68) hx hb ⟨(by omega), (by omega)⟩ dX2_write_63 (by decide) (fun c => absurd (by omega) c) (fun _ => ?_)
              refine lv_iconst (v := iv 0) hx hb dX2_write_66 (by decide) ?_
              exact sZret Cx hr hlk hW hL (by omega) ⟨hI, (Fr.rf : Fr S S pNz), (by omega)⟩ dX2_write_67
            · refine lv_iconst (v := iv 1) hx hb dX2_write_54 (by decide) ?_
              refine lv_goto (tgt := 59) hx hb dX2_write_55 (by decide) ?_
              refine lv_istore (lv' := [(4, .int (iv 1)), (0, .ref (G.2.2.1 + 135)), (1, .int (iv i)), (2, .int (iv j)), (3, .ref (G.2.2.1 + 3))]) hx hb dX2_write_59 hl (by decide) rfl (fun ls hl => ?_)
              refine lv_iload hx hb dX2_write_61 (lv_at hl 0 rfl) ?_
              refine r_if_ne (tgt := 68) hx hb ⟨(by omega), (by omega)⟩ dX2_write_63 (by decide) (fun _ => ?_) (fun c => absurd c (by omega))
              refine lv_aload_n hx hb dX2_write_68 rfl (lv_at hl 1 rfl) ?_
              refine g_X2_38 Cx hW (k := 135) (by decide) rfl (v := .ref (G.2.2.1 + 145)) (rf_135_7 hI) dX2_write_69 ?_
              refine lv_aload_n hx hb dX2_write_72 rfl (lv_at hl 1 rfl) ?_
              obtain ⟨o_10, o_11, mo_10, mo_11, no_10, eo_10, eo_11⟩ := rm_135 hI
              refine g_X2_13 Cx hW (k := 135) (by decide) rfl (v := .ref (G.2.2.1 + o_10)) eo_10 dX2_write_73 ?_
              refine lv_iload_n hx hb dX2_write_76 rfl (lv_at hl 2 rfl) ?_
              refine lv_iload_n hx hb dX2_write_77 rfl (lv_at hl 3 rfl) ?_
              refine sBi (sSt (As := [.int (iv i), .int (iv j)]) (rest := [.ref (G.2.2.1 + o_10), .ref (G.2.2.1 + 145)]) Cx (s_X2_at l G S (i := i) (j := j) (by omega) (by omega)) (c_X2_77 Cx rfl rfl (rmk_ok (by omega) (by decide))) hW rfl hl.1 rfl (Nat.le_of_ble_eq_true rfl) dX2_write_78 ⟨Nat.le_of_ble_eq_true rfl, Nat.le_of_ble_eq_true rfl⟩) hL (fun r_14 u_12 H locs k_13 hW hL => ?_)
              obtain ⟨eu_12, xu_12⟩ := k_13
              rw [eu_12] at hW
              refine sBv (sV (As := [.ref (G.2.2.1 + o_10), .int (iv r_14)]) (rest := []) (k := 145) Cx (s_X0_load l G S (o := 145) (k := o_10) (a := r_14) (N := 4816) hI rfl (dic_a mo_10) (by omega)) (c_X2_106 Cx rfl rfl (rmk_ok (by omega) (by decide))) hW (by decide) rfl rfl rfl hl.1 rfl (Nat.le_of_ble_eq_true rfl) dX2_write_81 ⟨Nat.le_of_ble_eq_true rfl, Nat.le_of_ble_eq_true rfl⟩) hL (fun u_15 H locs k_16 hW hL => ?_)
              obtain ⟨iu_15, fu_15, xu_15⟩ := k_16
              have F_17 := (Fr.rf : Fr S S pNz).trans (fu_15.to (pB_sub rfl rfl))
              have yu_15 : u_15.1 145 1 ≤ 6 := by have e := xu_15.1; rw [dic_L mo_10] at e; exact e
              refine lv_aload_n hx hb dX2_write_84 rfl (lv_at hl 4 rfl) ?_
              refine sBv (sV (As := []) (rest := []) (k := 3) Cx (s_X10_clear l G u_15 (o := 3) (N := 120) iu_15 ⟨by decide, rfl, rfl, rfl, rfl, by decide⟩) (c_X2_110 Cx rfl rfl (rmk_ok (by omega) (by decide))) hW (by decide) rfl rfl rfl hl.1 rfl (Nat.le_of_ble_eq_true rfl) dX2_write_85 ⟨Nat.le_of_ble_eq_true rfl, Nat.le_of_ble_eq_true rfl⟩) hL (fun u_18 H locs k_19 hW hL => ?_)
              obtain ⟨iu_18, fu_18, xu_18⟩ := k_19
              have F_20 := F_17.trans (fu_18.to (pB_sub rfl rfl))
              refine lv_aload_n hx hb dX2_write_88 rfl (lv_at hl 4 rfl) ?_
              refine lv_aload_n hx hb dX2_write_89 rfl (lv_at hl 1 rfl) ?_
              refine g_X2_38 Cx hW (k := 135) (by decide) rfl (v := .ref (G.2.2.1 + 145)) (rf_135_7 iu_18) dX2_write_90 ?_
              refine lv_iconst (v := iv 1) hx hb dX2_write_93 (by decide) ?_
              refine sBv (sV (As := [.ref (G.2.2.1 + 145), .int (iv 1)]) (rest := []) (k := 3) Cx (s_X10_number l G u_18 (o := 3) (v := 145) (ap := 1) (N := 120) iu_18 ⟨by decide, rfl, rfl, rfl, rfl, by decide⟩ rfl (by omega)) (c_X2_115 Cx rfl rfl (rmk_ok (by omega) (by decide))) hW (by decide) rfl rfl rfl hl.1 rfl (Nat.le_of_ble_eq_true rfl) dX2_write_94 ⟨Nat.le_of_ble_eq_true rfl, Nat.le_of_ble_eq_true rfl⟩) hL (fun u_21 H locs k_22 hW hL => ?_)
              obtain ⟨iu_21, fu_21⟩ := k_22
              have F_23 := F_20.trans (fu_21.to (pB_sub rfl rfl))
              refine lv_iconst (v := iv 1) hx hb dX2_write_97 (by decide) ?_
              exact sZret Cx hr hlk hW hL (by omega) ⟨iu_21, F_23, (by omega)⟩ dX2_write_98
    · refine lv_iconst (v := iv (-1)) hx hb dX2_write_26 (by decide) ?_
      refine lv_goto (tgt := 31) hx hb dX2_write_27 (by decide) ?_
      refine r_icmp_lt (tgt := 58) hx hb ⟨(by omega), (by omega)⟩ ⟨(by omega), (by omega)⟩ dX2_write_31 (by decide) (fun c_24 => ?_) (fun c_24 => ?_)
      · refine lv_iconst (v := iv 0) hx hb dX2_write_58 (by decide) ?_
        refine lv_istore (lv' := [(4, .int (iv 0)), (0, .ref (G.2.2.1 + 135)), (1, .int (iv i)), (2, .int (iv j)), (3, .ref (G.2.2.1 + 3))]) hx hb dX2_write_59 hl (by decide) rfl (fun ls hl => ?_)
        refine lv_iload hx hb dX2_write_61 (lv_at hl 0 rfl) ?_
        refine r_if_ne (tgt := 68) hx hb ⟨(by omega), (by omega)⟩ dX2_write_63 (by decide) (fun c => absurd (by omega) c) (fun _ => ?_)
        refine lv_iconst (v := iv 0) hx hb dX2_write_66 (by decide) ?_
        exact sZret Cx hr hlk hW hL (by omega) ⟨hI, (Fr.rf : Fr S S pNz), (by omega)⟩ dX2_write_67
      · refine lv_iload_n hx hb dX2_write_34 rfl (lv_at hl 1 rfl) ?_
        refine lv_aload_n hx hb dX2_write_35 rfl (lv_at hl 0 rfl) ?_
        have q_25 : 0 ≤ S.1 135 14 ∧ S.1 135 14 ≤ 40 := hI.fi 135 14 2 (by decide) rfl
        refine g_X2_66 Cx hW (k := 135) (by decide) rfl (v := S.1 135 14) rfl dX2_write_36 ?_
        refine r_icmp_gt (tgt := 58) hx hb ⟨(by omega), (by omega)⟩ ⟨(by omega), (by omega)⟩ dX2_write_39 (by decide) (fun c_26 => ?_) (fun c_26 => ?_)
        · refine lv_iconst (v := iv 0) hx hb dX2_write_58 (by decide) ?_
          refine lv_istore (lv' := [(4, .int (iv 0)), (0, .ref (G.2.2.1 + 135)), (1, .int (iv i)), (2, .int (iv j)), (3, .ref (G.2.2.1 + 3))]) hx hb dX2_write_59 hl (by decide) rfl (fun ls hl => ?_)
          refine lv_iload hx hb dX2_write_61 (lv_at hl 0 rfl) ?_
          refine r_if_ne (tgt := 68) hx hb ⟨(by omega), (by omega)⟩ dX2_write_63 (by decide) (fun c => absurd (by omega) c) (fun _ => ?_)
          refine lv_iconst (v := iv 0) hx hb dX2_write_66 (by decide) ?_
          exact sZret Cx hr hlk hW hL (by omega) ⟨hI, (Fr.rf : Fr S S pNz), (by omega)⟩ dX2_write_67
        · refine lv_iload_n hx hb dX2_write_42 rfl (lv_at hl 2 rfl) ?_
          refine r_if_lt (tgt := 58) hx hb ⟨(by omega), (by omega)⟩ dX2_write_43 (by decide) (fun c_27 => ?_) (fun c_27 => ?_)
          · refine lv_iconst (v := iv 0) hx hb dX2_write_58 (by decide) ?_
            refine lv_istore (lv' := [(4, .int (iv 0)), (0, .ref (G.2.2.1 + 135)), (1, .int (iv i)), (2, .int (iv j)), (3, .ref (G.2.2.1 + 3))]) hx hb dX2_write_59 hl (by decide) rfl (fun ls hl => ?_)
            refine lv_iload hx hb dX2_write_61 (lv_at hl 0 rfl) ?_
            refine r_if_ne (tgt := 68) hx hb ⟨(by omega), (by omega)⟩ dX2_write_63 (by decide) (fun c => absurd (by omega) c) (fun _ => ?_)
            refine lv_iconst (v := iv 0) hx hb dX2_write_66 (by decide) ?_
            exact sZret Cx hr hlk hW hL (by omega) ⟨hI, (Fr.rf : Fr S S pNz), (by omega)⟩ dX2_write_67
          · refine lv_iload_n hx hb dX2_write_46 rfl (lv_at hl 2 rfl) ?_
            refine lv_aload_n hx hb dX2_write_47 rfl (lv_at hl 0 rfl) ?_
            have q_28 : 0 ≤ S.1 135 15 ∧ S.1 135 15 ≤ 13 := hI.fi 135 15 2 (by decide) rfl
            refine g_X2_67 Cx hW (k := 135) (by decide) rfl (v := S.1 135 15) rfl dX2_write_48 ?_
            refine r_icmp_gt (tgt := 58) hx hb ⟨(by omega), (by omega)⟩ ⟨(by omega), (by omega)⟩ dX2_write_51 (by decide) (fun c_29 => ?_) (fun c_29 => ?_)
            · refine lv_iconst (v := iv 0) hx hb dX2_write_58 (by decide) ?_
              refine lv_istore (lv' := [(4, .int (iv 0)), (0, .ref (G.2.2.1 + 135)), (1, .int (iv i)), (2, .int (iv j)), (3, .ref (G.2.2.1 + 3))]) hx hb dX2_write_59 hl (by decide) rfl (fun ls hl => ?_)
              refine lv_iload hx hb dX2_write_61 (lv_at hl 0 rfl) ?_
              refine r_if_ne (tgt := 68) hx hb ⟨(by omega), (by omega)⟩ dX2_write_63 (by decide) (fun c => absurd (by omega) c) (fun _ => ?_)
              refine lv_iconst (v := iv 0) hx hb dX2_write_66 (by decide) ?_
              exact sZret Cx hr hlk hW hL (by omega) ⟨hI, (Fr.rf : Fr S S pNz), (by omega)⟩ dX2_write_67
            · refine lv_iconst (v := iv 1) hx hb dX2_write_54 (by decide) ?_
              refine lv_goto (tgt := 59) hx hb dX2_write_55 (by decide) ?_
              refine lv_istore (lv' := [(4, .int (iv 1)), (0, .ref (G.2.2.1 + 135)), (1, .int (iv i)), (2, .int (iv j)), (3, .ref (G.2.2.1 + 3))]) hx hb dX2_write_59 hl (by decide) rfl (fun ls hl => ?_)
              refine lv_iload hx hb dX2_write_61 (lv_at hl 0 rfl) ?_
              refine r_if_ne (tgt := 68) hx hb ⟨(by omega), (by omega)⟩ dX2_write_63 (by decide) (fun _ => ?_) (fun c => absurd c (by omega))
              refine lv_aload_n hx hb dX2_write_68 rfl (lv_at hl 1 rfl) ?_
              refine g_X2_38 Cx hW (k := 135) (by decide) rfl (v := .ref (G.2.2.1 + 145)) (rf_135_7 hI) dX2_write_69 ?_
              refine lv_aload_n hx hb dX2_write_72 rfl (lv_at hl 1 rfl) ?_
              obtain ⟨o_30, o_31, mo_30, mo_31, no_30, eo_30, eo_31⟩ := rm_135 hI
              refine g_X2_13 Cx hW (k := 135) (by decide) rfl (v := .ref (G.2.2.1 + o_30)) eo_30 dX2_write_73 ?_
              refine lv_iload_n hx hb dX2_write_76 rfl (lv_at hl 2 rfl) ?_
              refine lv_iload_n hx hb dX2_write_77 rfl (lv_at hl 3 rfl) ?_
              refine sBi (sSt (As := [.int (iv i), .int (iv j)]) (rest := [.ref (G.2.2.1 + o_30), .ref (G.2.2.1 + 145)]) Cx (s_X2_at l G S (i := i) (j := j) (by omega) (by omega)) (c_X2_77 Cx rfl rfl (rmk_ok (by omega) (by decide))) hW rfl hl.1 rfl (Nat.le_of_ble_eq_true rfl) dX2_write_78 ⟨Nat.le_of_ble_eq_true rfl, Nat.le_of_ble_eq_true rfl⟩) hL (fun r_34 u_32 H locs k_33 hW hL => ?_)
              obtain ⟨eu_32, xu_32⟩ := k_33
              rw [eu_32] at hW
              refine sBv (sV (As := [.ref (G.2.2.1 + o_30), .int (iv r_34)]) (rest := []) (k := 145) Cx (s_X0_load l G S (o := 145) (k := o_30) (a := r_34) (N := 4816) hI rfl (dic_a mo_30) (by omega)) (c_X2_106 Cx rfl rfl (rmk_ok (by omega) (by decide))) hW (by decide) rfl rfl rfl hl.1 rfl (Nat.le_of_ble_eq_true rfl) dX2_write_81 ⟨Nat.le_of_ble_eq_true rfl, Nat.le_of_ble_eq_true rfl⟩) hL (fun u_35 H locs k_36 hW hL => ?_)
              obtain ⟨iu_35, fu_35, xu_35⟩ := k_36
              have F_37 := (Fr.rf : Fr S S pNz).trans (fu_35.to (pB_sub rfl rfl))
              have yu_35 : u_35.1 145 1 ≤ 6 := by have e := xu_35.1; rw [dic_L mo_30] at e; exact e
              refine lv_aload_n hx hb dX2_write_84 rfl (lv_at hl 4 rfl) ?_
              refine sBv (sV (As := []) (rest := []) (k := 3) Cx (s_X10_clear l G u_35 (o := 3) (N := 120) iu_35 ⟨by decide, rfl, rfl, rfl, rfl, by decide⟩) (c_X2_110 Cx rfl rfl (rmk_ok (by omega) (by decide))) hW (by decide) rfl rfl rfl hl.1 rfl (Nat.le_of_ble_eq_true rfl) dX2_write_85 ⟨Nat.le_of_ble_eq_true rfl, Nat.le_of_ble_eq_true rfl⟩) hL (fun u_38 H locs k_39 hW hL => ?_)
              obtain ⟨iu_38, fu_38, xu_38⟩ := k_39
              have F_40 := F_37.trans (fu_38.to (pB_sub rfl rfl))
              refine lv_aload_n hx hb dX2_write_88 rfl (lv_at hl 4 rfl) ?_
              refine lv_aload_n hx hb dX2_write_89 rfl (lv_at hl 1 rfl) ?_
              refine g_X2_38 Cx hW (k := 135) (by decide) rfl (v := .ref (G.2.2.1 + 145)) (rf_135_7 iu_38) dX2_write_90 ?_
              refine lv_iconst (v := iv 1) hx hb dX2_write_93 (by decide) ?_
              refine sBv (sV (As := [.ref (G.2.2.1 + 145), .int (iv 1)]) (rest := []) (k := 3) Cx (s_X10_number l G u_38 (o := 3) (v := 145) (ap := 1) (N := 120) iu_38 ⟨by decide, rfl, rfl, rfl, rfl, by decide⟩ rfl (by omega)) (c_X2_115 Cx rfl rfl (rmk_ok (by omega) (by decide))) hW (by decide) rfl rfl rfl hl.1 rfl (Nat.le_of_ble_eq_true rfl) dX2_write_94 ⟨Nat.le_of_ble_eq_true rfl, Nat.le_of_ble_eq_true rfl⟩) hL (fun u_41 H locs k_42 hW hL => ?_)
              obtain ⟨iu_41, fu_41⟩ := k_42
              have F_43 := F_40.trans (fu_41.to (pB_sub rfl rfl))
              refine lv_iconst (v := iv 1) hx hb dX2_write_97 (by decide) ?_
              exact sZret Cx hr hlk hW hL (by omega) ⟨iu_41, F_43, (by omega)⟩ dX2_write_98
  · refine lv_iload_n hx hb dX2_write_6 rfl (lv_at hl 2 rfl) ?_
    refine r_if_ne (tgt := 14) hx hb ⟨(by omega), (by omega)⟩ dX2_write_7 (by decide) (fun c_44 => ?_) (fun c_44 => ?_)
    · refine lv_iconst (v := iv 0) hx hb dX2_write_14 (by decide) ?_
      refine lv_goto (tgt := 59) hx hb dX2_write_15 (by decide) ?_
      refine lv_istore (lv' := [(4, .int (iv 0)), (0, .ref (G.2.2.1 + 135)), (1, .int (iv i)), (2, .int (iv j)), (3, .ref (G.2.2.1 + 3))]) hx hb dX2_write_59 hl (by decide) rfl (fun ls hl => ?_)
      refine lv_iload hx hb dX2_write_61 (lv_at hl 0 rfl) ?_
      refine r_if_ne (tgt := 68) hx hb ⟨(by omega), (by omega)⟩ dX2_write_63 (by decide) (fun c => absurd (by omega) c) (fun _ => ?_)
      refine lv_iconst (v := iv 0) hx hb dX2_write_66 (by decide) ?_
      exact sZret Cx hr hlk hW hL (by omega) ⟨hI, (Fr.rf : Fr S S pNz), (by omega)⟩ dX2_write_67
    · refine lv_iconst (v := iv 1) hx hb dX2_write_10 (by decide) ?_
      refine lv_goto (tgt := 59) hx hb dX2_write_11 (by decide) ?_
      refine lv_istore (lv' := [(4, .int (iv 1)), (0, .ref (G.2.2.1 + 135)), (1, .int (iv i)), (2, .int (iv j)), (3, .ref (G.2.2.1 + 3))]) hx hb dX2_write_59 hl (by decide) rfl (fun ls hl => ?_)
      refine lv_iload hx hb dX2_write_61 (lv_at hl 0 rfl) ?_
      refine r_if_ne (tgt := 68) hx hb ⟨(by omega), (by omega)⟩ dX2_write_63 (by decide) (fun _ => ?_) (fun c => absurd c (by omega))
      refine lv_aload_n hx hb dX2_write_68 rfl (lv_at hl 1 rfl) ?_
      refine g_X2_38 Cx hW (k := 135) (by decide) rfl (v := .ref (G.2.2.1 + 145)) (rf_135_7 hI) dX2_write_69 ?_
      refine lv_aload_n hx hb dX2_write_72 rfl (lv_at hl 1 rfl) ?_
      obtain ⟨o_45, o_46, mo_45, mo_46, no_45, eo_45, eo_46⟩ := rm_135 hI
      refine g_X2_13 Cx hW (k := 135) (by decide) rfl (v := .ref (G.2.2.1 + o_45)) eo_45 dX2_write_73 ?_
      refine lv_iload_n hx hb dX2_write_76 rfl (lv_at hl 2 rfl) ?_
      refine lv_iload_n hx hb dX2_write_77 rfl (lv_at hl 3 rfl) ?_
      refine sBi (sSt (As := [.int (iv i), .int (iv j)]) (rest := [.ref (G.2.2.1 + o_45), .ref (G.2.2.1 + 145)]) Cx (s_X2_at l G S (i := i) (j := j) (by omega) (by omega)) (c_X2_77 Cx rfl rfl (rmk_ok (by omega) (by decide))) hW rfl hl.1 rfl (Nat.le_of_ble_eq_true rfl) dX2_write_78 ⟨Nat.le_of_ble_eq_true rfl, Nat.le_of_ble_eq_true rfl⟩) hL (fun r_49 u_47 H locs k_48 hW hL => ?_)
      obtain ⟨eu_47, xu_47⟩ := k_48
      rw [eu_47] at hW
      refine sBv (sV (As := [.ref (G.2.2.1 + o_45), .int (iv r_49)]) (rest := []) (k := 145) Cx (s_X0_load l G S (o := 145) (k := o_45) (a := r_49) (N := 4816) hI rfl (dic_a mo_45) (by omega)) (c_X2_106 Cx rfl rfl (rmk_ok (by omega) (by decide))) hW (by decide) rfl rfl rfl hl.1 rfl (Nat.le_of_ble_eq_true rfl) dX2_write_81 ⟨Nat.le_of_ble_eq_true rfl, Nat.le_of_ble_eq_true rfl⟩) hL (fun u_50 H locs k_51 hW hL => ?_)
      obtain ⟨iu_50, fu_50, xu_50⟩ := k_51
      have F_52 := (Fr.rf : Fr S S pNz).trans (fu_50.to (pB_sub rfl rfl))
      have yu_50 : u_50.1 145 1 ≤ 6 := by have e := xu_50.1; rw [dic_L mo_45] at e; exact e
      refine lv_aload_n hx hb dX2_write_84 rfl (lv_at hl 4 rfl) ?_
      refine sBv (sV (As := []) (rest := []) (k := 3) Cx (s_X10_clear l G u_50 (o := 3) (N := 120) iu_50 ⟨by decide, rfl, rfl, rfl, rfl, by decide⟩) (c_X2_110 Cx rfl rfl (rmk_ok (by omega) (by decide))) hW (by decide) rfl rfl rfl hl.1 rfl (Nat.le_of_ble_eq_true rfl) dX2_write_85 ⟨Nat.le_of_ble_eq_true rfl, Nat.le_of_ble_eq_true rfl⟩) hL (fun u_53 H locs k_54 hW hL => ?_)
      obtain ⟨iu_53, fu_53, xu_53⟩ := k_54
      have F_55 := F_52.trans (fu_53.to (pB_sub rfl rfl))
      refine lv_aload_n hx hb dX2_write_88 rfl (lv_at hl 4 rfl) ?_
      refine lv_aload_n hx hb dX2_write_89 rfl (lv_at hl 1 rfl) ?_
      refine g_X2_38 Cx hW (k := 135) (by decide) rfl (v := .ref (G.2.2.1 + 145)) (rf_135_7 iu_53) dX2_write_90 ?_
      refine lv_iconst (v := iv 1) hx hb dX2_write_93 (by decide) ?_
      refine sBv (sV (As := [.ref (G.2.2.1 + 145), .int (iv 1)]) (rest := []) (k := 3) Cx (s_X10_number l G u_53 (o := 3) (v := 145) (ap := 1) (N := 120) iu_53 ⟨by decide, rfl, rfl, rfl, rfl, by decide⟩ rfl (by omega)) (c_X2_115 Cx rfl rfl (rmk_ok (by omega) (by decide))) hW (by decide) rfl rfl rfl hl.1 rfl (Nat.le_of_ble_eq_true rfl) dX2_write_94 ⟨Nat.le_of_ble_eq_true rfl, Nat.le_of_ble_eq_true rfl⟩) hL (fun u_56 H locs k_57 hW hL => ?_)
      obtain ⟨iu_56, fu_56⟩ := k_57
      have F_58 := F_55.trans (fu_56.to (pB_sub rfl rfl))
      refine lv_iconst (v := iv 1) hx hb dX2_write_97 (by decide) ?_
      exact sZret Cx hr hlk hW hL (by omega) ⟨iu_56, F_58, (by omega)⟩ dX2_write_98

set_option maxRecDepth 100000 in
set_option maxHeartbeats 4000000 in
theorem z_X5_reduce_177 (l : Launch) (G : sG) (S : sS) {tn : Int} (hI : cX G S 0 0 0) (hab : S.1 177 1 ≤ 7 ∧ S.1 179 1 ≤ 7) (htn : 0 ≤ tn ∧ tn ≤ 1) : Met l yX5_reduce (.code yX5_reduce cX5_reduce 4 none :: tb) (rmk 6 0 0) (sPc G 294 S [.ref (G.2.2.1 + 157), .ref (G.2.2.1 + 177), .ref (G.2.2.1 + 179), .int (iv tn)]) (sQv G 294 (fun u => cX G u 0 0 0 ∧ Fr S u pNz)) 0 0 (sF G) := by
  refine sEnter (by decide) (Nat.le_of_ble_eq_true rfl) ?_
  intro p e s m args below meth c Cx hr hlk hnm hW ls hl
  have Cx : sC G p m c cX5_reduce 4 s args RX5 := Cx
  obtain ⟨hx, hb, hml, hown, hts⟩ := id Cx.1
  have hL : sL G [] := sL_nil
  have hl : lv_has ls 4 [(0, .ref (G.2.2.1 + 157)), (1, .ref (G.2.2.1 + 177)), (2, .ref (G.2.2.1 + 179)), (3, .int (iv tn))] := hl
  have hW0 := hW
  refine lv_aload_n hx hb dX5_reduce_0 rfl (lv_at hl 0 rfl) ?_
  refine g_X5_30 Cx hW (k := 157) (by decide) rfl (v := .ref (G.2.2.1 + 163)) (rf_157_3 hI) dX5_reduce_1 ?_
  refine lv_aload_n hx hb dX5_reduce_4 rfl (lv_at hl 1 rfl) ?_
  have q_1 : 0 ≤ S.1 177 1 ∧ S.1 177 1 ≤ 32 := hI.fi 177 1 0 (by decide) rfl
  have q_2 : (-1) ≤ S.1 177 2 ∧ S.1 177 2 ≤ 1 := hI.fi 177 2 0 (by decide) rfl
  refine sBv (sV (As := [.ref (G.2.2.1 + 177)]) (rest := []) (k := 163) Cx (s_X0_copy l G S (o := 163) (a := 177) hI rfl rfl) (c_X5_141 Cx rfl rfl (rmk_ok (by omega) (by decide))) hW (by decide) rfl rfl rfl hl.1 rfl (Nat.le_of_ble_eq_true rfl) dX5_reduce_5 ⟨Nat.le_of_ble_eq_true rfl, Nat.le_of_ble_eq_true rfl⟩) hL (fun u_3 H locs k_4 hW hL => ?_)
  obtain ⟨iu_3, fu_3, xu_3⟩ := k_4
  have F_5 := (Fr.rf : Fr S S pNz).trans (fu_3.to (pB_sub rfl rfl))
  have join_19 : ∀ (S19 : sS)  (H : Heap) (locs : List Loc) (ls : Array Slot), (cX G S19 0 0 0) → (Fr S S19 pNz) → (Fr u_3 S19 (pB 163)) → (S19.1 163 1 ≤ 7) → sW G 294 S19 H → sL G locs → lv_has ls 4 [(0, .ref (G.2.2.1 + 157)), (1, .ref (G.2.2.1 + 177)), (2, .ref (G.2.2.1 + 179)), (3, .int (iv tn))] → W p l e (rmk 6 0 0) s m args below meth c H locs 0 0 (MQ below (sQv G 294 (fun u => cX G u 0 0 0 ∧ Fr S u pNz)) args s 0 0 (sF G)) (F0 m 19 ls []) := by
    intro S19  H locs ls hI19 hFm19 hL19_ hu7 hW hL hl
    refine lv_aload_n hx hb dX5_reduce_19 rfl (lv_at hl 0 rfl) ?_
    refine g_X5_34 Cx hW (k := 157) (by decide) rfl (v := .ref (G.2.2.1 + 165)) (rf_157_4 hI19) dX5_reduce_20 ?_
    refine lv_aload_n hx hb dX5_reduce_23 rfl (lv_at hl 2 rfl) ?_
    have q_6 : 0 ≤ S.1 179 1 ∧ S.1 179 1 ≤ 32 := hI.fi 179 1 0 (by decide) rfl
    have lk_7 : S19.1 179 1 = S.1 179 1 := ((hL19_ 179 rfl).1 1).trans ((fu_3 179 rfl).1 1)
    have q_8 : (-1) ≤ S.1 179 2 ∧ S.1 179 2 ≤ 1 := hI.fi 179 2 0 (by decide) rfl
    have lk_9 : S19.1 179 2 = S.1 179 2 := ((hL19_ 179 rfl).1 2).trans ((fu_3 179 rfl).1 2)
    refine sBv (sV (As := [.ref (G.2.2.1 + 179)]) (rest := []) (k := 165) Cx (s_X0_copy l G S19 (o := 165) (a := 179) hI19 rfl rfl) (c_X5_141 Cx rfl rfl (rmk_ok (by omega) (by decide))) hW (by decide) rfl rfl rfl hl.1 rfl (Nat.le_of_ble_eq_true rfl) dX5_reduce_24 ⟨Nat.le_of_ble_eq_true rfl, Nat.le_of_ble_eq_true rfl⟩) hL (fun u_10 H locs k_11 hW hL => ?_)
    obtain ⟨iu_10, fu_10, xu_10⟩ := k_11
    have F_12 := hFm19.trans (fu_10.to (pB_sub rfl rfl))
    refine lv_aload_n hx hb dX5_reduce_27 rfl (lv_at hl 0 rfl) ?_
    refine g_X5_40 Cx hW (k := 157) (by decide) rfl (v := .ref (G.2.2.1 + 169)) (rf_157_6 iu_10) dX5_reduce_28 ?_
    refine lv_aload_n hx hb dX5_reduce_31 rfl (lv_at hl 1 rfl) ?_
    have lk_13 : u_10.1 177 1 = S.1 177 1 := ((fu_10 177 rfl).1 1).trans (((hL19_ 177 rfl).1 1).trans ((fu_3 177 rfl).1 1))
    have lk_14 : u_10.1 177 2 = S.1 177 2 := ((fu_10 177 rfl).1 2).trans (((hL19_ 177 rfl).1 2).trans ((fu_3 177 rfl).1 2))
    refine sBv (sV (As := [.ref (G.2.2.1 + 177)]) (rest := []) (k := 169) Cx (s_X0_copy l G u_10 (o := 169) (a := 177) iu_10 rfl rfl) (c_X5_141 Cx rfl rfl (rmk_ok (by omega) (by decide))) hW (by decide) rfl rfl rfl hl.1 rfl (Nat.le_of_ble_eq_true rfl) dX5_reduce_32 ⟨Nat.le_of_ble_eq_true rfl, Nat.le_of_ble_eq_true rfl⟩) hL (fun u_15 H locs k_16 hW hL => ?_)
    obtain ⟨iu_15, fu_15, xu_15⟩ := k_16
    have F_17 := F_12.trans (fu_15.to (pB_sub rfl rfl))
    refine lv_aload_n hx hb dX5_reduce_35 rfl (lv_at hl 0 rfl) ?_
    refine g_X5_40 Cx hW (k := 157) (by decide) rfl (v := .ref (G.2.2.1 + 169)) (rf_157_6 iu_15) dX5_reduce_36 ?_
    refine lv_aload_n hx hb dX5_reduce_39 rfl (lv_at hl 0 rfl) ?_
    refine g_X5_40 Cx hW (k := 157) (by decide) rfl (v := .ref (G.2.2.1 + 169)) (rf_157_6 iu_15) dX5_reduce_40 ?_
    have q_18 : (-1) ≤ u_15.1 169 2 ∧ u_15.1 169 2 ≤ 1 := iu_15.fi 169 2 0 (by decide) rfl
    refine g_X5_126 Cx hW (k := 169) (by decide) rfl (v := u_15.1 169 2) rfl dX5_reduce_43 ?_
    refine r_abs hx hb (hml.trans hl.1.symm) hown (hts _ w_1652) (hts _ w_1156) (hts _ w_206) (hts _ w_1157) (rmk_f (by omega)) (rmk_l (by omega) (Nat.le_of_ble_eq_true rfl)) (Nat.le_of_ble_eq_true rfl) (Nat.le_of_ble_eq_true rfl) ⟨(by omega), (by omega)⟩ dX5_reduce_46 (fun z_19 hz_19 => ?_)
    refine p_X5_126 Cx hW hL (k := 169) (by decide) rfl dX5_reduce_49 (fun H locs hW hL => ?_)
    have F_20 : Fr S (uF u_15 169 2 z_19) pNz := F_17.F rfl
    have i_21 : cX G (uF u_15 169 2 z_19) 0 0 0 := iu_15.F rfl rfl (show (-1) ≤ z_19 ∧ z_19 ≤ 1 from ⟨by omega, by omega⟩)
    refine lv_aload_n hx hb dX5_reduce_52 rfl (lv_at hl 0 rfl) ?_
    refine g_X5_43 Cx hW (k := 157) (by decide) rfl (v := .ref (G.2.2.1 + 171)) (rf_157_7 i_21) dX5_reduce_53 ?_
    refine lv_aload_n hx hb dX5_reduce_56 rfl (lv_at hl 2 rfl) ?_
    have lk_22 : (uF u_15 169 2 z_19).1 179 1 = S.1 179 1 := (uF_ne (fun h => absurd h.2 (by decide))).trans (((fu_15 179 rfl).1 1).trans (((fu_10 179 rfl).1 1).trans (((hL19_ 179 rfl).1 1).trans ((fu_3 179 rfl).1 1))))
    have lk_23 : (uF u_15 169 2 z_19).1 179 2 = S.1 179 2 := (uF_ne (fun h => absurd h.1 (by decide))).trans (((fu_15 179 rfl).1 2).trans (((fu_10 179 rfl).1 2).trans (((hL19_ 179 rfl).1 2).trans ((fu_3 179 rfl).1 2))))
    refine sBv (sV (As := [.ref (G.2.2.1 + 179)]) (rest := []) (k := 171) Cx (s_X0_copy l G (uF u_15 169 2 z_19) (o := 171) (a := 179) i_21 rfl rfl) (c_X5_141 Cx rfl rfl (rmk_ok (by omega) (by decide))) hW (by decide) rfl rfl rfl hl.1 rfl (Nat.le_of_ble_eq_true rfl) dX5_reduce_57 ⟨Nat.le_of_ble_eq_true rfl, Nat.le_of_ble_eq_true rfl⟩) hL (fun u_24 H locs k_25 hW hL => ?_)
    obtain ⟨iu_24, fu_24, xu_24⟩ := k_25
    have F_26 := F_20.trans (fu_24.to (pB_sub rfl rfl))
    refine lv_aload_n hx hb dX5_reduce_60 rfl (lv_at hl 0 rfl) ?_
    refine g_X5_37 Cx hW (k := 157) (by decide) rfl (v := .ref (G.2.2.1 + 167)) (rf_157_5 iu_24) dX5_reduce_61 ?_
    refine lv_aload_n hx hb dX5_reduce_64 rfl (lv_at hl 0 rfl) ?_
    refine lv_aload_n hx hb dX5_reduce_65 rfl (lv_at hl 0 rfl) ?_
    refine g_X5_40 Cx hW (k := 157) (by decide) rfl (v := .ref (G.2.2.1 + 169)) (rf_157_6 iu_24) dX5_reduce_66 ?_
    refine lv_aload_n hx hb dX5_reduce_69 rfl (lv_at hl 0 rfl) ?_
    refine g_X5_43 Cx hW (k := 157) (by decide) rfl (v := .ref (G.2.2.1 + 171)) (rf_157_7 iu_24) dX5_reduce_70 ?_
    have q_27 : 0 ≤ u_15.1 169 1 ∧ u_15.1 169 1 ≤ 32 := iu_15.fi 169 1 0 (by decide) rfl
    have lk_28 : u_24.1 169 1 = u_15.1 169 1 := ((fu_24 169 rfl).1 1).trans (uF_ne (fun h => absurd h.2 (by decide)))
    have q_29 : 0 ≤ u_24.1 171 1 ∧ u_24.1 171 1 ≤ 32 := iu_24.fi 171 1 0 (by decide) rfl
    refine sBr (sV (As := [.ref (G.2.2.1 + 169), .ref (G.2.2.1 + 171)]) (rest := [.ref (G.2.2.1 + 167)]) (k := 157) Cx (s_X5_common l G u_24  iu_24 (by omega)) (c_X5_152 Cx rfl rfl (rmk_ok (by omega) (by decide))) hW (by decide) rfl rfl rfl hl.1 rfl (Nat.le_of_ble_eq_true rfl) dX5_reduce_73 ⟨Nat.le_of_ble_eq_true rfl, Nat.le_of_ble_eq_true rfl⟩) hL (fun r_32 u_30 H locs k_31 hW hL => ?_)
    obtain ⟨iu_30, fu_30, xu_30⟩ := k_31
    have F_33 := F_26.trans (fu_30.to pP_Nz)
    rcases xu_30.1 with rfl | rfl
    · have q_34 : 0 ≤ u_30.1 169 1 ∧ u_30.1 169 1 ≤ 32 := iu_30.fi 169 1 0 (by decide) rfl
      have q_35 : (-1) ≤ u_30.1 169 2 ∧ u_30.1 169 2 ≤ 1 := iu_30.fi 169 2 0 (by decide) rfl
      refine sBv (sV (As := [.ref (G.2.2.1 + 169)]) (rest := []) (k := 167) Cx (s_X0_copy l G u_30 (o := 167) (a := 169) iu_30 rfl rfl) (c_X5_141 Cx rfl rfl (rmk_ok (by omega) (by decide))) hW (by decide) rfl rfl rfl hl.1 rfl (Nat.le_of_ble_eq_true rfl) dX5_reduce_76 ⟨Nat.le_of_ble_eq_true rfl, Nat.le_of_ble_eq_true rfl⟩) hL (fun u_36 H locs k_37 hW hL => ?_)
      obtain ⟨iu_36, fu_36, xu_36⟩ := k_37
      have F_38 := F_33.trans (fu_36.to (pB_sub rfl rfl))
      refine lv_aload_n hx hb dX5_reduce_79 rfl (lv_at hl 0 rfl) ?_
      refine g_X5_30 Cx hW (k := 157) (by decide) rfl (v := .ref (G.2.2.1 + 163)) (rf_157_3 iu_36) dX5_reduce_80 ?_
      refine lv_aload_n hx hb dX5_reduce_83 rfl (lv_at hl 0 rfl) ?_
      refine g_X5_37 Cx hW (k := 157) (by decide) rfl (v := .ref (G.2.2.1 + 167)) (rf_157_5 iu_36) dX5_reduce_84 ?_
      refine lv_aload_n hx hb dX5_reduce_87 rfl (lv_at hl 0 rfl) ?_
      refine g_X5_46 Cx hW (k := 157) (by decide) rfl (v := .ref (G.2.2.1 + 173)) (rf_157_8 iu_36) dX5_reduce_88 ?_
      refine lv_aload_n hx hb dX5_reduce_91 rfl (lv_at hl 0 rfl) ?_
      refine g_X5_49 Cx hW (k := 157) (by decide) rfl (v := .ref (G.2.2.1 + 175)) (rf_157_9 iu_36) dX5_reduce_92 ?_
      have q_39 : 0 ≤ S19.1 163 1 ∧ S19.1 163 1 ≤ 32 := hI19.fi 163 1 0 (by decide) rfl
      have lk_40 : u_36.1 163 1 = S19.1 163 1 := ((fu_36 163 rfl).1 1).trans (((fu_30 163 rfl).1 1).trans (((fu_24 163 rfl).1 1).trans ((uF_ne (fun h => absurd h.2 (by decide))).trans (((fu_15 163 rfl).1 1).trans ((fu_10 163 rfl).1 1)))))
      have q_41 : 0 ≤ u_36.1 167 1 ∧ u_36.1 167 1 ≤ 32 := iu_36.fi 167 1 0 (by decide) rfl
      have q_42 : (-1) ≤ S19.1 163 2 ∧ S19.1 163 2 ≤ 1 := hI19.fi 163 2 0 (by decide) rfl
      have lk_43 : u_36.1 163 2 = S19.1 163 2 := ((fu_36 163 rfl).1 2).trans (((fu_30 163 rfl).1 2).trans (((fu_24 163 rfl).1 2).trans ((uF_ne (fun h => absurd h.1 (by decide))).trans (((fu_15 163 rfl).1 2).trans ((fu_10 163 rfl).1 2)))))
      have q_44 : (-1) ≤ u_36.1 167 2 ∧ u_36.1 167 2 ≤ 1 := iu_36.fi 167 2 0 (by decide) rfl
      refine sBv (sV (As := [.ref (G.2.2.1 + 167), .ref (G.2.2.1 + 173), .ref (G.2.2.1 + 175)]) (rest := []) (k := 163) Cx (s_X0_divide l G u_36 (o := 163) (b := 167) (q := 173) (h := 175) (n := 12) iu_36 rfl rfl rfl rfl (show (163 : Nat) ≠ 167 by decide) (show (163 : Nat) ≠ 173 by decide) (show (163 : Nat) ≠ 175 by decide) (show (167 : Nat) ≠ 173 by decide) (show (167 : Nat) ≠ 175 by decide) (show (173 : Nat) ≠ 175 by decide) (by omega)) (c_X5_137 Cx rfl rfl (rmk_ok (by omega) (by decide))) hW (by decide) rfl rfl rfl hl.1 rfl (Nat.le_of_ble_eq_true rfl) dX5_reduce_95 ⟨Nat.le_of_ble_eq_true rfl, Nat.le_of_ble_eq_true rfl⟩) hL (fun u_45 H locs k_46 hW hL => ?_)
      obtain ⟨iu_45, fu_45, xu_45⟩ := k_46
      have F_47 := F_38.trans (fu_45.to (pD_sub (pB_sub rfl rfl) (pB_sub rfl rfl) (pB_sub rfl rfl)))
      refine lv_aload_n hx hb dX5_reduce_98 rfl (lv_at hl 0 rfl) ?_
      refine g_X5_30 Cx hW (k := 157) (by decide) rfl (v := .ref (G.2.2.1 + 163)) (rf_157_3 iu_45) dX5_reduce_99 ?_
      refine lv_aload_n hx hb dX5_reduce_102 rfl (lv_at hl 0 rfl) ?_
      refine g_X5_46 Cx hW (k := 157) (by decide) rfl (v := .ref (G.2.2.1 + 173)) (rf_157_8 iu_45) dX5_reduce_103 ?_
      have q_48 : 0 ≤ u_45.1 173 1 ∧ u_45.1 173 1 ≤ 32 := iu_45.fi 173 1 0 (by decide) rfl
      have q_49 : (-1) ≤ u_45.1 173 2 ∧ u_45.1 173 2 ≤ 1 := iu_45.fi 173 2 0 (by decide) rfl
      refine sBv (sV (As := [.ref (G.2.2.1 + 173)]) (rest := []) (k := 163) Cx (s_X0_copy l G u_45 (o := 163) (a := 173) iu_45 rfl rfl) (c_X5_141 Cx rfl rfl (rmk_ok (by omega) (by decide))) hW (by decide) rfl rfl rfl hl.1 rfl (Nat.le_of_ble_eq_true rfl) dX5_reduce_106 ⟨Nat.le_of_ble_eq_true rfl, Nat.le_of_ble_eq_true rfl⟩) hL (fun u_50 H locs k_51 hW hL => ?_)
      obtain ⟨iu_50, fu_50, xu_50⟩ := k_51
      have F_52 := F_47.trans (fu_50.to (pB_sub rfl rfl))
      refine lv_aload_n hx hb dX5_reduce_109 rfl (lv_at hl 0 rfl) ?_
      refine g_X5_34 Cx hW (k := 157) (by decide) rfl (v := .ref (G.2.2.1 + 165)) (rf_157_4 iu_50) dX5_reduce_110 ?_
      refine lv_aload_n hx hb dX5_reduce_113 rfl (lv_at hl 0 rfl) ?_
      refine g_X5_37 Cx hW (k := 157) (by decide) rfl (v := .ref (G.2.2.1 + 167)) (rf_157_5 iu_50) dX5_reduce_114 ?_
      refine lv_aload_n hx hb dX5_reduce_117 rfl (lv_at hl 0 rfl) ?_
      refine g_X5_46 Cx hW (k := 157) (by decide) rfl (v := .ref (G.2.2.1 + 173)) (rf_157_8 iu_50) dX5_reduce_118 ?_
      refine lv_aload_n hx hb dX5_reduce_121 rfl (lv_at hl 0 rfl) ?_
      refine g_X5_49 Cx hW (k := 157) (by decide) rfl (v := .ref (G.2.2.1 + 175)) (rf_157_9 iu_50) dX5_reduce_122 ?_
      have q_53 : 0 ≤ u_10.1 165 1 ∧ u_10.1 165 1 ≤ 32 := iu_10.fi 165 1 0 (by decide) rfl
      have lk_54 : u_50.1 165 1 = u_10.1 165 1 := ((fu_50 165 rfl).1 1).trans (((fu_45 165 rfl).1 1).trans (((fu_36 165 rfl).1 1).trans (((fu_30 165 rfl).1 1).trans (((fu_24 165 rfl).1 1).trans ((uF_ne (fun h => absurd h.2 (by decide))).trans ((fu_15 165 rfl).1 1))))))
      have lk_55 : u_50.1 167 1 = u_36.1 167 1 := ((fu_50 167 rfl).1 1).trans ((fu_45 167 rfl).1 1)
      have q_56 : (-1) ≤ u_10.1 165 2 ∧ u_10.1 165 2 ≤ 1 := iu_10.fi 165 2 0 (by decide) rfl
      have lk_57 : u_50.1 165 2 = u_10.1 165 2 := ((fu_50 165 rfl).1 2).trans (((fu_45 165 rfl).1 2).trans (((fu_36 165 rfl).1 2).trans (((fu_30 165 rfl).1 2).trans (((fu_24 165 rfl).1 2).trans ((uF_ne (fun h => absurd h.1 (by decide))).trans ((fu_15 165 rfl).1 2))))))
      have lk_58 : u_50.1 167 2 = u_36.1 167 2 := ((fu_50 167 rfl).1 2).trans ((fu_45 167 rfl).1 2)
      refine sBv (sV (As := [.ref (G.2.2.1 + 167), .ref (G.2.2.1 + 173), .ref (G.2.2.1 + 175)]) (rest := []) (k := 165) Cx (s_X0_divide l G u_50 (o := 165) (b := 167) (q := 173) (h := 175) (n := 12) iu_50 rfl rfl rfl rfl (show (165 : Nat) ≠ 167 by decide) (show (165 : Nat) ≠ 173 by decide) (show (165 : Nat) ≠ 175 by decide) (show (167 : Nat) ≠ 173 by decide) (show (167 : Nat) ≠ 175 by decide) (show (173 : Nat) ≠ 175 by decide) (by omega)) (c_X5_137 Cx rfl rfl (rmk_ok (by omega) (by decide))) hW (by decide) rfl rfl rfl hl.1 rfl (Nat.le_of_ble_eq_true rfl) dX5_reduce_125 ⟨Nat.le_of_ble_eq_true rfl, Nat.le_of_ble_eq_true rfl⟩) hL (fun u_59 H locs k_60 hW hL => ?_)
      obtain ⟨iu_59, fu_59, xu_59⟩ := k_60
      have F_61 := F_52.trans (fu_59.to (pD_sub (pB_sub rfl rfl) (pB_sub rfl rfl) (pB_sub rfl rfl)))
      refine lv_aload_n hx hb dX5_reduce_128 rfl (lv_at hl 0 rfl) ?_
      refine g_X5_34 Cx hW (k := 157) (by decide) rfl (v := .ref (G.2.2.1 + 165)) (rf_157_4 iu_59) dX5_reduce_129 ?_
      refine lv_aload_n hx hb dX5_reduce_132 rfl (lv_at hl 0 rfl) ?_
      refine g_X5_46 Cx hW (k := 157) (by decide) rfl (v := .ref (G.2.2.1 + 173)) (rf_157_8 iu_59) dX5_reduce_133 ?_
      have q_62 : 0 ≤ u_59.1 173 1 ∧ u_59.1 173 1 ≤ 32 := iu_59.fi 173 1 0 (by decide) rfl
      have q_63 : (-1) ≤ u_59.1 173 2 ∧ u_59.1 173 2 ≤ 1 := iu_59.fi 173 2 0 (by decide) rfl
      refine sBv (sV (As := [.ref (G.2.2.1 + 173)]) (rest := []) (k := 165) Cx (s_X0_copy l G u_59 (o := 165) (a := 173) iu_59 rfl rfl) (c_X5_141 Cx rfl rfl (rmk_ok (by omega) (by decide))) hW (by decide) rfl rfl rfl hl.1 rfl (Nat.le_of_ble_eq_true rfl) dX5_reduce_136 ⟨Nat.le_of_ble_eq_true rfl, Nat.le_of_ble_eq_true rfl⟩) hL (fun u_64 H locs k_65 hW hL => ?_)
      obtain ⟨iu_64, fu_64, xu_64⟩ := k_65
      have F_66 := F_61.trans (fu_64.to (pB_sub rfl rfl))
      exact sVret Cx hr hlk hW hL ⟨iu_64, F_66⟩ dX5_reduce_139
    · have q_67 : 0 ≤ u_30.1 171 1 ∧ u_30.1 171 1 ≤ 32 := iu_30.fi 171 1 0 (by decide) rfl
      have q_68 : (-1) ≤ u_30.1 171 2 ∧ u_30.1 171 2 ≤ 1 := iu_30.fi 171 2 0 (by decide) rfl
      refine sBv (sV (As := [.ref (G.2.2.1 + 171)]) (rest := []) (k := 167) Cx (s_X0_copy l G u_30 (o := 167) (a := 171) iu_30 rfl rfl) (c_X5_141 Cx rfl rfl (rmk_ok (by omega) (by decide))) hW (by decide) rfl rfl rfl hl.1 rfl (Nat.le_of_ble_eq_true rfl) dX5_reduce_76 ⟨Nat.le_of_ble_eq_true rfl, Nat.le_of_ble_eq_true rfl⟩) hL (fun u_69 H locs k_70 hW hL => ?_)
      obtain ⟨iu_69, fu_69, xu_69⟩ := k_70
      have F_71 := F_33.trans (fu_69.to (pB_sub rfl rfl))
      refine lv_aload_n hx hb dX5_reduce_79 rfl (lv_at hl 0 rfl) ?_
      refine g_X5_30 Cx hW (k := 157) (by decide) rfl (v := .ref (G.2.2.1 + 163)) (rf_157_3 iu_69) dX5_reduce_80 ?_
      refine lv_aload_n hx hb dX5_reduce_83 rfl (lv_at hl 0 rfl) ?_
      refine g_X5_37 Cx hW (k := 157) (by decide) rfl (v := .ref (G.2.2.1 + 167)) (rf_157_5 iu_69) dX5_reduce_84 ?_
      refine lv_aload_n hx hb dX5_reduce_87 rfl (lv_at hl 0 rfl) ?_
      refine g_X5_46 Cx hW (k := 157) (by decide) rfl (v := .ref (G.2.2.1 + 173)) (rf_157_8 iu_69) dX5_reduce_88 ?_
      refine lv_aload_n hx hb dX5_reduce_91 rfl (lv_at hl 0 rfl) ?_
      refine g_X5_49 Cx hW (k := 157) (by decide) rfl (v := .ref (G.2.2.1 + 175)) (rf_157_9 iu_69) dX5_reduce_92 ?_
      have q_72 : 0 ≤ S19.1 163 1 ∧ S19.1 163 1 ≤ 32 := hI19.fi 163 1 0 (by decide) rfl
      have lk_73 : u_69.1 163 1 = S19.1 163 1 := ((fu_69 163 rfl).1 1).trans (((fu_30 163 rfl).1 1).trans (((fu_24 163 rfl).1 1).trans ((uF_ne (fun h => absurd h.2 (by decide))).trans (((fu_15 163 rfl).1 1).trans ((fu_10 163 rfl).1 1)))))
      have q_74 : 0 ≤ u_69.1 167 1 ∧ u_69.1 167 1 ≤ 32 := iu_69.fi 167 1 0 (by decide) rfl
      have q_75 : (-1) ≤ S19.1 163 2 ∧ S19.1 163 2 ≤ 1 := hI19.fi 163 2 0 (by decide) rfl
      have lk_76 : u_69.1 163 2 = S19.1 163 2 := ((fu_69 163 rfl).1 2).trans (((fu_30 163 rfl).1 2).trans (((fu_24 163 rfl).1 2).trans ((uF_ne (fun h => absurd h.1 (by decide))).trans (((fu_15 163 rfl).1 2).trans ((fu_10 163 rfl).1 2)))))
      have q_77 : (-1) ≤ u_69.1 167 2 ∧ u_69.1 167 2 ≤ 1 := iu_69.fi 167 2 0 (by decide) rfl
      refine sBv (sV (As := [.ref (G.2.2.1 + 167), .ref (G.2.2.1 + 173), .ref (G.2.2.1 + 175)]) (rest := []) (k := 163) Cx (s_X0_divide l G u_69 (o := 163) (b := 167) (q := 173) (h := 175) (n := 12) iu_69 rfl rfl rfl rfl (show (163 : Nat) ≠ 167 by decide) (show (163 : Nat) ≠ 173 by decide) (show (163 : Nat) ≠ 175 by decide) (show (167 : Nat) ≠ 173 by decide) (show (167 : Nat) ≠ 175 by decide) (show (173 : Nat) ≠ 175 by decide) (by omega)) (c_X5_137 Cx rfl rfl (rmk_ok (by omega) (by decide))) hW (by decide) rfl rfl rfl hl.1 rfl (Nat.le_of_ble_eq_true rfl) dX5_reduce_95 ⟨Nat.le_of_ble_eq_true rfl, Nat.le_of_ble_eq_true rfl⟩) hL (fun u_78 H locs k_79 hW hL => ?_)
      obtain ⟨iu_78, fu_78, xu_78⟩ := k_79
      have F_80 := F_71.trans (fu_78.to (pD_sub (pB_sub rfl rfl) (pB_sub rfl rfl) (pB_sub rfl rfl)))
      refine lv_aload_n hx hb dX5_reduce_98 rfl (lv_at hl 0 rfl) ?_
      refine g_X5_30 Cx hW (k := 157) (by decide) rfl (v := .ref (G.2.2.1 + 163)) (rf_157_3 iu_78) dX5_reduce_99 ?_
      refine lv_aload_n hx hb dX5_reduce_102 rfl (lv_at hl 0 rfl) ?_
      refine g_X5_46 Cx hW (k := 157) (by decide) rfl (v := .ref (G.2.2.1 + 173)) (rf_157_8 iu_78) dX5_reduce_103 ?_
      have q_81 : 0 ≤ u_78.1 173 1 ∧ u_78.1 173 1 ≤ 32 := iu_78.fi 173 1 0 (by decide) rfl
      have q_82 : (-1) ≤ u_78.1 173 2 ∧ u_78.1 173 2 ≤ 1 := iu_78.fi 173 2 0 (by decide) rfl
      refine sBv (sV (As := [.ref (G.2.2.1 + 173)]) (rest := []) (k := 163) Cx (s_X0_copy l G u_78 (o := 163) (a := 173) iu_78 rfl rfl) (c_X5_141 Cx rfl rfl (rmk_ok (by omega) (by decide))) hW (by decide) rfl rfl rfl hl.1 rfl (Nat.le_of_ble_eq_true rfl) dX5_reduce_106 ⟨Nat.le_of_ble_eq_true rfl, Nat.le_of_ble_eq_true rfl⟩) hL (fun u_83 H locs k_84 hW hL => ?_)
      obtain ⟨iu_83, fu_83, xu_83⟩ := k_84
      have F_85 := F_80.trans (fu_83.to (pB_sub rfl rfl))
      refine lv_aload_n hx hb dX5_reduce_109 rfl (lv_at hl 0 rfl) ?_
      refine g_X5_34 Cx hW (k := 157) (by decide) rfl (v := .ref (G.2.2.1 + 165)) (rf_157_4 iu_83) dX5_reduce_110 ?_
      refine lv_aload_n hx hb dX5_reduce_113 rfl (lv_at hl 0 rfl) ?_
      refine g_X5_37 Cx hW (k := 157) (by decide) rfl (v := .ref (G.2.2.1 + 167)) (rf_157_5 iu_83) dX5_reduce_114 ?_
      refine lv_aload_n hx hb dX5_reduce_117 rfl (lv_at hl 0 rfl) ?_
      refine g_X5_46 Cx hW (k := 157) (by decide) rfl (v := .ref (G.2.2.1 + 173)) (rf_157_8 iu_83) dX5_reduce_118 ?_
      refine lv_aload_n hx hb dX5_reduce_121 rfl (lv_at hl 0 rfl) ?_
      refine g_X5_49 Cx hW (k := 157) (by decide) rfl (v := .ref (G.2.2.1 + 175)) (rf_157_9 iu_83) dX5_reduce_122 ?_
      have q_86 : 0 ≤ u_10.1 165 1 ∧ u_10.1 165 1 ≤ 32 := iu_10.fi 165 1 0 (by decide) rfl
      have lk_87 : u_83.1 165 1 = u_10.1 165 1 := ((fu_83 165 rfl).1 1).trans (((fu_78 165 rfl).1 1).trans (((fu_69 165 rfl).1 1).trans (((fu_30 165 rfl).1 1).trans (((fu_24 165 rfl).1 1).trans ((uF_ne (fun h => absurd h.2 (by decide))).trans ((fu_15 165 rfl).1 1))))))
      have lk_88 : u_83.1 167 1 = u_69.1 167 1 := ((fu_83 167 rfl).1 1).trans ((fu_78 167 rfl).1 1)
      have q_89 : (-1) ≤ u_10.1 165 2 ∧ u_10.1 165 2 ≤ 1 := iu_10.fi 165 2 0 (by decide) rfl
      have lk_90 : u_83.1 165 2 = u_10.1 165 2 := ((fu_83 165 rfl).1 2).trans (((fu_78 165 rfl).1 2).trans (((fu_69 165 rfl).1 2).trans (((fu_30 165 rfl).1 2).trans (((fu_24 165 rfl).1 2).trans ((uF_ne (fun h => absurd h.1 (by decide))).trans ((fu_15 165 rfl).1 2))))))
      have lk_91 : u_83.1 167 2 = u_69.1 167 2 := ((fu_83 167 rfl).1 2).trans ((fu_78 167 rfl).1 2)
      refine sBv (sV (As := [.ref (G.2.2.1 + 167), .ref (G.2.2.1 + 173), .ref (G.2.2.1 + 175)]) (rest := []) (k := 165) Cx (s_X0_divide l G u_83 (o := 165) (b := 167) (q := 173) (h := 175) (n := 12) iu_83 rfl rfl rfl rfl (show (165 : Nat) ≠ 167 by decide) (show (165 : Nat) ≠ 173 by decide) (show (165 : Nat) ≠ 175 by decide) (show (167 : Nat) ≠ 173 by decide) (show (167 : Nat) ≠ 175 by decide) (show (173 : Nat) ≠ 175 by decide) (by omega)) (c_X5_137 Cx rfl rfl (rmk_ok (by omega) (by decide))) hW (by decide) rfl rfl rfl hl.1 rfl (Nat.le_of_ble_eq_true rfl) dX5_reduce_125 ⟨Nat.le_of_ble_eq_true rfl, Nat.le_of_ble_eq_true rfl⟩) hL (fun u_92 H locs k_93 hW hL => ?_)
      obtain ⟨iu_92, fu_92, xu_92⟩ := k_93
      have F_94 := F_85.trans (fu_92.to (pD_sub (pB_sub rfl rfl) (pB_sub rfl rfl) (pB_sub rfl rfl)))
      refine lv_aload_n hx hb dX5_reduce_128 rfl (lv_at hl 0 rfl) ?_
      refine g_X5_34 Cx hW (k := 157) (by decide) rfl (v := .ref (G.2.2.1 + 165)) (rf_157_4 iu_92) dX5_reduce_129 ?_
      refine lv_aload_n hx hb dX5_reduce_132 rfl (lv_at hl 0 rfl) ?_
      refine g_X5_46 Cx hW (k := 157) (by decide) rfl (v := .ref (G.2.2.1 + 173)) (rf_157_8 iu_92) dX5_reduce_133 ?_
      have q_95 : 0 ≤ u_92.1 173 1 ∧ u_92.1 173 1 ≤ 32 := iu_92.fi 173 1 0 (by decide) rfl
      have q_96 : (-1) ≤ u_92.1 173 2 ∧ u_92.1 173 2 ≤ 1 := iu_92.fi 173 2 0 (by decide) rfl
      refine sBv (sV (As := [.ref (G.2.2.1 + 173)]) (rest := []) (k := 165) Cx (s_X0_copy l G u_92 (o := 165) (a := 173) iu_92 rfl rfl) (c_X5_141 Cx rfl rfl (rmk_ok (by omega) (by decide))) hW (by decide) rfl rfl rfl hl.1 rfl (Nat.le_of_ble_eq_true rfl) dX5_reduce_136 ⟨Nat.le_of_ble_eq_true rfl, Nat.le_of_ble_eq_true rfl⟩) hL (fun u_97 H locs k_98 hW hL => ?_)
      obtain ⟨iu_97, fu_97, xu_97⟩ := k_98
      have F_99 := F_94.trans (fu_97.to (pB_sub rfl rfl))
      exact sVret Cx hr hlk hW hL ⟨iu_97, F_99⟩ dX5_reduce_139
  refine lv_iload_n hx hb dX5_reduce_8 rfl (lv_at hl 3 rfl) ?_
  refine r_if_eq (tgt := 19) hx hb ⟨(by omega), (by omega)⟩ dX5_reduce_9 (by decide) (fun c_100 => ?_) (fun c_100 => ?_)
  · have q_101 : 0 ≤ u_3.1 163 1 ∧ u_3.1 163 1 ≤ 32 := iu_3.fi 163 1 0 (by decide) rfl
    exact join_19 u_3  _ _ _ iu_3 F_5 (Fr.rf : Fr u_3 u_3 (pB 163)) (by omega) hW hL (lv_sub hl [0, 1, 2, 3] rfl)
  · refine lv_aload_n hx hb dX5_reduce_12 rfl (lv_at hl 0 rfl) ?_
    refine g_X5_30 Cx hW (k := 157) (by decide) rfl (v := .ref (G.2.2.1 + 163)) (rf_157_3 iu_3) dX5_reduce_13 ?_
    have q_102 : 0 ≤ u_3.1 163 1 ∧ u_3.1 163 1 ≤ 32 := iu_3.fi 163 1 0 (by decide) rfl
    have q_103 : (-1) ≤ u_3.1 163 2 ∧ u_3.1 163 2 ≤ 1 := iu_3.fi 163 2 0 (by decide) rfl
    refine sBv (sV (As := []) (rest := []) (k := 163) Cx (s_X0_turn l G u_3 (o := 163) iu_3 rfl) (c_X5_144 Cx rfl rfl (rmk_ok (by omega) (by decide))) hW (by decide) rfl rfl rfl hl.1 rfl (Nat.le_of_ble_eq_true rfl) dX5_reduce_16 ⟨Nat.le_of_ble_eq_true rfl, Nat.le_of_ble_eq_true rfl⟩) hL (fun u_104 H locs k_105 hW hL => ?_)
    obtain ⟨iu_104, fu_104, xu_104⟩ := k_105
    have F_106 := F_5.trans (fu_104.to (pB_sub rfl rfl))
    have F_107 := (Fr.rf : Fr u_3 u_3 (pB 163)).trans fu_104
    have q_108 : 0 ≤ u_104.1 163 1 ∧ u_104.1 163 1 ≤ 32 := iu_104.fi 163 1 0 (by decide) rfl
    exact join_19 u_104  _ _ _ iu_104 F_106 F_107 (by omega) hW hL (lv_sub hl [0, 1, 2, 3] rfl)

set_option maxRecDepth 100000 in
set_option maxHeartbeats 4000000 in
theorem z_X5_writeFraction (l : Launch) (G : sG) (S : sS) {tn : Int} (hI : cX G S 0 0 0) (hab : S.1 177 1 ≤ 7 ∧ S.1 179 1 ≤ 7) (htn : 0 ≤ tn ∧ tn ≤ 1) : Met l yX5_writeFraction (.code yX5_writeFraction cX5_writeFraction 5 none :: tb) (rmk 7 0 0) (sPc G 294 S [.ref (G.2.2.1 + 157), .ref (G.2.2.1 + 177), .ref (G.2.2.1 + 179), .int (iv tn), .ref (G.2.2.1 + 3)]) (sQv G 294 (fun u => cX G u 0 0 0 ∧ Fr S u pNz)) 0 0 (sF G) := by
  refine sEnter (by decide) (Nat.le_of_ble_eq_true rfl) ?_
  intro p e s m args below meth c Cx hr hlk hnm hW ls hl
  have Cx : sC G p m c cX5_writeFraction 5 s args RX5 := Cx
  obtain ⟨hx, hb, hml, hown, hts⟩ := id Cx.1
  have hL : sL G [] := sL_nil
  have hl : lv_has ls 5 [(0, .ref (G.2.2.1 + 157)), (1, .ref (G.2.2.1 + 177)), (2, .ref (G.2.2.1 + 179)), (3, .int (iv tn)), (4, .ref (G.2.2.1 + 3))] := hl
  have hW0 := hW
  refine lv_aload_n hx hb dX5_writeFraction_0 rfl (lv_at hl 0 rfl) ?_
  refine lv_aload_n hx hb dX5_writeFraction_1 rfl (lv_at hl 1 rfl) ?_
  refine lv_aload_n hx hb dX5_writeFraction_2 rfl (lv_at hl 2 rfl) ?_
  refine lv_iload_n hx hb dX5_writeFraction_3 rfl (lv_at hl 3 rfl) ?_
  have q_1 : 0 ≤ S.1 177 1 ∧ S.1 177 1 ≤ 32 := hI.fi 177 1 0 (by decide) rfl
  have q_2 : 0 ≤ S.1 179 1 ∧ S.1 179 1 ≤ 32 := hI.fi 179 1 0 (by decide) rfl
  refine sBv (sV (As := [.ref (G.2.2.1 + 177), .ref (G.2.2.1 + 179), .int (iv tn)]) (rest := []) (k := 157) Cx (z_X5_reduce_177 l G S (tn := tn) hI (by omega) (by omega)) (c_X5_156 Cx rfl rfl (rmk_ok (by omega) (by decide))) hW (by decide) rfl rfl rfl hl.1 rfl (Nat.le_of_ble_eq_true rfl) dX5_writeFraction_4 ⟨Nat.le_of_ble_eq_true rfl, Nat.le_of_ble_eq_true rfl⟩) hL (fun u_3 H locs k_4 hW hL => ?_)
  obtain ⟨iu_3, fu_3⟩ := k_4
  have F_5 := (Fr.rf : Fr S S pNz).trans fu_3
  refine lv_aload hx hb dX5_writeFraction_7 (lv_at hl 4 rfl) ?_
  refine sBv (sV (As := []) (rest := []) (k := 3) Cx (s_X10_clear l G u_3 (o := 3) (N := 120) iu_3 ⟨by decide, rfl, rfl, rfl, rfl, by decide⟩) (c_X5_52 Cx rfl rfl (rmk_ok (by omega) (by decide))) hW (by decide) rfl rfl rfl hl.1 rfl (Nat.le_of_ble_eq_true rfl) dX5_writeFraction_9 ⟨Nat.le_of_ble_eq_true rfl, Nat.le_of_ble_eq_true rfl⟩) hL (fun u_6 H locs k_7 hW hL => ?_)
  obtain ⟨iu_6, fu_6, xu_6⟩ := k_7
  have F_8 := F_5.trans (fu_6.to (pB_sub rfl rfl))
  refine lv_aload hx hb dX5_writeFraction_12 (lv_at hl 4 rfl) ?_
  refine lv_aload_n hx hb dX5_writeFraction_14 rfl (lv_at hl 0 rfl) ?_
  refine g_X5_30 Cx hW (k := 157) (by decide) rfl (v := .ref (G.2.2.1 + 163)) (rf_157_3 iu_6) dX5_writeFraction_15 ?_
  refine lv_iconst (v := iv 1) hx hb dX5_writeFraction_18 (by decide) ?_
  refine sBv (sV (As := [.ref (G.2.2.1 + 163), .int (iv 1)]) (rest := []) (k := 3) Cx (s_X10_number l G u_6 (o := 3) (v := 163) (ap := 1) (N := 120) iu_6 ⟨by decide, rfl, rfl, rfl, rfl, by decide⟩ rfl (by omega)) (c_X5_99 Cx rfl rfl (rmk_ok (by omega) (by decide))) hW (by decide) rfl rfl rfl hl.1 rfl (Nat.le_of_ble_eq_true rfl) dX5_writeFraction_19 ⟨Nat.le_of_ble_eq_true rfl, Nat.le_of_ble_eq_true rfl⟩) hL (fun u_9 H locs k_10 hW hL => ?_)
  obtain ⟨iu_9, fu_9⟩ := k_10
  have F_11 := F_8.trans (fu_9.to (pB_sub rfl rfl))
  refine lv_aload_n hx hb dX5_writeFraction_22 rfl (lv_at hl 0 rfl) ?_
  refine g_X5_40 Cx hW (k := 157) (by decide) rfl (v := .ref (G.2.2.1 + 169)) (rf_157_6 iu_9) dX5_writeFraction_23 ?_
  refine lv_lconst (v := jv 1) hx hb dX5_writeFraction_26 (by decide) ?_
  refine sBv (sV (As := [.long (jv 1)]) (rest := []) (k := 169) Cx (s_X0_put l G u_9 (o := 169) (v := 1) iu_9 rfl (by omega)) (c_X5_160 Cx rfl rfl (rmk_ok (by omega) (by decide))) hW (by decide) rfl rfl rfl hl.1 rfl (Nat.le_of_ble_eq_true rfl) dX5_writeFraction_27 ⟨Nat.le_of_ble_eq_true rfl, Nat.le_of_ble_eq_true rfl⟩) hL (fun u_12 H locs k_13 hW hL => ?_)
  obtain ⟨iu_12, fu_12, xu_12⟩ := k_13
  have F_14 := F_11.trans (fu_12.to (pB_sub rfl rfl))
  refine lv_aload_n hx hb dX5_writeFraction_30 rfl (lv_at hl 0 rfl) ?_
  refine g_X5_34 Cx hW (k := 157) (by decide) rfl (v := .ref (G.2.2.1 + 165)) (rf_157_4 iu_12) dX5_writeFraction_31 ?_
  refine lv_aload_n hx hb dX5_writeFraction_34 rfl (lv_at hl 0 rfl) ?_
  refine g_X5_40 Cx hW (k := 157) (by decide) rfl (v := .ref (G.2.2.1 + 169)) (rf_157_6 iu_12) dX5_writeFraction_35 ?_
  refine sBi (sV (As := [.ref (G.2.2.1 + 169)]) (rest := []) (k := 165) Cx (s_X0_compareWith l G u_12 (o := 165) (a := 169) iu_12 rfl rfl) (c_X5_164 Cx rfl rfl (rmk_ok (by omega) (by decide))) hW (by decide) rfl rfl rfl hl.1 rfl (Nat.le_of_ble_eq_true rfl) dX5_writeFraction_38 ⟨Nat.le_of_ble_eq_true rfl, Nat.le_of_ble_eq_true rfl⟩) hL (fun r_17 u_15 H locs k_16 hW hL => ?_)
  obtain ⟨eu_15, xu_15⟩ := k_16
  rw [eu_15] at hW
  refine r_if_eq (tgt := 61) hx hb ⟨(by omega), (by omega)⟩ dX5_writeFraction_41 (by decide) (fun c_18 => ?_) (fun c_18 => ?_)
  · exact sVret Cx hr hlk hW hL ⟨iu_12, F_14⟩ dX5_writeFraction_61
  · refine lv_aload hx hb dX5_writeFraction_44 (lv_at hl 4 rfl) ?_
    refine lv_bipush (v := iv 47) hx hb dX5_writeFraction_46 (by decide) ?_
    have q_19 : 0 ≤ u_9.1 3 1 ∧ u_9.1 3 1 ≤ 120 := iu_9.fi 3 1 10 (by decide) rfl
    have lk_20 : u_12.1 3 1 = u_9.1 3 1 := (fu_12 3 rfl).1 1
    refine sBv (sV (As := [.int (iv 47)]) (rest := []) (k := 3) Cx (s_X10_put l G u_12 (o := 3) (k := 47) (N := 120) iu_12 ⟨by decide, rfl, rfl, rfl, rfl, by decide⟩ (by omega)) (c_X5_168 Cx rfl rfl (rmk_ok (by omega) (by decide))) hW (by decide) rfl rfl rfl hl.1 rfl (Nat.le_of_ble_eq_true rfl) dX5_writeFraction_48 ⟨Nat.le_of_ble_eq_true rfl, Nat.le_of_ble_eq_true rfl⟩) hL (fun u_21 H locs k_22 hW hL => ?_)
    obtain ⟨iu_21, fu_21, xu_21⟩ := k_22
    have F_23 := F_14.trans (fu_21.to (pB_sub rfl rfl))
    refine lv_aload hx hb dX5_writeFraction_51 (lv_at hl 4 rfl) ?_
    refine lv_aload_n hx hb dX5_writeFraction_53 rfl (lv_at hl 0 rfl) ?_
    refine g_X5_34 Cx hW (k := 157) (by decide) rfl (v := .ref (G.2.2.1 + 165)) (rf_157_4 iu_21) dX5_writeFraction_54 ?_
    refine lv_iconst (v := iv 0) hx hb dX5_writeFraction_57 (by decide) ?_
    refine sBv (sV (As := [.ref (G.2.2.1 + 165), .int (iv 0)]) (rest := []) (k := 3) Cx (s_X10_number l G u_21 (o := 3) (v := 165) (ap := 0) (N := 120) iu_21 ⟨by decide, rfl, rfl, rfl, rfl, by decide⟩ rfl (by omega)) (c_X5_99 Cx rfl rfl (rmk_ok (by omega) (by decide))) hW (by decide) rfl rfl rfl hl.1 rfl (Nat.le_of_ble_eq_true rfl) dX5_writeFraction_58 ⟨Nat.le_of_ble_eq_true rfl, Nat.le_of_ble_eq_true rfl⟩) hL (fun u_24 H locs k_25 hW hL => ?_)
    obtain ⟨iu_24, fu_24⟩ := k_25
    have F_26 := F_23.trans (fu_24.to (pB_sub rfl rfl))
    exact sVret Cx hr hlk hW hL ⟨iu_24, F_26⟩ dX5_writeFraction_61

set_option maxRecDepth 100000 in
set_option maxHeartbeats 4000000 in
theorem z_X7_rowNumber (l : Launch) (G : sG) (S : sS) {k j : Int} (hI : cX G S 0 0 0) (hk : -2147483648 ≤ k ∧ k ≤ 2147483647) (hj : -2147483648 ≤ j ∧ j ≤ 2147483647) : Met l yX7_rowNumber (.code yX7_rowNumber cX7_rowNumber 3 (some .long) :: tb) (rmk 4 0 0) (sPc G 294 S [.ref (G.2.2.1 + 119), .int (iv k), .int (iv j)]) (sQl G 294 (fun r u => cX G u 0 0 0 ∧ Fr S u pNz ∧ (-9223372036854775808 ≤ r ∧ r ≤ 9223372036854775807))) 0 0 (sF G) := by
  refine sEnter (by decide) (Nat.le_of_ble_eq_true rfl) ?_
  intro p e s m args below meth c Cx hr hlk hnm hW ls hl
  have Cx : sC G p m c cX7_rowNumber 3 s args RX7 := Cx
  obtain ⟨hx, hb, hml, hown, hts⟩ := id Cx.1
  have hL : sL G [] := sL_nil
  have hl : lv_has ls 3 [(0, .ref (G.2.2.1 + 119)), (1, .int (iv k)), (2, .int (iv j))] := hl
  have hW0 := hW
  refine lv_aload_n hx hb dX7_rowNumber_0 rfl (lv_at hl 0 rfl) ?_
  refine g_X7_12 Cx hW (k := 119) (by decide) rfl (v := .ref (G.2.2.1 + 120)) (rf_119_0 hI) dX7_rowNumber_1 ?_
  refine lv_iload_n hx hb dX7_rowNumber_4 rfl (lv_at hl 1 rfl) ?_
  refine lv_iload_n hx hb dX7_rowNumber_5 rfl (lv_at hl 2 rfl) ?_
  refine sBl (sV (As := [.int (iv k), .int (iv j)]) (rest := []) (k := 120) Cx (z_X6_lowBits_120 l G S (k := k) (j := j) hI (by omega) (by omega)) (c_X7_94 Cx rfl rfl (rmk_ok (by omega) (by decide))) hW (by decide) rfl rfl rfl hl.1 rfl (Nat.le_of_ble_eq_true rfl) dX7_rowNumber_6 ⟨Nat.le_of_ble_eq_true rfl, Nat.le_of_ble_eq_true rfl⟩) hL (fun r_3 u_1 H locs k_2 hW hL => ?_)
  obtain ⟨iu_1, fu_1, xu_1⟩ := k_2
  have F_4 := (Fr.rf : Fr S S pNz).trans fu_1
  exact sLret Cx hr hlk hW hL ⟨iu_1, F_4, (by omega)⟩ dX7_rowNumber_9

set_option maxRecDepth 100000 in
set_option maxHeartbeats 4000000 in
theorem z_X7_writeFraction (l : Launch) (G : sG) (S : sS) {j : Int} (hI : cX G S 0 0 0) (hj : -2147483648 ≤ j ∧ j ≤ 2147483647) : Met l yX7_writeFraction (.code yX7_writeFraction cX7_writeFraction 3 (some .boolean) :: tb) (rmk 8 0 0) (sPc G 294 S [.ref (G.2.2.1 + 119), .int (iv j), .ref (G.2.2.1 + 3)]) (sQi G 294 (fun r u => cX G u 0 0 0 ∧ Fr S u pNz ∧ (0 ≤ r ∧ r ≤ 1))) 0 0 (sF G) := by
  refine sEnter (by decide) (Nat.le_of_ble_eq_true rfl) ?_
  intro p e s m args below meth c Cx hr hlk hnm hW ls hl
  have Cx : sC G p m c cX7_writeFraction 3 s args RX7 := Cx
  obtain ⟨hx, hb, hml, hown, hts⟩ := id Cx.1
  have hL : sL G [] := sL_nil
  have hl : lv_has ls 3 [(0, .ref (G.2.2.1 + 119)), (1, .int (iv j)), (2, .ref (G.2.2.1 + 3))] := hl
  have hW0 := hW
  refine lv_iload_n hx hb dX7_writeFraction_0 rfl (lv_at hl 1 rfl) ?_
  refine lv_aload_n hx hb dX7_writeFraction_1 rfl (lv_at hl 0 rfl) ?_
  obtain ⟨o_1, mo_1, eo_1⟩ := hI.rm.2.2.1
  refine g_X7_51 Cx hW (k := 119) (by decide) rfl (v := .ref (G.2.2.1 + o_1)) eo_1 dX7_writeFraction_2 ?_
  have q_2 : 0 ≤ S.1 o_1 2 ∧ S.1 o_1 2 ≤ 12 := hI.fi o_1 2 3 (mdl_k mo_1) mo_1.1
  refine g_X7_110 Cx hW (k := o_1) (mdl_l mo_1) mo_1.1 (v := S.1 o_1 2) rfl dX7_writeFraction_5 ?_
  refine r_icmp_gt (tgt := 23) hx hb ⟨(by omega), (by omega)⟩ ⟨(by omega), (by omega)⟩ dX7_writeFraction_8 (by decide) (fun c_3 => ?_) (fun c_3 => ?_)
  · refine lv_iconst (v := iv 0) hx hb dX7_writeFraction_23 (by decide) ?_
    exact sZret Cx hr hlk hW hL (by omega) ⟨hI, (Fr.rf : Fr S S pNz), (by omega)⟩ dX7_writeFraction_24
  · refine lv_iload_n hx hb dX7_writeFraction_11 rfl (lv_at hl 1 rfl) ?_
    refine lv_aload_n hx hb dX7_writeFraction_12 rfl (lv_at hl 0 rfl) ?_
    refine g_X7_12 Cx hW (k := 119) (by decide) rfl (v := .ref (G.2.2.1 + 120)) (rf_119_0 hI) dX7_writeFraction_13 ?_
    have q_4 : 0 ≤ S.1 120 9 ∧ S.1 120 9 ≤ 40 := hI.fi 120 9 6 (by decide) rfl
    refine sBi (sV (As := []) (rest := [.int (iv j)]) (k := 120) Cx (s_X6_count_120 l G S  hI) (c_X7_98 Cx rfl rfl (rmk_ok (by omega) (by decide))) hW (by decide) rfl rfl rfl hl.1 rfl (Nat.le_of_ble_eq_true rfl) dX7_writeFraction_16 ⟨Nat.le_of_ble_eq_true rfl, Nat.le_of_ble_eq_true rfl⟩) hL (fun r_7 u_5 H locs k_6 hW hL => ?_)
    obtain ⟨eu_5, xu_5⟩ := k_6
    rw [eu_5] at hW
    refine r_ineg hx hb dX7_writeFraction_19 ?_
    refine r_icmp_ge (tgt := 25) hx hb ⟨(by omega), (by omega)⟩ ⟨(by omega), (by omega)⟩ dX7_writeFraction_20 (by decide) (fun c_8 => ?_) (fun c_8 => ?_)
    · refine lv_iload_n hx hb dX7_writeFraction_25 rfl (lv_at hl 1 rfl) ?_
      refine r_if_ge (tgt := 80) hx hb ⟨(by omega), (by omega)⟩ dX7_writeFraction_26 (by decide) (fun c_9 => ?_) (fun c_9 => ?_)
      · refine lv_aload_n hx hb dX7_writeFraction_80 rfl (lv_at hl 0 rfl) ?_
        have q_10 : (-2147483648) ≤ S.1 119 12 ∧ S.1 119 12 ≤ 2147483647 := hI.fi 119 12 7 (by decide) rfl
        refine g_X7_78 Cx hW (k := 119) (by decide) rfl (v := S.1 119 12) rfl dX7_writeFraction_81 ?_
        refine r_if_ne (tgt := 89) hx hb ⟨(by omega), (by omega)⟩ dX7_writeFraction_84 (by decide) (fun c_11 => ?_) (fun c_11 => ?_)
        · refine lv_aload_n hx hb dX7_writeFraction_89 rfl (lv_at hl 0 rfl) ?_
          refine g_X7_28 Cx hW (k := 119) (by decide) rfl (v := .ref (G.2.2.1 + 157)) (rf_119_2 hI) dX7_writeFraction_90 ?_
          refine lv_iload_n hx hb dX7_writeFraction_93 rfl (lv_at hl 1 rfl) ?_
          refine lv_aload_n hx hb dX7_writeFraction_94 rfl (lv_at hl 0 rfl) ?_
          refine g_X7_35 Cx hW (k := 119) (by decide) rfl (v := .ref (G.2.2.1 + 177)) (rf_119_3 hI) dX7_writeFraction_95 ?_
          refine sBv (sV (As := [.int (iv j), .ref (G.2.2.1 + 177)]) (rest := []) (k := 157) Cx (s_X5_pointNumber l G S (j := j) (v := 177) hI rfl (by omega)) (c_X7_125 Cx rfl rfl (rmk_ok (by omega) (by decide))) hW (by decide) rfl rfl rfl hl.1 rfl (Nat.le_of_ble_eq_true rfl) dX7_writeFraction_98 ⟨Nat.le_of_ble_eq_true rfl, Nat.le_of_ble_eq_true rfl⟩) hL (fun u_12 H locs k_13 hW hL => ?_)
          obtain ⟨iu_12, fu_12, xu_12⟩ := k_13
          have F_14 := (Fr.rf : Fr S S pNz).trans (fu_12.to (pB_sub rfl rfl))
          refine lv_aload_n hx hb dX7_writeFraction_101 rfl (lv_at hl 0 rfl) ?_
          refine g_X7_28 Cx hW (k := 119) (by decide) rfl (v := .ref (G.2.2.1 + 157)) (rf_119_2 iu_12) dX7_writeFraction_102 ?_
          refine lv_aload_n hx hb dX7_writeFraction_105 rfl (lv_at hl 0 rfl) ?_
          refine g_X7_39 Cx hW (k := 119) (by decide) rfl (v := .ref (G.2.2.1 + 179)) (rf_119_4 iu_12) dX7_writeFraction_106 ?_
          refine sBv (sV (As := [.ref (G.2.2.1 + 179)]) (rest := []) (k := 157) Cx (s_X5_pointDenominator l G u_12 (v := 179) iu_12 rfl) (c_X7_129 Cx rfl rfl (rmk_ok (by omega) (by decide))) hW (by decide) rfl rfl rfl hl.1 rfl (Nat.le_of_ble_eq_true rfl) dX7_writeFraction_109 ⟨Nat.le_of_ble_eq_true rfl, Nat.le_of_ble_eq_true rfl⟩) hL (fun u_15 H locs k_16 hW hL => ?_)
          obtain ⟨iu_15, fu_15, xu_15⟩ := k_16
          have F_17 := F_14.trans (fu_15.to (pB_sub rfl rfl))
          refine lv_aload_n hx hb dX7_writeFraction_112 rfl (lv_at hl 0 rfl) ?_
          refine g_X7_28 Cx hW (k := 119) (by decide) rfl (v := .ref (G.2.2.1 + 157)) (rf_119_2 iu_15) dX7_writeFraction_113 ?_
          refine lv_aload_n hx hb dX7_writeFraction_116 rfl (lv_at hl 0 rfl) ?_
          refine g_X7_35 Cx hW (k := 119) (by decide) rfl (v := .ref (G.2.2.1 + 177)) (rf_119_3 iu_15) dX7_writeFraction_117 ?_
          refine lv_aload_n hx hb dX7_writeFraction_120 rfl (lv_at hl 0 rfl) ?_
          refine g_X7_39 Cx hW (k := 119) (by decide) rfl (v := .ref (G.2.2.1 + 179)) (rf_119_4 iu_15) dX7_writeFraction_121 ?_
          have join_143 : ∀ (tn : Int) (H : Heap) (locs : List Loc) (ls : Array Slot), (0 ≤ tn ∧ tn ≤ 1) → sW G 294 u_15 H → sL G locs → lv_has ls 3 [(0, .ref (G.2.2.1 + 119)), (1, .int (iv j)), (2, .ref (G.2.2.1 + 3))] → W p l e (rmk 8 0 0) s m args below meth c H locs 0 0 (MQ below (sQi G 294 (fun r u => cX G u 0 0 0 ∧ Fr S u pNz ∧ (0 ≤ r ∧ r ≤ 1))) args s 0 0 (sF G)) (F0 m 143 ls [.int (iv tn), .ref (G.2.2.1 + 179), .ref (G.2.2.1 + 177), .ref (G.2.2.1 + 157)]) := by
            intro tn H locs ls htn hW hL hl
            refine lv_aload_n hx hb dX7_writeFraction_143 rfl (lv_at hl 2 rfl) ?_
            have q_18 : 0 ≤ u_12.1 177 1 ∧ u_12.1 177 1 ≤ 32 := iu_12.fi 177 1 0 (by decide) rfl
            have lk_19 : u_15.1 177 1 = u_12.1 177 1 := (fu_15 177 rfl).1 1
            have q_20 : 0 ≤ u_15.1 179 1 ∧ u_15.1 179 1 ≤ 32 := iu_15.fi 179 1 0 (by decide) rfl
            refine sBv (sV (As := [.ref (G.2.2.1 + 177), .ref (G.2.2.1 + 179), .int (iv tn), .ref (G.2.2.1 + 3)]) (rest := []) (k := 157) Cx (z_X5_writeFraction l G u_15 (tn := tn) iu_15 (by omega) (by omega)) (c_X7_121 Cx rfl rfl (rmk_ok (by omega) (by decide))) hW (by decide) rfl rfl rfl hl.1 rfl (Nat.le_of_ble_eq_true rfl) dX7_writeFraction_144 ⟨Nat.le_of_ble_eq_true rfl, Nat.le_of_ble_eq_true rfl⟩) hL (fun u_21 H locs k_22 hW hL => ?_)
            obtain ⟨iu_21, fu_21⟩ := k_22
            have F_23 := F_17.trans fu_21
            refine lv_iconst (v := iv 1) hx hb dX7_writeFraction_147 (by decide) ?_
            exact sZret Cx hr hlk hW hL (by omega) ⟨iu_21, F_23, (by omega)⟩ dX7_writeFraction_148
          refine lv_iload_n hx hb dX7_writeFraction_124 rfl (lv_at hl 1 rfl) ?_
          refine r_if_ne (tgt := 142) hx hb ⟨(by omega), (by omega)⟩ dX7_writeFraction_125 (by decide) (fun c_24 => ?_) (fun c_24 => ?_)
          · refine lv_iconst (v := iv 0) hx hb dX7_writeFraction_142 (by decide) ?_
            exact join_143 0 _ _ _ (by omega) hW hL (lv_sub hl [0, 1, 2] rfl)
          · refine lv_aload_n hx hb dX7_writeFraction_128 rfl (lv_at hl 0 rfl) ?_
            refine g_X7_51 Cx hW (k := 119) (by decide) rfl (v := .ref (G.2.2.1 + o_1)) ((((fu_15 119 rfl).2.2.2 7).trans ((fu_12 119 rfl).2.2.2 7)).trans eo_1) dX7_writeFraction_129 ?_
            have q_25 : 0 ≤ S.1 o_1 4 ∧ S.1 o_1 4 ≤ 1 := hI.fi o_1 4 3 (mdl_k mo_1) mo_1.1
            refine g_X7_132 Cx hW (k := o_1) (mdl_l mo_1) mo_1.1 (v := S.1 o_1 4) (((fu_15 o_1 (pB_no (tau_ne mo_1.1 (rfl : tau 179 = .inl 0) (fun h => by cases h)) (tau_ne mo_1.1 (rfl : tau 180 = .inr (.int, 32)) (fun h => by cases h)))).1 4).trans ((fu_12 o_1 (pB_no (tau_ne mo_1.1 (rfl : tau 177 = .inl 0) (fun h => by cases h)) (tau_ne mo_1.1 (rfl : tau 178 = .inr (.int, 32)) (fun h => by cases h)))).1 4)) dX7_writeFraction_132 ?_
            refine r_if_ne (tgt := 142) hx hb ⟨(by omega), (by omega)⟩ dX7_writeFraction_135 (by decide) (fun c_26 => ?_) (fun c_26 => ?_)
            · refine lv_iconst (v := iv 0) hx hb dX7_writeFraction_142 (by decide) ?_
              exact join_143 0 _ _ _ (by omega) hW hL (lv_sub hl [0, 1, 2] rfl)
            · refine lv_iconst (v := iv 1) hx hb dX7_writeFraction_138 (by decide) ?_
              refine lv_goto (tgt := 143) hx hb dX7_writeFraction_139 (by decide) ?_
              exact join_143 1 _ _ _ (by omega) hW hL (lv_sub hl [0, 1, 2] rfl)
        · refine lv_iconst (v := iv 0) hx hb dX7_writeFraction_87 (by decide) ?_
          exact sZret Cx hr hlk hW hL (by omega) ⟨hI, (Fr.rf : Fr S S pNz), (by omega)⟩ dX7_writeFraction_88
      · refine lv_aload_n hx hb dX7_writeFraction_29 rfl (lv_at hl 0 rfl) ?_
        refine g_X7_21 Cx hW (k := 119) (by decide) rfl (v := .ref (G.2.2.1 + 135)) (rf_119_1 hI) dX7_writeFraction_30 ?_
        refine lv_iconst (v := iv 0) hx hb dX7_writeFraction_33 (by decide) ?_
        refine lv_aload_n hx hb dX7_writeFraction_34 rfl (lv_at hl 0 rfl) ?_
        refine g_X7_51 Cx hW (k := 119) (by decide) rfl (v := .ref (G.2.2.1 + o_1)) eo_1 dX7_writeFraction_35 ?_
        refine g_X7_110 Cx hW (k := o_1) (mdl_l mo_1) mo_1.1 (v := S.1 o_1 2) rfl dX7_writeFraction_38 ?_
        refine lv_iload_n hx hb dX7_writeFraction_41 rfl (lv_at hl 1 rfl) ?_
        refine r_isub hx hb dX7_writeFraction_42 ?_
        refine lv_aload_n hx hb dX7_writeFraction_43 rfl (lv_at hl 0 rfl) ?_
        refine g_X7_35 Cx hW (k := 119) (by decide) rfl (v := .ref (G.2.2.1 + 177)) (rf_119_3 hI) dX7_writeFraction_44 ?_
        refine sBv (sV (As := [.int (iv 0), .int (iv ((S.1 o_1 2) - j)), .ref (G.2.2.1 + 177)]) (rest := []) (k := 135) Cx (s_X2_multiplier l G S (i := 0) (k := (S.1 o_1 2) - j) (v := 177) hI rfl (by omega) (by omega)) (c_X7_113 Cx rfl rfl (rmk_ok (by omega) (by decide))) hW (by decide) rfl rfl rfl hl.1 rfl (Nat.le_of_ble_eq_true rfl) dX7_writeFraction_47 ⟨Nat.le_of_ble_eq_true rfl, Nat.le_of_ble_eq_true rfl⟩) hL (fun u_27 H locs k_28 hW hL => ?_)
        obtain ⟨iu_27, fu_27, xu_27⟩ := k_28
        have F_29 := (Fr.rf : Fr S S pNz).trans (fu_27.to (pB_sub rfl rfl))
        refine lv_aload_n hx hb dX7_writeFraction_50 rfl (lv_at hl 0 rfl) ?_
        refine g_X7_21 Cx hW (k := 119) (by decide) rfl (v := .ref (G.2.2.1 + 135)) (rf_119_1 iu_27) dX7_writeFraction_51 ?_
        refine lv_aload_n hx hb dX7_writeFraction_54 rfl (lv_at hl 0 rfl) ?_
        refine g_X7_39 Cx hW (k := 119) (by decide) rfl (v := .ref (G.2.2.1 + 179)) (rf_119_4 iu_27) dX7_writeFraction_55 ?_
        refine sBv (sV (As := [.ref (G.2.2.1 + 179)]) (rest := []) (k := 135) Cx (s_X2_denominator l G u_27 (v := 179) iu_27 rfl) (c_X7_117 Cx rfl rfl (rmk_ok (by omega) (by decide))) hW (by decide) rfl rfl rfl hl.1 rfl (Nat.le_of_ble_eq_true rfl) dX7_writeFraction_58 ⟨Nat.le_of_ble_eq_true rfl, Nat.le_of_ble_eq_true rfl⟩) hL (fun u_30 H locs k_31 hW hL => ?_)
        obtain ⟨iu_30, fu_30, xu_30⟩ := k_31
        have F_32 := F_29.trans (fu_30.to (pB_sub rfl rfl))
        refine lv_aload_n hx hb dX7_writeFraction_61 rfl (lv_at hl 0 rfl) ?_
        refine g_X7_28 Cx hW (k := 119) (by decide) rfl (v := .ref (G.2.2.1 + 157)) (rf_119_2 iu_30) dX7_writeFraction_62 ?_
        refine lv_aload_n hx hb dX7_writeFraction_65 rfl (lv_at hl 0 rfl) ?_
        refine g_X7_35 Cx hW (k := 119) (by decide) rfl (v := .ref (G.2.2.1 + 177)) (rf_119_3 iu_30) dX7_writeFraction_66 ?_
        refine lv_aload_n hx hb dX7_writeFraction_69 rfl (lv_at hl 0 rfl) ?_
        refine g_X7_39 Cx hW (k := 119) (by decide) rfl (v := .ref (G.2.2.1 + 179)) (rf_119_4 iu_30) dX7_writeFraction_70 ?_
        refine lv_iconst (v := iv 0) hx hb dX7_writeFraction_73 (by decide) ?_
        refine lv_aload_n hx hb dX7_writeFraction_74 rfl (lv_at hl 2 rfl) ?_
        have q_33 : 0 ≤ u_27.1 177 1 ∧ u_27.1 177 1 ≤ 32 := iu_27.fi 177 1 0 (by decide) rfl
        have lk_34 : u_30.1 177 1 = u_27.1 177 1 := (fu_30 177 rfl).1 1
        have q_35 : 0 ≤ u_30.1 179 1 ∧ u_30.1 179 1 ≤ 32 := iu_30.fi 179 1 0 (by decide) rfl
        refine sBv (sV (As := [.ref (G.2.2.1 + 177), .ref (G.2.2.1 + 179), .int (iv 0), .ref (G.2.2.1 + 3)]) (rest := []) (k := 157) Cx (z_X5_writeFraction l G u_30 (tn := 0) iu_30 (by omega) (by omega)) (c_X7_121 Cx rfl rfl (rmk_ok (by omega) (by decide))) hW (by decide) rfl rfl rfl hl.1 rfl (Nat.le_of_ble_eq_true rfl) dX7_writeFraction_75 ⟨Nat.le_of_ble_eq_true rfl, Nat.le_of_ble_eq_true rfl⟩) hL (fun u_36 H locs k_37 hW hL => ?_)
        obtain ⟨iu_36, fu_36⟩ := k_37
        have F_38 := F_32.trans fu_36
        refine lv_iconst (v := iv 1) hx hb dX7_writeFraction_78 (by decide) ?_
        exact sZret Cx hr hlk hW hL (by omega) ⟨iu_36, F_38, (by omega)⟩ dX7_writeFraction_79
    · refine lv_iconst (v := iv 0) hx hb dX7_writeFraction_23 (by decide) ?_
      exact sZret Cx hr hlk hW hL (by omega) ⟨hI, (Fr.rf : Fr S S pNz), (by omega)⟩ dX7_writeFraction_24

set_option maxRecDepth 100000 in
set_option maxHeartbeats 4000000 in
theorem z_X1_isFarkas (l : Launch) (G : sG) (S : sS)  (hI : cX G S 0 0 0) : Met l yX1_isFarkas (.code yX1_isFarkas cX1_isFarkas 2 (some .boolean) :: tb) (rmk 5 0 0) (sPc G 294 S [.ref (G.2.2.1 + 188)]) (sQi G 294 (fun r u => cX G u 0 0 0 ∧ Fr S u pEy ∧ (0 ≤ r ∧ r ≤ 1))) 0 0 (sF G) := by
  refine sEnter (by decide) (Nat.le_of_ble_eq_true rfl) ?_
  intro p e s m args below meth c Cx hr hlk hnm hW ls hl
  have Cx : sC G p m c cX1_isFarkas 2 s args RX1 := Cx
  obtain ⟨hx, hb, hml, hown, hts⟩ := id Cx.1
  have hL : sL G [] := sL_nil
  have hl : lv_has ls 2 [(0, .ref (G.2.2.1 + 188))] := hl
  have hW0 := hW
  refine lv_iconst (v := iv 1) hx hb dX1_isFarkas_0 (by decide) ?_
  refine lv_istore_n (lv' := [(1, .int (iv 1)), (0, .ref (G.2.2.1 + 188))]) hx hb dX1_isFarkas_1 rfl hl (by decide) rfl (fun ls hl => ?_)
  have loop_2 : ∀ (fuel : Nat) (S2 : sS) (j : Int) (H : Heap) (locs : List Loc) (ls : Array Slot), (13 - j).toNat < fuel → (cX G S2 0 0 0) → (Fr S S2 pEy) → (Fr S S2 pEy) → (1 ≤ j ∧ j ≤ 13) → sW G 294 S2 H → sL G locs → lv_has ls 2 [(1, .int (iv j)), (0, .ref (G.2.2.1 + 188))] → W p l e (rmk 5 0 0) s m args below meth c H locs 0 0 (MQ below (sQi G 294 (fun r u => cX G u 0 0 0 ∧ Fr S u pEy ∧ (0 ≤ r ∧ r ≤ 1))) args s 0 0 (sF G)) (F0 m 2 ls []) := by
    intro fuel
    induction fuel with
    | zero => intro S2 j H locs ls hmeas hI2 hFm2 hL2_ hj hW hL hl; exact absurd hmeas (Nat.not_lt_zero _)
    | succ fuel ih_2 =>
      intro S2 j H locs ls hmeas hI2 hFm2 hL2_ hj hW hL hl
      refine lv_iload_n hx hb dX1_isFarkas_2 rfl (lv_at hl 0 rfl) ?_
      refine lv_aload_n hx hb dX1_isFarkas_3 rfl (lv_at hl 1 rfl) ?_
      obtain ⟨o_1, mo_1, eo_1⟩ := hI.rm.2.2.2.1
      refine g_X1_69 Cx hW (k := 188) (by decide) rfl (v := .ref (G.2.2.1 + o_1)) (((hL2_ 188 rfl).2.2.2 15).trans eo_1) dX1_isFarkas_4 ?_
      have q_2 : 0 ≤ S2.1 o_1 2 ∧ S2.1 o_1 2 ≤ 12 := hI2.fi o_1 2 3 (mdl_k mo_1) mo_1.1
      refine g_X1_84 Cx hW (k := o_1) (mdl_l mo_1) mo_1.1 (v := S2.1 o_1 2) rfl dX1_isFarkas_7 ?_
      refine r_icmp_gt (tgt := 43) hx hb ⟨(by omega), (by omega)⟩ ⟨(by omega), (by omega)⟩ dX1_isFarkas_10 (by decide) (fun c_3 => ?_) (fun c_3 => ?_)
      · refine lv_aload_n hx hb dX1_isFarkas_43 rfl (lv_at hl 1 rfl) ?_
        refine g_X1_21 Cx hW (k := 188) (by decide) rfl (v := .ref (G.2.2.1 + 193)) (rf_188_1 hI2) dX1_isFarkas_44 ?_
        refine lv_iconst (v := iv 0) hx hb dX1_isFarkas_47 (by decide) ?_
        refine lv_aload_n hx hb dX1_isFarkas_48 rfl (lv_at hl 1 rfl) ?_
        refine g_X1_42 Cx hW (k := 188) (by decide) rfl (v := .ref (G.2.2.1 + 215)) (rf_188_6 hI2) dX1_isFarkas_49 ?_
        refine sBv (sV (As := [.int (iv 0), .ref (G.2.2.1 + 215)]) (rest := []) (k := 193) Cx (s_X6_combine_193_215 l G S2 (j := 0) hI2 (by omega)) (c_X1_242 Cx rfl rfl (rmk_ok (by omega) (by decide))) hW (by decide) rfl rfl rfl hl.1 rfl (Nat.le_of_ble_eq_true rfl) dX1_isFarkas_52 ⟨Nat.le_of_ble_eq_true rfl, Nat.le_of_ble_eq_true rfl⟩) hL (fun u_4 H locs k_5 hW hL => ?_)
        obtain ⟨iu_4, fu_4, xu_4⟩ := k_5
        have F_6 := hFm2.trans (fu_4.to (pK_sub rgEy_193 rfl rfl))
        have F_7 := hL2_.trans (fu_4.to (pK_sub rgEy_193 rfl rfl))
        refine lv_aload_n hx hb dX1_isFarkas_55 rfl (lv_at hl 1 rfl) ?_
        refine g_X1_42 Cx hW (k := 188) (by decide) rfl (v := .ref (G.2.2.1 + 215)) (rf_188_6 iu_4) dX1_isFarkas_56 ?_
        have q_8 : (-1) ≤ u_4.1 215 2 ∧ u_4.1 215 2 ≤ 1 := iu_4.fi 215 2 0 (by decide) rfl
        refine g_X1_181 Cx hW (k := 215) (by decide) rfl (v := u_4.1 215 2) rfl dX1_isFarkas_59 ?_
        refine r_if_ge (tgt := 69) hx hb ⟨(by omega), (by omega)⟩ dX1_isFarkas_62 (by decide) (fun c_9 => ?_) (fun c_9 => ?_)
        · refine lv_iconst (v := iv 0) hx hb dX1_isFarkas_69 (by decide) ?_
          exact sZret Cx hr hlk hW hL (by omega) ⟨iu_4, F_6, (by omega)⟩ dX1_isFarkas_70
        · refine lv_iconst (v := iv 1) hx hb dX1_isFarkas_65 (by decide) ?_
          refine lv_goto (tgt := 70) hx hb dX1_isFarkas_66 (by decide) ?_
          exact sZret Cx hr hlk hW hL (by omega) ⟨iu_4, F_6, (by omega)⟩ dX1_isFarkas_70
      · refine lv_aload_n hx hb dX1_isFarkas_13 rfl (lv_at hl 1 rfl) ?_
        refine g_X1_21 Cx hW (k := 188) (by decide) rfl (v := .ref (G.2.2.1 + 193)) (rf_188_1 hI2) dX1_isFarkas_14 ?_
        refine lv_iload_n hx hb dX1_isFarkas_17 rfl (lv_at hl 0 rfl) ?_
        refine lv_aload_n hx hb dX1_isFarkas_18 rfl (lv_at hl 1 rfl) ?_
        refine g_X1_42 Cx hW (k := 188) (by decide) rfl (v := .ref (G.2.2.1 + 215)) (rf_188_6 hI2) dX1_isFarkas_19 ?_
        refine sBv (sV (As := [.int (iv j), .ref (G.2.2.1 + 215)]) (rest := []) (k := 193) Cx (s_X6_combine_193_215 l G S2 (j := j) hI2 (by omega)) (c_X1_242 Cx rfl rfl (rmk_ok (by omega) (by decide))) hW (by decide) rfl rfl rfl hl.1 rfl (Nat.le_of_ble_eq_true rfl) dX1_isFarkas_22 ⟨Nat.le_of_ble_eq_true rfl, Nat.le_of_ble_eq_true rfl⟩) hL (fun u_10 H locs k_11 hW hL => ?_)
        obtain ⟨iu_10, fu_10, xu_10⟩ := k_11
        have F_12 := hFm2.trans (fu_10.to (pK_sub rgEy_193 rfl rfl))
        have F_13 := hL2_.trans (fu_10.to (pK_sub rgEy_193 rfl rfl))
        refine lv_aload_n hx hb dX1_isFarkas_25 rfl (lv_at hl 1 rfl) ?_
        refine g_X1_42 Cx hW (k := 188) (by decide) rfl (v := .ref (G.2.2.1 + 215)) (rf_188_6 iu_10) dX1_isFarkas_26 ?_
        have q_14 : (-1) ≤ u_10.1 215 2 ∧ u_10.1 215 2 ≤ 1 := iu_10.fi 215 2 0 (by decide) rfl
        refine g_X1_181 Cx hW (k := 215) (by decide) rfl (v := u_10.1 215 2) rfl dX1_isFarkas_29 ?_
        refine r_if_ge (tgt := 37) hx hb ⟨(by omega), (by omega)⟩ dX1_isFarkas_32 (by decide) (fun c_15 => ?_) (fun c_15 => ?_)
        · refine lv_iinc (v := iv (j + 1)) (lv' := [(1, .int (iv (j + 1))), (0, .ref (G.2.2.1 + 188))]) hx hb dX1_isFarkas_37 hl (k := 0) rfl ((Int32.ofInt_add _ _).symm) (by decide) rfl (fun ls hl => ?_)
          refine lv_goto (tgt := 2) hx hb dX1_isFarkas_40 (by decide) ?_
          exact ih_2 u_10 (j + 1) _ _ _ (by omega) iu_10 F_12 F_13 (by omega) hW hL (lv_sub hl [0, 1] rfl)
        · refine lv_iconst (v := iv 0) hx hb dX1_isFarkas_35 (by decide) ?_
          exact sZret Cx hr hlk hW hL (by omega) ⟨iu_10, F_12, (by omega)⟩ dX1_isFarkas_36
  exact loop_2 (_ + 1) S 1 _ _ _ (Nat.lt_succ_self _) hI (Fr.rf : Fr S S pEy) Fr.rf (by omega) hW hL (lv_sub hl [0, 1] rfl)

set_option maxRecDepth 100000 in
set_option maxHeartbeats 4000000 in
theorem z_X1_isBound (l : Launch) (G : sG) (S : sS)  (hI : cX G S 0 0 0) (hq : S.1 213 1 ≤ 7) : Met l yX1_isBound (.code yX1_isBound cX1_isBound 2 (some .boolean) :: tb) (rmk 5 0 0) (sPc G 294 S [.ref (G.2.2.1 + 188)]) (sQi G 294 (fun r u => cX G u 0 0 0 ∧ Fr S u pEy ∧ (0 ≤ r ∧ r ≤ 1))) 0 0 (sF G) := by
  refine sEnter (by decide) (Nat.le_of_ble_eq_true rfl) ?_
  intro p e s m args below meth c Cx hr hlk hnm hW ls hl
  have Cx : sC G p m c cX1_isBound 2 s args RX1 := Cx
  obtain ⟨hx, hb, hml, hown, hts⟩ := id Cx.1
  have hL : sL G [] := sL_nil
  have hl : lv_has ls 2 [(0, .ref (G.2.2.1 + 188))] := hl
  have hW0 := hW
  refine lv_iconst (v := iv 1) hx hb dX1_isBound_0 (by decide) ?_
  refine lv_istore_n (lv' := [(1, .int (iv 1)), (0, .ref (G.2.2.1 + 188))]) hx hb dX1_isBound_1 rfl hl (by decide) rfl (fun ls hl => ?_)
  have loop_2 : ∀ (fuel : Nat) (S2 : sS) (j : Int) (H : Heap) (locs : List Loc) (ls : Array Slot), (13 - j).toNat < fuel → (cX G S2 0 0 0) → (Fr S S2 pEy) → (Fr S S2 pEy) → (1 ≤ j ∧ j ≤ 13) → (S2.1 213 1 ≤ 7) → sW G 294 S2 H → sL G locs → lv_has ls 2 [(1, .int (iv j)), (0, .ref (G.2.2.1 + 188))] → W p l e (rmk 5 0 0) s m args below meth c H locs 0 0 (MQ below (sQi G 294 (fun r u => cX G u 0 0 0 ∧ Fr S u pEy ∧ (0 ≤ r ∧ r ≤ 1))) args s 0 0 (sF G)) (F0 m 2 ls []) := by
    intro fuel
    induction fuel with
    | zero => intro S2 j H locs ls hmeas hI2 hFm2 hL2_ hj hq2 hW hL hl; exact absurd hmeas (Nat.not_lt_zero _)
    | succ fuel ih_2 =>
      intro S2 j H locs ls hmeas hI2 hFm2 hL2_ hj hq2 hW hL hl
      refine lv_iload_n hx hb dX1_isBound_2 rfl (lv_at hl 0 rfl) ?_
      refine lv_aload_n hx hb dX1_isBound_3 rfl (lv_at hl 1 rfl) ?_
      obtain ⟨o_1, mo_1, eo_1⟩ := hI.rm.2.2.2.1
      refine g_X1_69 Cx hW (k := 188) (by decide) rfl (v := .ref (G.2.2.1 + o_1)) (((hL2_ 188 rfl).2.2.2 15).trans eo_1) dX1_isBound_4 ?_
      have q_2 : 0 ≤ S2.1 o_1 2 ∧ S2.1 o_1 2 ≤ 12 := hI2.fi o_1 2 3 (mdl_k mo_1) mo_1.1
      refine g_X1_84 Cx hW (k := o_1) (mdl_l mo_1) mo_1.1 (v := S2.1 o_1 2) rfl dX1_isBound_7 ?_
      refine r_icmp_gt (tgt := 75) hx hb ⟨(by omega), (by omega)⟩ ⟨(by omega), (by omega)⟩ dX1_isBound_10 (by decide) (fun c_3 => ?_) (fun c_3 => ?_)
      · refine lv_aload_n hx hb dX1_isBound_75 rfl (lv_at hl 1 rfl) ?_
        refine g_X1_21 Cx hW (k := 188) (by decide) rfl (v := .ref (G.2.2.1 + 193)) (rf_188_1 hI2) dX1_isBound_76 ?_
        refine lv_iconst (v := iv 0) hx hb dX1_isBound_79 (by decide) ?_
        refine lv_aload_n hx hb dX1_isBound_80 rfl (lv_at hl 1 rfl) ?_
        refine g_X1_42 Cx hW (k := 188) (by decide) rfl (v := .ref (G.2.2.1 + 215)) (rf_188_6 hI2) dX1_isBound_81 ?_
        refine sBv (sV (As := [.int (iv 0), .ref (G.2.2.1 + 215)]) (rest := []) (k := 193) Cx (s_X6_combine_193_215 l G S2 (j := 0) hI2 (by omega)) (c_X1_242 Cx rfl rfl (rmk_ok (by omega) (by decide))) hW (by decide) rfl rfl rfl hl.1 rfl (Nat.le_of_ble_eq_true rfl) dX1_isBound_84 ⟨Nat.le_of_ble_eq_true rfl, Nat.le_of_ble_eq_true rfl⟩) hL (fun u_4 H locs k_5 hW hL => ?_)
        obtain ⟨iu_4, fu_4, xu_4⟩ := k_5
        have F_6 := hFm2.trans (fu_4.to (pK_sub rgEy_193 rfl rfl))
        have F_7 := hL2_.trans (fu_4.to (pK_sub rgEy_193 rfl rfl))
        refine lv_aload_n hx hb dX1_isBound_87 rfl (lv_at hl 1 rfl) ?_
        refine g_X1_21 Cx hW (k := 188) (by decide) rfl (v := .ref (G.2.2.1 + 193)) (rf_188_1 iu_4) dX1_isBound_88 ?_
        refine lv_iconst (v := iv 0) hx hb dX1_isBound_91 (by decide) ?_
        refine lv_iconst (v := iv 0) hx hb dX1_isBound_92 (by decide) ?_
        refine lv_aload_n hx hb dX1_isBound_93 rfl (lv_at hl 1 rfl) ?_
        refine g_X1_45 Cx hW (k := 188) (by decide) rfl (v := .ref (G.2.2.1 + 217)) (rf_188_7 iu_4) dX1_isBound_94 ?_
        refine sBv (sV (As := [.int (iv 0), .int (iv 0), .ref (G.2.2.1 + 217)]) (rest := []) (k := 193) Cx (s_X6_number_193 l G u_4 (k := 0) (j := 0) (v := 217) iu_4 rfl (by omega) (by omega)) (c_X1_160 Cx rfl rfl (rmk_ok (by omega) (by decide))) hW (by decide) rfl rfl rfl hl.1 rfl (Nat.le_of_ble_eq_true rfl) dX1_isBound_97 ⟨Nat.le_of_ble_eq_true rfl, Nat.le_of_ble_eq_true rfl⟩) hL (fun u_8 H locs k_9 hW hL => ?_)
        obtain ⟨iu_8, fu_8, xu_8⟩ := k_9
        have F_10 := F_6.trans (fu_8.to (pB_sub rfl rfl))
        have F_11 := F_7.trans (fu_8.to (pB_sub rfl rfl))
        refine lv_aload_n hx hb dX1_isBound_100 rfl (lv_at hl 1 rfl) ?_
        refine g_X1_51 Cx hW (k := 188) (by decide) rfl (v := .ref (G.2.2.1 + 221)) (rf_188_9 iu_8) dX1_isBound_101 ?_
        refine lv_aload_n hx hb dX1_isBound_104 rfl (lv_at hl 1 rfl) ?_
        refine g_X1_39 Cx hW (k := 188) (by decide) rfl (v := .ref (G.2.2.1 + 213)) (rf_188_5 iu_8) dX1_isBound_105 ?_
        refine lv_aload_n hx hb dX1_isBound_108 rfl (lv_at hl 1 rfl) ?_
        refine g_X1_45 Cx hW (k := 188) (by decide) rfl (v := .ref (G.2.2.1 + 217)) (rf_188_7 iu_8) dX1_isBound_109 ?_
        have q_12 : 0 ≤ S2.1 213 1 ∧ S2.1 213 1 ≤ 32 := hI2.fi 213 1 0 (by decide) rfl
        have lk_13 : u_8.1 213 1 = S2.1 213 1 := ((fu_8 213 rfl).1 1).trans ((fu_4 213 rfl).1 1)
        have q_14 : 0 ≤ u_8.1 217 1 ∧ u_8.1 217 1 ≤ 32 := iu_8.fi 217 1 0 (by decide) rfl
        refine sBv (sV (As := [.ref (G.2.2.1 + 213), .ref (G.2.2.1 + 217)]) (rest := []) (k := 221) Cx (s_X0_product l G u_8 (o := 221) (a := 213) (b := 217) iu_8 rfl rfl rfl (show (221 : Nat) ≠ 213 by decide) (show (221 : Nat) ≠ 217 by decide)) (c_X1_163 Cx rfl rfl (rmk_ok (by omega) (by decide))) hW (by decide) rfl rfl rfl hl.1 rfl (Nat.le_of_ble_eq_true rfl) dX1_isBound_112 ⟨Nat.le_of_ble_eq_true rfl, Nat.le_of_ble_eq_true rfl⟩) hL (fun u_15 H locs k_16 hW hL => ?_)
        obtain ⟨iu_15, fu_15, xu_15⟩ := k_16
        have F_17 := F_10.trans (fu_15.to (pB_sub rfl rfl))
        have F_18 := F_11.trans (fu_15.to (pB_sub rfl rfl))
        refine lv_aload_n hx hb dX1_isBound_115 rfl (lv_at hl 1 rfl) ?_
        refine g_X1_42 Cx hW (k := 188) (by decide) rfl (v := .ref (G.2.2.1 + 215)) (rf_188_6 iu_15) dX1_isBound_116 ?_
        refine lv_aload_n hx hb dX1_isBound_119 rfl (lv_at hl 1 rfl) ?_
        refine g_X1_51 Cx hW (k := 188) (by decide) rfl (v := .ref (G.2.2.1 + 221)) (rf_188_9 iu_15) dX1_isBound_120 ?_
        refine lv_iconst (v := iv 1) hx hb dX1_isBound_123 (by decide) ?_
        have q_19 : 0 ≤ u_15.1 221 1 ∧ u_15.1 221 1 ≤ 32 := iu_15.fi 221 1 0 (by decide) rfl
        have q_20 : 0 ≤ u_4.1 215 1 ∧ u_4.1 215 1 ≤ 32 := iu_4.fi 215 1 0 (by decide) rfl
        have lk_21 : u_15.1 215 1 = u_4.1 215 1 := ((fu_15 215 rfl).1 1).trans ((fu_8 215 rfl).1 1)
        have q_22 : (-1) ≤ u_4.1 215 2 ∧ u_4.1 215 2 ≤ 1 := iu_4.fi 215 2 0 (by decide) rfl
        have lk_23 : u_15.1 215 2 = u_4.1 215 2 := ((fu_15 215 rfl).1 2).trans ((fu_8 215 rfl).1 2)
        have q_24 : (-1) ≤ u_15.1 221 2 ∧ u_15.1 221 2 ≤ 1 := iu_15.fi 221 2 0 (by decide) rfl
        refine sBv (sV (As := [.ref (G.2.2.1 + 221), .int (iv 1)]) (rest := []) (k := 215) Cx (t_X0_add_p l G u_15 (o := 215) (a := 221) (n := 14) (t := 40) iu_15 rfl rfl (show (215 : Nat) ≠ 221 by decide) (by omega) (fun q => by have e : u_15.2.1 216 14 = u_4.2.1 216 14 := ((fu_15 216 rfl).2.1 14).trans ((fu_8 216 rfl).2.1 14); rw [e]; exact xu_4.2 (by omega))) (c_X1_166 Cx rfl rfl (rmk_ok (by omega) (by decide))) hW (by decide) rfl rfl rfl hl.1 rfl (Nat.le_of_ble_eq_true rfl) dX1_isBound_124 ⟨Nat.le_of_ble_eq_true rfl, Nat.le_of_ble_eq_true rfl⟩) hL (fun u_25 H locs k_26 hW hL => ?_)
        obtain ⟨iu_25, fu_25, xu_25⟩ := k_26
        have F_27 := F_17.trans (fu_25.to (pB_sub rfl rfl))
        have F_28 := F_18.trans (fu_25.to (pB_sub rfl rfl))
        refine lv_aload_n hx hb dX1_isBound_127 rfl (lv_at hl 1 rfl) ?_
        refine g_X1_69 Cx hW (k := 188) (by decide) rfl (v := .ref (G.2.2.1 + o_1)) ((((fu_25 188 rfl).2.2.2 15).trans (((fu_15 188 rfl).2.2.2 15).trans (((fu_8 188 rfl).2.2.2 15).trans (((fu_4 188 rfl).2.2.2 15).trans ((hL2_ 188 rfl).2.2.2 15))))).trans eo_1) dX1_isBound_128 ?_
        refine sBi (sV (As := []) (rest := []) (k := o_1) Cx (s_X3_isGoalWhole l G u_25 (o := o_1) iu_25 mo_1) (c_X1_245 Cx rfl rfl (rmk_ok (by omega) (by decide))) hW (mdl_l mo_1) mo_1.1 rfl rfl hl.1 rfl (Nat.le_of_ble_eq_true rfl) dX1_isBound_131 ⟨Nat.le_of_ble_eq_true rfl, Nat.le_of_ble_eq_true rfl⟩) hL (fun r_31 u_29 H locs k_30 hW hL => ?_)
        obtain ⟨eu_29, xu_29⟩ := k_30
        rw [eu_29] at hW
        refine r_if_eq (tgt := 191) hx hb ⟨(by omega), (by omega)⟩ dX1_isBound_134 (by decide) (fun c_32 => ?_) (fun c_32 => ?_)
        · refine lv_aload_n hx hb dX1_isBound_191 rfl (lv_at hl 1 rfl) ?_
          refine g_X1_51 Cx hW (k := 188) (by decide) rfl (v := .ref (G.2.2.1 + 221)) (rf_188_9 iu_25) dX1_isBound_192 ?_
          refine lv_aload_n hx hb dX1_isBound_195 rfl (lv_at hl 1 rfl) ?_
          refine g_X1_42 Cx hW (k := 188) (by decide) rfl (v := .ref (G.2.2.1 + 215)) (rf_188_6 iu_25) dX1_isBound_196 ?_
          refine lv_aload_n hx hb dX1_isBound_199 rfl (lv_at hl 1 rfl) ?_
          refine g_X1_36 Cx hW (k := 188) (by decide) rfl (v := .ref (G.2.2.1 + 211)) (rf_188_4 iu_25) dX1_isBound_200 ?_
          have q_33 : 0 ≤ u_25.1 215 1 ∧ u_25.1 215 1 ≤ 32 := iu_25.fi 215 1 0 (by decide) rfl
          have q_34 : 0 ≤ S2.1 211 1 ∧ S2.1 211 1 ≤ 32 := hI2.fi 211 1 0 (by decide) rfl
          have lk_35 : u_25.1 211 1 = S2.1 211 1 := ((fu_25 211 rfl).1 1).trans (((fu_15 211 rfl).1 1).trans (((fu_8 211 rfl).1 1).trans ((fu_4 211 rfl).1 1)))
          refine sBv (sV (As := [.ref (G.2.2.1 + 215), .ref (G.2.2.1 + 211)]) (rest := []) (k := 221) Cx (s_X0_product l G u_25 (o := 221) (a := 215) (b := 211) iu_25 rfl rfl rfl (show (221 : Nat) ≠ 215 by decide) (show (221 : Nat) ≠ 211 by decide)) (c_X1_163 Cx rfl rfl (rmk_ok (by omega) (by decide))) hW (by decide) rfl rfl rfl hl.1 rfl (Nat.le_of_ble_eq_true rfl) dX1_isBound_203 ⟨Nat.le_of_ble_eq_true rfl, Nat.le_of_ble_eq_true rfl⟩) hL (fun u_36 H locs k_37 hW hL => ?_)
          obtain ⟨iu_36, fu_36, xu_36⟩ := k_37
          have F_38 := F_27.trans (fu_36.to (pB_sub rfl rfl))
          have F_39 := F_28.trans (fu_36.to (pB_sub rfl rfl))
          refine lv_aload_n hx hb dX1_isBound_206 rfl (lv_at hl 1 rfl) ?_
          refine g_X1_45 Cx hW (k := 188) (by decide) rfl (v := .ref (G.2.2.1 + 217)) (rf_188_7 iu_36) dX1_isBound_207 ?_
          refine lv_aload_n hx hb dX1_isBound_210 rfl (lv_at hl 1 rfl) ?_
          refine g_X1_32 Cx hW (k := 188) (by decide) rfl (v := .ref (G.2.2.1 + 209)) (rf_188_3 iu_36) dX1_isBound_211 ?_
          refine lv_aload_n hx hb dX1_isBound_214 rfl (lv_at hl 1 rfl) ?_
          refine g_X1_39 Cx hW (k := 188) (by decide) rfl (v := .ref (G.2.2.1 + 213)) (rf_188_5 iu_36) dX1_isBound_215 ?_
          have q_40 : 0 ≤ S2.1 209 1 ∧ S2.1 209 1 ≤ 32 := hI2.fi 209 1 0 (by decide) rfl
          have lk_41 : u_36.1 209 1 = S2.1 209 1 := ((fu_36 209 rfl).1 1).trans (((fu_25 209 rfl).1 1).trans (((fu_15 209 rfl).1 1).trans (((fu_8 209 rfl).1 1).trans ((fu_4 209 rfl).1 1))))
          have lk_42 : u_36.1 213 1 = S2.1 213 1 := ((fu_36 213 rfl).1 1).trans (((fu_25 213 rfl).1 1).trans (((fu_15 213 rfl).1 1).trans (((fu_8 213 rfl).1 1).trans ((fu_4 213 rfl).1 1))))
          refine sBv (sV (As := [.ref (G.2.2.1 + 209), .ref (G.2.2.1 + 213)]) (rest := []) (k := 217) Cx (s_X0_product l G u_36 (o := 217) (a := 209) (b := 213) iu_36 rfl rfl rfl (show (217 : Nat) ≠ 209 by decide) (show (217 : Nat) ≠ 213 by decide)) (c_X1_163 Cx rfl rfl (rmk_ok (by omega) (by decide))) hW (by decide) rfl rfl rfl hl.1 rfl (Nat.le_of_ble_eq_true rfl) dX1_isBound_218 ⟨Nat.le_of_ble_eq_true rfl, Nat.le_of_ble_eq_true rfl⟩) hL (fun u_43 H locs k_44 hW hL => ?_)
          obtain ⟨iu_43, fu_43, xu_43⟩ := k_44
          have F_45 := F_38.trans (fu_43.to (pB_sub rfl rfl))
          have F_46 := F_39.trans (fu_43.to (pB_sub rfl rfl))
          refine lv_aload_n hx hb dX1_isBound_221 rfl (lv_at hl 1 rfl) ?_
          refine g_X1_51 Cx hW (k := 188) (by decide) rfl (v := .ref (G.2.2.1 + 221)) (rf_188_9 iu_43) dX1_isBound_222 ?_
          refine lv_aload_n hx hb dX1_isBound_225 rfl (lv_at hl 1 rfl) ?_
          refine g_X1_45 Cx hW (k := 188) (by decide) rfl (v := .ref (G.2.2.1 + 217)) (rf_188_7 iu_43) dX1_isBound_226 ?_
          refine sBi (sV (As := [.ref (G.2.2.1 + 217)]) (rest := []) (k := 221) Cx (s_X0_compareWith l G u_43 (o := 221) (a := 217) iu_43 rfl rfl) (c_X1_177 Cx rfl rfl (rmk_ok (by omega) (by decide))) hW (by decide) rfl rfl rfl hl.1 rfl (Nat.le_of_ble_eq_true rfl) dX1_isBound_229 ⟨Nat.le_of_ble_eq_true rfl, Nat.le_of_ble_eq_true rfl⟩) hL (fun r_49 u_47 H locs k_48 hW hL => ?_)
          obtain ⟨eu_47, xu_47⟩ := k_48
          rw [eu_47] at hW
          refine r_if_gt (tgt := 239) hx hb ⟨(by omega), (by omega)⟩ dX1_isBound_232 (by decide) (fun c_50 => ?_) (fun c_50 => ?_)
          · refine lv_iconst (v := iv 0) hx hb dX1_isBound_239 (by decide) ?_
            exact sZret Cx hr hlk hW hL (by omega) ⟨iu_43, F_45, (by omega)⟩ dX1_isBound_240
          · refine lv_iconst (v := iv 1) hx hb dX1_isBound_235 (by decide) ?_
            refine lv_goto (tgt := 240) hx hb dX1_isBound_236 (by decide) ?_
            exact sZret Cx hr hlk hW hL (by omega) ⟨iu_43, F_45, (by omega)⟩ dX1_isBound_240
        · refine lv_aload_n hx hb dX1_isBound_137 rfl (lv_at hl 1 rfl) ?_
          refine g_X1_42 Cx hW (k := 188) (by decide) rfl (v := .ref (G.2.2.1 + 215)) (rf_188_6 iu_25) dX1_isBound_138 ?_
          refine lv_aload_n hx hb dX1_isBound_141 rfl (lv_at hl 1 rfl) ?_
          refine g_X1_39 Cx hW (k := 188) (by decide) rfl (v := .ref (G.2.2.1 + 213)) (rf_188_5 iu_25) dX1_isBound_142 ?_
          refine lv_aload_n hx hb dX1_isBound_145 rfl (lv_at hl 1 rfl) ?_
          refine g_X1_45 Cx hW (k := 188) (by decide) rfl (v := .ref (G.2.2.1 + 217)) (rf_188_7 iu_25) dX1_isBound_146 ?_
          refine lv_aload_n hx hb dX1_isBound_149 rfl (lv_at hl 1 rfl) ?_
          refine g_X1_54 Cx hW (k := 188) (by decide) rfl (v := .ref (G.2.2.1 + 223)) (rf_188_10 iu_25) dX1_isBound_150 ?_
          have q_51 : 0 ≤ u_25.1 215 1 ∧ u_25.1 215 1 ≤ 32 := iu_25.fi 215 1 0 (by decide) rfl
          have lk_52 : u_25.1 213 1 = S2.1 213 1 := ((fu_25 213 rfl).1 1).trans (((fu_15 213 rfl).1 1).trans (((fu_8 213 rfl).1 1).trans ((fu_4 213 rfl).1 1)))
          have q_53 : (-1) ≤ u_25.1 215 2 ∧ u_25.1 215 2 ≤ 1 := iu_25.fi 215 2 0 (by decide) rfl
          have q_54 : (-1) ≤ S2.1 213 2 ∧ S2.1 213 2 ≤ 1 := hI2.fi 213 2 0 (by decide) rfl
          have lk_55 : u_25.1 213 2 = S2.1 213 2 := ((fu_25 213 rfl).1 2).trans (((fu_15 213 rfl).1 2).trans (((fu_8 213 rfl).1 2).trans ((fu_4 213 rfl).1 2)))
          refine sBv (sV (As := [.ref (G.2.2.1 + 213), .ref (G.2.2.1 + 217), .ref (G.2.2.1 + 223)]) (rest := []) (k := 215) Cx (s_X0_divide l G u_25 (o := 215) (b := 213) (q := 217) (h := 223) (n := 16) iu_25 rfl rfl rfl rfl (show (215 : Nat) ≠ 213 by decide) (show (215 : Nat) ≠ 217 by decide) (show (215 : Nat) ≠ 223 by decide) (show (213 : Nat) ≠ 217 by decide) (show (213 : Nat) ≠ 223 by decide) (show (217 : Nat) ≠ 223 by decide) (by omega)) (c_X1_187 Cx rfl rfl (rmk_ok (by omega) (by decide))) hW (by decide) rfl rfl rfl hl.1 rfl (Nat.le_of_ble_eq_true rfl) dX1_isBound_153 ⟨Nat.le_of_ble_eq_true rfl, Nat.le_of_ble_eq_true rfl⟩) hL (fun u_56 H locs k_57 hW hL => ?_)
          obtain ⟨iu_56, fu_56, xu_56⟩ := k_57
          have F_58 := F_27.trans (fu_56.to (pD_sub (pB_sub rfl rfl) (pB_sub rfl rfl) (pB_sub rfl rfl)))
          have F_59 := F_28.trans (fu_56.to (pD_sub (pB_sub rfl rfl) (pB_sub rfl rfl) (pB_sub rfl rfl)))
          refine lv_aload_n hx hb dX1_isBound_156 rfl (lv_at hl 1 rfl) ?_
          refine g_X1_51 Cx hW (k := 188) (by decide) rfl (v := .ref (G.2.2.1 + 221)) (rf_188_9 iu_56) dX1_isBound_157 ?_
          refine lv_aload_n hx hb dX1_isBound_160 rfl (lv_at hl 1 rfl) ?_
          refine g_X1_45 Cx hW (k := 188) (by decide) rfl (v := .ref (G.2.2.1 + 217)) (rf_188_7 iu_56) dX1_isBound_161 ?_
          refine lv_aload_n hx hb dX1_isBound_164 rfl (lv_at hl 1 rfl) ?_
          refine g_X1_36 Cx hW (k := 188) (by decide) rfl (v := .ref (G.2.2.1 + 211)) (rf_188_4 iu_56) dX1_isBound_165 ?_
          have q_60 : 0 ≤ u_56.1 217 1 ∧ u_56.1 217 1 ≤ 32 := iu_56.fi 217 1 0 (by decide) rfl
          have q_61 : 0 ≤ S2.1 211 1 ∧ S2.1 211 1 ≤ 32 := hI2.fi 211 1 0 (by decide) rfl
          have lk_62 : u_56.1 211 1 = S2.1 211 1 := ((fu_56 211 rfl).1 1).trans (((fu_25 211 rfl).1 1).trans (((fu_15 211 rfl).1 1).trans (((fu_8 211 rfl).1 1).trans ((fu_4 211 rfl).1 1))))
          refine sBv (sV (As := [.ref (G.2.2.1 + 217), .ref (G.2.2.1 + 211)]) (rest := []) (k := 221) Cx (s_X0_product l G u_56 (o := 221) (a := 217) (b := 211) iu_56 rfl rfl rfl (show (221 : Nat) ≠ 217 by decide) (show (221 : Nat) ≠ 211 by decide)) (c_X1_163 Cx rfl rfl (rmk_ok (by omega) (by decide))) hW (by decide) rfl rfl rfl hl.1 rfl (Nat.le_of_ble_eq_true rfl) dX1_isBound_168 ⟨Nat.le_of_ble_eq_true rfl, Nat.le_of_ble_eq_true rfl⟩) hL (fun u_63 H locs k_64 hW hL => ?_)
          obtain ⟨iu_63, fu_63, xu_63⟩ := k_64
          have F_65 := F_58.trans (fu_63.to (pB_sub rfl rfl))
          have F_66 := F_59.trans (fu_63.to (pB_sub rfl rfl))
          refine lv_aload_n hx hb dX1_isBound_171 rfl (lv_at hl 1 rfl) ?_
          refine g_X1_51 Cx hW (k := 188) (by decide) rfl (v := .ref (G.2.2.1 + 221)) (rf_188_9 iu_63) dX1_isBound_172 ?_
          refine lv_aload_n hx hb dX1_isBound_175 rfl (lv_at hl 1 rfl) ?_
          refine g_X1_32 Cx hW (k := 188) (by decide) rfl (v := .ref (G.2.2.1 + 209)) (rf_188_3 iu_63) dX1_isBound_176 ?_
          refine sBi (sV (As := [.ref (G.2.2.1 + 209)]) (rest := []) (k := 221) Cx (s_X0_compareWith l G u_63 (o := 221) (a := 209) iu_63 rfl rfl) (c_X1_177 Cx rfl rfl (rmk_ok (by omega) (by decide))) hW (by decide) rfl rfl rfl hl.1 rfl (Nat.le_of_ble_eq_true rfl) dX1_isBound_179 ⟨Nat.le_of_ble_eq_true rfl, Nat.le_of_ble_eq_true rfl⟩) hL (fun r_69 u_67 H locs k_68 hW hL => ?_)
          obtain ⟨eu_67, xu_67⟩ := k_68
          rw [eu_67] at hW
          refine r_if_gt (tgt := 189) hx hb ⟨(by omega), (by omega)⟩ dX1_isBound_182 (by decide) (fun c_70 => ?_) (fun c_70 => ?_)
          · refine lv_iconst (v := iv 0) hx hb dX1_isBound_189 (by decide) ?_
            exact sZret Cx hr hlk hW hL (by omega) ⟨iu_63, F_65, (by omega)⟩ dX1_isBound_190
          · refine lv_iconst (v := iv 1) hx hb dX1_isBound_185 (by decide) ?_
            refine lv_goto (tgt := 190) hx hb dX1_isBound_186 (by decide) ?_
            exact sZret Cx hr hlk hW hL (by omega) ⟨iu_63, F_65, (by omega)⟩ dX1_isBound_190
      · refine lv_aload_n hx hb dX1_isBound_13 rfl (lv_at hl 1 rfl) ?_
        refine g_X1_21 Cx hW (k := 188) (by decide) rfl (v := .ref (G.2.2.1 + 193)) (rf_188_1 hI2) dX1_isBound_14 ?_
        refine lv_iload_n hx hb dX1_isBound_17 rfl (lv_at hl 0 rfl) ?_
        refine lv_aload_n hx hb dX1_isBound_18 rfl (lv_at hl 1 rfl) ?_
        refine g_X1_42 Cx hW (k := 188) (by decide) rfl (v := .ref (G.2.2.1 + 215)) (rf_188_6 hI2) dX1_isBound_19 ?_
        refine sBv (sV (As := [.int (iv j), .ref (G.2.2.1 + 215)]) (rest := []) (k := 193) Cx (s_X6_combine_193_215 l G S2 (j := j) hI2 (by omega)) (c_X1_242 Cx rfl rfl (rmk_ok (by omega) (by decide))) hW (by decide) rfl rfl rfl hl.1 rfl (Nat.le_of_ble_eq_true rfl) dX1_isBound_22 ⟨Nat.le_of_ble_eq_true rfl, Nat.le_of_ble_eq_true rfl⟩) hL (fun u_71 H locs k_72 hW hL => ?_)
        obtain ⟨iu_71, fu_71, xu_71⟩ := k_72
        have F_73 := hFm2.trans (fu_71.to (pK_sub rgEy_193 rfl rfl))
        have F_74 := hL2_.trans (fu_71.to (pK_sub rgEy_193 rfl rfl))
        refine lv_aload_n hx hb dX1_isBound_25 rfl (lv_at hl 1 rfl) ?_
        refine g_X1_21 Cx hW (k := 188) (by decide) rfl (v := .ref (G.2.2.1 + 193)) (rf_188_1 iu_71) dX1_isBound_26 ?_
        refine lv_iconst (v := iv 0) hx hb dX1_isBound_29 (by decide) ?_
        refine lv_iload_n hx hb dX1_isBound_30 rfl (lv_at hl 0 rfl) ?_
        refine lv_aload_n hx hb dX1_isBound_31 rfl (lv_at hl 1 rfl) ?_
        refine g_X1_45 Cx hW (k := 188) (by decide) rfl (v := .ref (G.2.2.1 + 217)) (rf_188_7 iu_71) dX1_isBound_32 ?_
        refine sBv (sV (As := [.int (iv 0), .int (iv j), .ref (G.2.2.1 + 217)]) (rest := []) (k := 193) Cx (s_X6_number_193 l G u_71 (k := 0) (j := j) (v := 217) iu_71 rfl (by omega) (by omega)) (c_X1_160 Cx rfl rfl (rmk_ok (by omega) (by decide))) hW (by decide) rfl rfl rfl hl.1 rfl (Nat.le_of_ble_eq_true rfl) dX1_isBound_35 ⟨Nat.le_of_ble_eq_true rfl, Nat.le_of_ble_eq_true rfl⟩) hL (fun u_75 H locs k_76 hW hL => ?_)
        obtain ⟨iu_75, fu_75, xu_75⟩ := k_76
        have F_77 := F_73.trans (fu_75.to (pB_sub rfl rfl))
        have F_78 := F_74.trans (fu_75.to (pB_sub rfl rfl))
        refine lv_aload_n hx hb dX1_isBound_38 rfl (lv_at hl 1 rfl) ?_
        refine g_X1_51 Cx hW (k := 188) (by decide) rfl (v := .ref (G.2.2.1 + 221)) (rf_188_9 iu_75) dX1_isBound_39 ?_
        refine lv_aload_n hx hb dX1_isBound_42 rfl (lv_at hl 1 rfl) ?_
        refine g_X1_39 Cx hW (k := 188) (by decide) rfl (v := .ref (G.2.2.1 + 213)) (rf_188_5 iu_75) dX1_isBound_43 ?_
        refine lv_aload_n hx hb dX1_isBound_46 rfl (lv_at hl 1 rfl) ?_
        refine g_X1_45 Cx hW (k := 188) (by decide) rfl (v := .ref (G.2.2.1 + 217)) (rf_188_7 iu_75) dX1_isBound_47 ?_
        have q_79 : 0 ≤ S2.1 213 1 ∧ S2.1 213 1 ≤ 32 := hI2.fi 213 1 0 (by decide) rfl
        have lk_80 : u_75.1 213 1 = S2.1 213 1 := ((fu_75 213 rfl).1 1).trans ((fu_71 213 rfl).1 1)
        have q_81 : 0 ≤ u_75.1 217 1 ∧ u_75.1 217 1 ≤ 32 := iu_75.fi 217 1 0 (by decide) rfl
        refine sBv (sV (As := [.ref (G.2.2.1 + 213), .ref (G.2.2.1 + 217)]) (rest := []) (k := 221) Cx (s_X0_product l G u_75 (o := 221) (a := 213) (b := 217) iu_75 rfl rfl rfl (show (221 : Nat) ≠ 213 by decide) (show (221 : Nat) ≠ 217 by decide)) (c_X1_163 Cx rfl rfl (rmk_ok (by omega) (by decide))) hW (by decide) rfl rfl rfl hl.1 rfl (Nat.le_of_ble_eq_true rfl) dX1_isBound_50 ⟨Nat.le_of_ble_eq_true rfl, Nat.le_of_ble_eq_true rfl⟩) hL (fun u_82 H locs k_83 hW hL => ?_)
        obtain ⟨iu_82, fu_82, xu_82⟩ := k_83
        have F_84 := F_77.trans (fu_82.to (pB_sub rfl rfl))
        have F_85 := F_78.trans (fu_82.to (pB_sub rfl rfl))
        refine lv_aload_n hx hb dX1_isBound_53 rfl (lv_at hl 1 rfl) ?_
        refine g_X1_42 Cx hW (k := 188) (by decide) rfl (v := .ref (G.2.2.1 + 215)) (rf_188_6 iu_82) dX1_isBound_54 ?_
        refine lv_aload_n hx hb dX1_isBound_57 rfl (lv_at hl 1 rfl) ?_
        refine g_X1_51 Cx hW (k := 188) (by decide) rfl (v := .ref (G.2.2.1 + 221)) (rf_188_9 iu_82) dX1_isBound_58 ?_
        refine sBi (sV (As := [.ref (G.2.2.1 + 221)]) (rest := []) (k := 215) Cx (s_X0_compareWith l G u_82 (o := 215) (a := 221) iu_82 rfl rfl) (c_X1_177 Cx rfl rfl (rmk_ok (by omega) (by decide))) hW (by decide) rfl rfl rfl hl.1 rfl (Nat.le_of_ble_eq_true rfl) dX1_isBound_61 ⟨Nat.le_of_ble_eq_true rfl, Nat.le_of_ble_eq_true rfl⟩) hL (fun r_88 u_86 H locs k_87 hW hL => ?_)
        obtain ⟨eu_86, xu_86⟩ := k_87
        rw [eu_86] at hW
        refine r_if_ge (tgt := 69) hx hb ⟨(by omega), (by omega)⟩ dX1_isBound_64 (by decide) (fun c_89 => ?_) (fun c_89 => ?_)
        · refine lv_iinc (v := iv (j + 1)) (lv' := [(1, .int (iv (j + 1))), (0, .ref (G.2.2.1 + 188))]) hx hb dX1_isBound_69 hl (k := 0) rfl ((Int32.ofInt_add _ _).symm) (by decide) rfl (fun ls hl => ?_)
          refine lv_goto (tgt := 2) hx hb dX1_isBound_72 (by decide) ?_
          have lk_90 : u_82.1 213 1 = S2.1 213 1 := ((fu_82 213 rfl).1 1).trans (((fu_75 213 rfl).1 1).trans ((fu_71 213 rfl).1 1))
          exact ih_2 u_82 (j + 1) _ _ _ (by omega) iu_82 F_84 F_85 (by omega) (by omega) hW hL (lv_sub hl [0, 1] rfl)
        · refine lv_iconst (v := iv 0) hx hb dX1_isBound_67 (by decide) ?_
          exact sZret Cx hr hlk hW hL (by omega) ⟨iu_82, F_84, (by omega)⟩ dX1_isBound_68
  have q_91 : 0 ≤ S.1 213 1 ∧ S.1 213 1 ≤ 32 := hI.fi 213 1 0 (by decide) rfl
  exact loop_2 (_ + 1) S 1 _ _ _ (Nat.lt_succ_self _) hI (Fr.rf : Fr S S pEy) Fr.rf (by omega) (by omega) hW hL (lv_sub hl [0, 1] rfl)

set_option maxRecDepth 100000 in
set_option maxHeartbeats 4000000 in
theorem z_X1_pairTree (l : Launch) (G : sG) (S : sS) {wd hv : Int} (hI : cX G S 0 0 0) (hwd : -2147483648 ≤ wd ∧ wd ≤ 2147483647) (hhv : 0 ≤ hv ∧ hv ≤ 1) (hCR : CR G S) (hat : S.1 189 3 ≤ 999800000) : Met l yX1_pairTree (.code yX1_pairTree cX1_pairTree 3 (some .int) :: tb) (rmk 6 0 0) (sPc G 294 S [.ref (G.2.2.1 + 188), .int (iv wd), .int (iv hv)]) (sQi G 294 (fun r u => cX G u 0 0 0 ∧ Fr S u pEz ∧ (CR G u ∧ u.1 189 3 ≤ S.1 189 3 + 90020 ∧ 0 ≤ r ∧ r ≤ 6))) 0 0 (sF G) := by
  refine sEnter (by decide) (Nat.le_of_ble_eq_true rfl) ?_
  intro p e s m args below meth c Cx hr hlk hnm hW ls hl
  have Cx : sC G p m c cX1_pairTree 3 s args RX1 := Cx
  obtain ⟨hx, hb, hml, hown, hts⟩ := id Cx.1
  have hL : sL G [] := sL_nil
  have hl : lv_has ls 3 [(0, .ref (G.2.2.1 + 188)), (1, .int (iv wd)), (2, .int (iv hv))] := hl
  have hW0 := hW
  have hat0 : 0 ≤ S.1 189 3 ∧ S.1 189 3 ≤ 1000000000 := hI.fi 189 3 4 (by decide) rfl
  refine lv_aload_n hx hb dX1_pairTree_0 rfl (lv_at hl 0 rfl) ?_
  refine g_X1_12 Cx hW (k := 188) (by decide) rfl (v := .ref (G.2.2.1 + 189)) (rf_188_0 hI) dX1_pairTree_1 ?_
  refine lv_aload_n hx hb dX1_pairTree_4 rfl (lv_at hl 0 rfl) ?_
  refine g_X1_39 Cx hW (k := 188) (by decide) rfl (v := .ref (G.2.2.1 + 213)) (rf_188_5 hI) dX1_pairTree_5 ?_
  have q_1 : 0 ≤ S.1 189 3 ∧ S.1 189 3 ≤ 1000000000 := hI.fi 189 3 4 (by decide) rfl
  refine sBv (sV (As := [.ref (G.2.2.1 + 213)]) (rest := []) (k := 189) Cx (s_X4_takeNumber_213 l G S  hI hCR (by omega)) (c_X1_126 Cx rfl rfl (rmk_ok (by omega) (by decide))) hW (by decide) rfl rfl rfl hl.1 rfl (Nat.le_of_ble_eq_true rfl) dX1_pairTree_8 ⟨Nat.le_of_ble_eq_true rfl, Nat.le_of_ble_eq_true rfl⟩) hL (fun u_2 H locs k_3 hW hL => ?_)
  obtain ⟨iu_2, fu_2, xu_2⟩ := k_3
  have F_4 := (Fr.rf : Fr S S pEz).trans (fu_2.to (pRg_sub rfl rfl rfl))
  have cr_5 : CR G u_2 := xu_2.1
  refine lv_aload_n hx hb dX1_pairTree_11 rfl (lv_at hl 0 rfl) ?_
  have q_6 : 0 ≤ u_2.1 189 3 ∧ u_2.1 189 3 ≤ 1000000000 := iu_2.fi 189 3 4 (by decide) rfl
  refine sBi (sV (As := []) (rest := []) (k := 188) Cx (s_X1_takePairs l G u_2  iu_2 cr_5 (by omega)) (c_X1_219 Cx rfl rfl (rmk_ok (by omega) (by decide))) hW (by decide) rfl rfl rfl hl.1 rfl (Nat.le_of_ble_eq_true rfl) dX1_pairTree_12 ⟨Nat.le_of_ble_eq_true rfl, Nat.le_of_ble_eq_true rfl⟩) hL (fun r_9 u_7 H locs k_8 hW hL => ?_)
  obtain ⟨iu_7, fu_7, xu_7⟩ := k_8
  have F_10 := F_4.trans (fu_7.to pTq_Ez)
  have cr_11 : CR G u_7 := xu_7.1
  refine r_if_ne (tgt := 20) hx hb ⟨(by omega), (by omega)⟩ dX1_pairTree_15 (by decide) (fun c_12 => ?_) (fun c_12 => ?_)
  · refine lv_iload_n hx hb dX1_pairTree_20 rfl (lv_at hl 1 rfl) ?_
    refine lv_bipush (v := iv 13) hx hb dX1_pairTree_21 (by decide) ?_
    refine r_icmp_ne (tgt := 59) hx hb ⟨(by omega), (by omega)⟩ ⟨(by omega), (by omega)⟩ dX1_pairTree_23 (by decide) (fun c_13 => ?_) (fun c_13 => ?_)
    · refine lv_iload_n hx hb dX1_pairTree_59 rfl (lv_at hl 1 rfl) ?_
      refine lv_bipush (v := iv 15) hx hb dX1_pairTree_60 (by decide) ?_
      refine r_icmp_ne (tgt := 78) hx hb ⟨(by omega), (by omega)⟩ ⟨(by omega), (by omega)⟩ dX1_pairTree_62 (by decide) (fun c_14 => ?_) (fun c_14 => ?_)
      · refine lv_iload_n hx hb dX1_pairTree_78 rfl (lv_at hl 2 rfl) ?_
        refine r_if_eq (tgt := 93) hx hb ⟨(by omega), (by omega)⟩ dX1_pairTree_79 (by decide) (fun c_15 => ?_) (fun c_15 => ?_)
        · refine lv_iconst (v := iv 4) hx hb dX1_pairTree_93 (by decide) ?_
          have q_16 : 0 ≤ u_7.1 189 3 ∧ u_7.1 189 3 ≤ 1000000000 := iu_7.fi 189 3 4 (by decide) rfl
          exact sIret Cx hr hlk hW hL ⟨iu_7, F_10, ⟨cr_11, (by omega), (by omega)⟩⟩ dX1_pairTree_94
        · refine lv_aload_n hx hb dX1_pairTree_82 rfl (lv_at hl 0 rfl) ?_
          have q_17 : 0 ≤ u_2.1 213 1 ∧ u_2.1 213 1 ≤ 32 := iu_2.fi 213 1 0 (by decide) rfl
          have lk_18 : u_7.1 213 1 = u_2.1 213 1 := (fu_7 213 rfl).1 1
          refine sBi (sV (As := []) (rest := []) (k := 188) Cx (z_X1_isBound l G u_7  iu_7 (by omega)) (c_X1_232 Cx rfl rfl (rmk_ok (by omega) (by decide))) hW (by decide) rfl rfl rfl hl.1 rfl (Nat.le_of_ble_eq_true rfl) dX1_pairTree_83 ⟨Nat.le_of_ble_eq_true rfl, Nat.le_of_ble_eq_true rfl⟩) hL (fun r_21 u_19 H locs k_20 hW hL => ?_)
          obtain ⟨iu_19, fu_19, xu_19⟩ := k_20
          have F_22 := F_10.trans (fu_19.to (fun k h => pEw_Ez k (pEy_Ew k h)))
          have cr_23 : CR G u_19 := cr_11.fr fu_19 rfl rfl rfl rfl
          refine r_if_eq (tgt := 93) hx hb ⟨(by omega), (by omega)⟩ dX1_pairTree_86 (by decide) (fun c_24 => ?_) (fun c_24 => ?_)
          · refine lv_iconst (v := iv 4) hx hb dX1_pairTree_93 (by decide) ?_
            have q_25 : 0 ≤ u_7.1 189 3 ∧ u_7.1 189 3 ≤ 1000000000 := iu_7.fi 189 3 4 (by decide) rfl
            have lk_26 : u_19.1 189 3 = u_7.1 189 3 := (fu_19 189 rfl).1 3
            exact sIret Cx hr hlk hW hL ⟨iu_19, F_22, ⟨cr_23, (by omega), (by omega)⟩⟩ dX1_pairTree_94
          · refine lv_iconst (v := iv 0) hx hb dX1_pairTree_89 (by decide) ?_
            refine lv_goto (tgt := 94) hx hb dX1_pairTree_90 (by decide) ?_
            have q_27 : 0 ≤ u_7.1 189 3 ∧ u_7.1 189 3 ≤ 1000000000 := iu_7.fi 189 3 4 (by decide) rfl
            have lk_28 : u_19.1 189 3 = u_7.1 189 3 := (fu_19 189 rfl).1 3
            exact sIret Cx hr hlk hW hL ⟨iu_19, F_22, ⟨cr_23, (by omega), (by omega)⟩⟩ dX1_pairTree_94
      · refine lv_aload_n hx hb dX1_pairTree_65 rfl (lv_at hl 0 rfl) ?_
        refine sBi (sV (As := []) (rest := []) (k := 188) Cx (z_X1_isFarkas l G u_7  iu_7) (c_X1_229 Cx rfl rfl (rmk_ok (by omega) (by decide))) hW (by decide) rfl rfl rfl hl.1 rfl (Nat.le_of_ble_eq_true rfl) dX1_pairTree_66 ⟨Nat.le_of_ble_eq_true rfl, Nat.le_of_ble_eq_true rfl⟩) hL (fun r_31 u_29 H locs k_30 hW hL => ?_)
        obtain ⟨iu_29, fu_29, xu_29⟩ := k_30
        have F_32 := F_10.trans (fu_29.to (fun k h => pEw_Ez k (pEy_Ew k h)))
        have cr_33 : CR G u_29 := cr_11.fr fu_29 rfl rfl rfl rfl
        refine r_if_eq (tgt := 76) hx hb ⟨(by omega), (by omega)⟩ dX1_pairTree_69 (by decide) (fun c_34 => ?_) (fun c_34 => ?_)
        · refine lv_iconst (v := iv 4) hx hb dX1_pairTree_76 (by decide) ?_
          have q_35 : 0 ≤ u_7.1 189 3 ∧ u_7.1 189 3 ≤ 1000000000 := iu_7.fi 189 3 4 (by decide) rfl
          have lk_36 : u_29.1 189 3 = u_7.1 189 3 := (fu_29 189 rfl).1 3
          exact sIret Cx hr hlk hW hL ⟨iu_29, F_32, ⟨cr_33, (by omega), (by omega)⟩⟩ dX1_pairTree_77
        · refine lv_iconst (v := iv 0) hx hb dX1_pairTree_72 (by decide) ?_
          refine lv_goto (tgt := 77) hx hb dX1_pairTree_73 (by decide) ?_
          have q_37 : 0 ≤ u_7.1 189 3 ∧ u_7.1 189 3 ≤ 1000000000 := iu_7.fi 189 3 4 (by decide) rfl
          have lk_38 : u_29.1 189 3 = u_7.1 189 3 := (fu_29 189 rfl).1 3
          exact sIret Cx hr hlk hW hL ⟨iu_29, F_32, ⟨cr_33, (by omega), (by omega)⟩⟩ dX1_pairTree_77
    · refine lv_aload_n hx hb dX1_pairTree_26 rfl (lv_at hl 0 rfl) ?_
      obtain ⟨o_39, mo_39, eo_39⟩ := hI.rm.2.2.2.1
      refine g_X1_69 Cx hW (k := 188) (by decide) rfl (v := .ref (G.2.2.1 + o_39)) ((((fu_7 188 rfl).2.2.2 15).trans ((fu_2 188 rfl).2.2.2 15)).trans eo_39) dX1_pairTree_27 ?_
      refine sBi (sV (As := []) (rest := []) (k := o_39) Cx (s_X3_isAllWhole l G u_7 (o := o_39) iu_7 mo_39) (c_X1_222 Cx rfl rfl (rmk_ok (by omega) (by decide))) hW (mdl_l mo_39) mo_39.1 rfl rfl hl.1 rfl (Nat.le_of_ble_eq_true rfl) dX1_pairTree_30 ⟨Nat.le_of_ble_eq_true rfl, Nat.le_of_ble_eq_true rfl⟩) hL (fun r_42 u_40 H locs k_41 hW hL => ?_)
      obtain ⟨eu_40, xu_40⟩ := k_41
      rw [eu_40] at hW
      refine r_if_ne (tgt := 38) hx hb ⟨(by omega), (by omega)⟩ dX1_pairTree_33 (by decide) (fun c_43 => ?_) (fun c_43 => ?_)
      · refine lv_aload_n hx hb dX1_pairTree_38 rfl (lv_at hl 0 rfl) ?_
        refine g_X1_21 Cx hW (k := 188) (by decide) rfl (v := .ref (G.2.2.1 + 193)) (rf_188_1 iu_7) dX1_pairTree_39 ?_
        refine lv_aload_n hx hb dX1_pairTree_42 rfl (lv_at hl 0 rfl) ?_
        refine g_X1_39 Cx hW (k := 188) (by decide) rfl (v := .ref (G.2.2.1 + 213)) (rf_188_5 iu_7) dX1_pairTree_43 ?_
        have q_44 : 0 ≤ u_2.1 213 1 ∧ u_2.1 213 1 ≤ 32 := iu_2.fi 213 1 0 (by decide) rfl
        have lk_45 : u_7.1 213 1 = u_2.1 213 1 := (fu_7 213 rfl).1 1
        refine sBi (sV (As := [.ref (G.2.2.1 + 213)]) (rest := []) (k := 193) Cx (z_X6_addCut_193 l G u_7  iu_7 (by omega)) (c_X1_225 Cx rfl rfl (rmk_ok (by omega) (by decide))) hW (by decide) rfl rfl rfl hl.1 rfl (Nat.le_of_ble_eq_true rfl) dX1_pairTree_46 ⟨Nat.le_of_ble_eq_true rfl, Nat.le_of_ble_eq_true rfl⟩) hL (fun r_48 u_46 H locs k_47 hW hL => ?_)
        obtain ⟨iu_46, fu_46, xu_46⟩ := k_47
        have F_49 := F_10.trans (fu_46.to pEw_Ez)
        have cr_50 : CR G u_46 := cr_11.fr fu_46 rfl rfl rfl rfl
        refine r_if_eq (tgt := 56) hx hb ⟨(by omega), (by omega)⟩ dX1_pairTree_49 (by decide) (fun c_51 => ?_) (fun c_51 => ?_)
        · refine lv_bipush (v := iv 6) hx hb dX1_pairTree_56 (by decide) ?_
          have q_52 : 0 ≤ u_7.1 189 3 ∧ u_7.1 189 3 ≤ 1000000000 := iu_7.fi 189 3 4 (by decide) rfl
          have lk_53 : u_46.1 189 3 = u_7.1 189 3 := (fu_46 189 rfl).1 3
          exact sIret Cx hr hlk hW hL ⟨iu_46, F_49, ⟨cr_50, (by omega), (by omega)⟩⟩ dX1_pairTree_58
        · refine lv_iconst (v := iv 0) hx hb dX1_pairTree_52 (by decide) ?_
          refine lv_goto (tgt := 58) hx hb dX1_pairTree_53 (by decide) ?_
          have q_54 : 0 ≤ u_7.1 189 3 ∧ u_7.1 189 3 ≤ 1000000000 := iu_7.fi 189 3 4 (by decide) rfl
          have lk_55 : u_46.1 189 3 = u_7.1 189 3 := (fu_46 189 rfl).1 3
          exact sIret Cx hr hlk hW hL ⟨iu_46, F_49, ⟨cr_50, (by omega), (by omega)⟩⟩ dX1_pairTree_58
      · refine lv_iconst (v := iv 4) hx hb dX1_pairTree_36 (by decide) ?_
        have q_56 : 0 ≤ u_7.1 189 3 ∧ u_7.1 189 3 ≤ 1000000000 := iu_7.fi 189 3 4 (by decide) rfl
        exact sIret Cx hr hlk hW hL ⟨iu_7, F_10, ⟨cr_11, (by omega), (by omega)⟩⟩ dX1_pairTree_37
  · refine lv_iconst (v := iv 4) hx hb dX1_pairTree_18 (by decide) ?_
    have q_57 : 0 ≤ u_7.1 189 3 ∧ u_7.1 189 3 ≤ 1000000000 := iu_7.fi 189 3 4 (by decide) rfl
    exact sIret Cx hr hlk hW hL ⟨iu_7, F_10, ⟨cr_11, (by omega), (by omega)⟩⟩ dX1_pairTree_19

set_option maxRecDepth 100000 in
set_option maxHeartbeats 4000000 in
theorem z_X1_branch (l : Launch) (G : sG) (S : sS)  (hI : cX G S 0 0 0) (hCR : CR G S) (hat : S.1 189 3 ≤ 999900000) : Met l yX1_branch (.code yX1_branch cX1_branch 2 (some .int) :: tb) (rmk 5 0 0) (sPc G 294 S [.ref (G.2.2.1 + 188)]) (sQi G 294 (fun r u => cX G u 0 0 0 ∧ Fr S u pEz ∧ (CR G u ∧ u.1 189 3 ≤ S.1 189 3 + 2 ∧ 0 ≤ r ∧ r ≤ 6))) 0 0 (sF G) := by
  refine sEnter (by decide) (Nat.le_of_ble_eq_true rfl) ?_
  intro p e s m args below meth c Cx hr hlk hnm hW ls hl
  have Cx : sC G p m c cX1_branch 2 s args RX1 := Cx
  obtain ⟨hx, hb, hml, hown, hts⟩ := id Cx.1
  have hL : sL G [] := sL_nil
  have hl : lv_has ls 2 [(0, .ref (G.2.2.1 + 188))] := hl
  have hW0 := hW
  have hat0 : 0 ≤ S.1 189 3 ∧ S.1 189 3 ≤ 1000000000 := hI.fi 189 3 4 (by decide) rfl
  refine lv_aload_n hx hb dX1_branch_0 rfl (lv_at hl 0 rfl) ?_
  refine g_X1_12 Cx hW (k := 188) (by decide) rfl (v := .ref (G.2.2.1 + 189)) (rf_188_0 hI) dX1_branch_1 ?_
  have q_1 : 0 ≤ S.1 189 3 ∧ S.1 189 3 ≤ 1000000000 := hI.fi 189 3 4 (by decide) rfl
  refine sBi (sV (As := []) (rest := []) (k := 189) Cx (s_X4_takeCount l G S  hI hCR (by omega)) (c_X1_203 Cx rfl rfl (rmk_ok (by omega) (by decide))) hW (by decide) rfl rfl rfl hl.1 rfl (Nat.le_of_ble_eq_true rfl) dX1_branch_4 ⟨Nat.le_of_ble_eq_true rfl, Nat.le_of_ble_eq_true rfl⟩) hL (fun r_4 u_2 H locs k_3 hW hL => ?_)
  obtain ⟨iu_2, fu_2, xu_2⟩ := k_3
  have F_5 := (Fr.rf : Fr S S pEz).trans (fu_2.to (fun k h => pRd_Ez k (p189_Rd k h)))
  have cr_6 : CR G u_2 := xu_2.1
  refine lv_istore_n (lv' := [(1, .int (iv r_4)), (0, .ref (G.2.2.1 + 188))]) hx hb dX1_branch_7 rfl hl (by decide) rfl (fun ls hl => ?_)
  refine lv_aload_n hx hb dX1_branch_8 rfl (lv_at hl 1 rfl) ?_
  refine g_X1_12 Cx hW (k := 188) (by decide) rfl (v := .ref (G.2.2.1 + 189)) (rf_188_0 iu_2) dX1_branch_9 ?_
  refine lv_aload_n hx hb dX1_branch_12 rfl (lv_at hl 1 rfl) ?_
  refine g_X1_48 Cx hW (k := 188) (by decide) rfl (v := .ref (G.2.2.1 + 219)) (rf_188_8 iu_2) dX1_branch_13 ?_
  have q_7 : 0 ≤ u_2.1 189 3 ∧ u_2.1 189 3 ≤ 1000000000 := iu_2.fi 189 3 4 (by decide) rfl
  refine sBv (sV (As := [.ref (G.2.2.1 + 219)]) (rest := []) (k := 189) Cx (s_X4_takeNumber_219 l G u_2  iu_2 cr_6 (by omega)) (c_X1_126 Cx rfl rfl (rmk_ok (by omega) (by decide))) hW (by decide) rfl rfl rfl hl.1 rfl (Nat.le_of_ble_eq_true rfl) dX1_branch_16 ⟨Nat.le_of_ble_eq_true rfl, Nat.le_of_ble_eq_true rfl⟩) hL (fun u_8 H locs k_9 hW hL => ?_)
  obtain ⟨iu_8, fu_8, xu_8⟩ := k_9
  have F_10 := F_5.trans (fu_8.to (pRg_sub rfl rfl rfl))
  have cr_11 : CR G u_8 := xu_8.1
  refine lv_aload_n hx hb dX1_branch_19 rfl (lv_at hl 1 rfl) ?_
  obtain ⟨o_12, mo_12, eo_12⟩ := hI.rm.2.2.2.1
  refine g_X1_69 Cx hW (k := 188) (by decide) rfl (v := .ref (G.2.2.1 + o_12)) ((((fu_8 188 rfl).2.2.2 15).trans ((fu_2 188 rfl).2.2.2 15)).trans eo_12) dX1_branch_20 ?_
  refine lv_iload_n hx hb dX1_branch_23 rfl (lv_at hl 0 rfl) ?_
  have q_13 : 0 ≤ u_8.1 o_12 2 ∧ u_8.1 o_12 2 ≤ 12 := iu_8.fi o_12 2 3 (mdl_k mo_12) mo_12.1
  refine sBi (sV (As := [.int (iv r_4)]) (rest := []) (k := o_12) Cx (s_X3_isWhole l G u_8 (o := o_12) (j := r_4) iu_8 mo_12 (by omega)) (c_X1_184 Cx rfl rfl (rmk_ok (by omega) (by decide))) hW (mdl_l mo_12) mo_12.1 rfl rfl hl.1 rfl (Nat.le_of_ble_eq_true rfl) dX1_branch_24 ⟨Nat.le_of_ble_eq_true rfl, Nat.le_of_ble_eq_true rfl⟩) hL (fun r_16 u_14 H locs k_15 hW hL => ?_)
  obtain ⟨eu_14, xu_14⟩ := k_15
  rw [eu_14] at hW
  refine r_if_ne (tgt := 32) hx hb ⟨(by omega), (by omega)⟩ dX1_branch_27 (by decide) (fun c_17 => ?_) (fun c_17 => ?_)
  · refine lv_aload_n hx hb dX1_branch_32 rfl (lv_at hl 1 rfl) ?_
    refine g_X1_21 Cx hW (k := 188) (by decide) rfl (v := .ref (G.2.2.1 + 193)) (rf_188_1 iu_8) dX1_branch_33 ?_
    have q_18 : 0 ≤ S.1 193 9 ∧ S.1 193 9 ≤ 40 := hI.fi 193 9 6 (by decide) rfl
    have lk_19 : u_8.1 193 9 = S.1 193 9 := ((fu_8 193 rfl).1 9).trans ((fu_2 193 rfl).1 9)
    refine sBi (sV (As := []) (rest := []) (k := 193) Cx (s_X6_isFull_193 l G u_8  iu_8) (c_X1_206 Cx rfl rfl (rmk_ok (by omega) (by decide))) hW (by decide) rfl rfl rfl hl.1 rfl (Nat.le_of_ble_eq_true rfl) dX1_branch_36 ⟨Nat.le_of_ble_eq_true rfl, Nat.le_of_ble_eq_true rfl⟩) hL (fun r_22 u_20 H locs k_21 hW hL => ?_)
    obtain ⟨eu_20, xu_20⟩ := k_21
    rw [eu_20] at hW
    refine r_if_ne (tgt := 51) hx hb ⟨(by omega), (by omega)⟩ dX1_branch_39 (by decide) (fun c_23 => ?_) (fun c_23 => ?_)
    · refine lv_bipush (v := iv 6) hx hb dX1_branch_51 (by decide) ?_
      have q_24 : 0 ≤ u_8.1 189 3 ∧ u_8.1 189 3 ≤ 1000000000 := iu_8.fi 189 3 4 (by decide) rfl
      exact sIret Cx hr hlk hW hL ⟨iu_8, F_10, ⟨cr_11, (by omega), (by omega)⟩⟩ dX1_branch_53
    · refine lv_aload_n hx hb dX1_branch_42 rfl (lv_at hl 1 rfl) ?_
      have q_25 : 0 ≤ S.1 188 14 ∧ S.1 188 14 ≤ 40 := hI.fi 188 14 1 (by decide) rfl
      refine g_X1_103 Cx hW (k := 188) (by decide) rfl (v := S.1 188 14) (((fu_8 188 rfl).1 14).trans ((fu_2 188 rfl).1 14)) dX1_branch_43 ?_
      refine lv_bipush (v := iv 40) hx hb dX1_branch_46 (by decide) ?_
      refine r_icmp_lt (tgt := 54) hx hb ⟨(by omega), (by omega)⟩ ⟨(by omega), (by omega)⟩ dX1_branch_48 (by decide) (fun c_26 => ?_) (fun c_26 => ?_)
      · refine lv_aload_n hx hb dX1_branch_54 rfl (lv_at hl 1 rfl) ?_
        refine g_X1_57 Cx hW (k := 188) (by decide) rfl (v := .ref (G.2.2.1 + 225)) (rf_188_11 iu_8) dX1_branch_55 ?_
        refine lv_aload_n hx hb dX1_branch_58 rfl (lv_at hl 1 rfl) ?_
        refine g_X1_103 Cx hW (k := 188) (by decide) rfl (v := S.1 188 14) (((fu_8 188 rfl).1 14).trans ((fu_2 188 rfl).1 14)) dX1_branch_59 ?_
        refine lv_aload_n hx hb dX1_branch_62 rfl (lv_at hl 1 rfl) ?_
        refine g_X1_21 Cx hW (k := 188) (by decide) rfl (v := .ref (G.2.2.1 + 193)) (rf_188_1 iu_8) dX1_branch_63 ?_
        refine sBi (sV (As := []) (rest := [.int (iv (S.1 188 14)), .ref (G.2.2.1 + 225)]) (k := 193) Cx (s_X6_count_193 l G u_8  iu_8) (c_X1_209 Cx rfl rfl (rmk_ok (by omega) (by decide))) hW (by decide) rfl rfl rfl hl.1 rfl (Nat.le_of_ble_eq_true rfl) dX1_branch_66 ⟨Nat.le_of_ble_eq_true rfl, Nat.le_of_ble_eq_true rfl⟩) hL (fun r_29 u_27 H locs k_28 hW hL => ?_)
        obtain ⟨eu_27, xu_27⟩ := k_28
        rw [eu_27] at hW
        refine rIast Cx hW hL (k := 225) (by decide) rfl (by decide) (by omega) (by omega) dX1_branch_69 (fun H locs hW hL => ?_)
        have F_30 : Fr S (uA u_8 225 (S.1 188 14) r_29) pEz := F_10.A rfl
        have i_31 : cX G (uA u_8 225 (S.1 188 14) r_29) 0 0 0 := iu_8.A (by decide) (by decide) (by decide) (show 0 ≤ r_29 ∧ r_29 ≤ 40 from ⟨by omega, by omega⟩)
        have cr_32 : CR G (uA u_8 225 (S.1 188 14) r_29) := cr_11.A (by decide) (by decide)
        refine lv_aload_n hx hb dX1_branch_70 rfl (lv_at hl 1 rfl) ?_
        refine g_X1_60 Cx hW (k := 188) (by decide) rfl (v := .ref (G.2.2.1 + 226)) (rf_188_12 i_31) dX1_branch_71 ?_
        refine lv_aload_n hx hb dX1_branch_74 rfl (lv_at hl 1 rfl) ?_
        refine g_X1_103 Cx hW (k := 188) (by decide) rfl (v := S.1 188 14) ((uA_f).trans (((fu_8 188 rfl).1 14).trans ((fu_2 188 rfl).1 14))) dX1_branch_75 ?_
        refine lv_iload_n hx hb dX1_branch_78 rfl (lv_at hl 0 rfl) ?_
        refine rIast Cx hW hL (k := 226) (by decide) rfl (by decide) (by omega) (by omega) dX1_branch_79 (fun H locs hW hL => ?_)
        have F_33 : Fr S (uA (uA u_8 225 (S.1 188 14) r_29) 226 (S.1 188 14) r_4) pEz := F_30.A rfl
        have i_34 : cX G (uA (uA u_8 225 (S.1 188 14) r_29) 226 (S.1 188 14) r_4) 0 0 0 := i_31.A (by decide) (by decide) (by decide) (show (-2147483648) ≤ r_4 ∧ r_4 ≤ 2147483647 from ⟨by omega, by omega⟩)
        have cr_35 : CR G (uA (uA u_8 225 (S.1 188 14) r_29) 226 (S.1 188 14) r_4) := cr_32.A (by decide) (by decide)
        refine lv_aload_n hx hb dX1_branch_80 rfl (lv_at hl 1 rfl) ?_
        refine g_X1_48 Cx hW (k := 188) (by decide) rfl (v := .ref (G.2.2.1 + 219)) (rf_188_8 i_34) dX1_branch_81 ?_
        refine lv_aload_n hx hb dX1_branch_84 rfl (lv_at hl 1 rfl) ?_
        refine g_X1_63 Cx hW (k := 188) (by decide) rfl (v := .ref (G.2.2.1 + 227)) (rf_188_13 i_34) dX1_branch_85 ?_
        refine lv_aload_n hx hb dX1_branch_88 rfl (lv_at hl 1 rfl) ?_
        refine g_X1_103 Cx hW (k := 188) (by decide) rfl (v := S.1 188 14) ((uA_f).trans ((uA_f).trans (((fu_8 188 rfl).1 14).trans ((fu_2 188 rfl).1 14)))) dX1_branch_89 ?_
        refine lv_bipush (v := iv 8) hx hb dX1_branch_92 (by decide) ?_
        refine r_imul hx hb dX1_branch_94 ?_
        have q_36 : 0 ≤ u_8.1 219 1 ∧ u_8.1 219 1 ≤ 32 := iu_8.fi 219 1 0 (by decide) rfl
        have lk_37 : (uA (uA u_8 225 (S.1 188 14) r_29) 226 (S.1 188 14) r_4).1 219 1 = u_8.1 219 1 := (uA_f).trans (uA_f)
        have q_38 : (-1) ≤ u_8.1 219 2 ∧ u_8.1 219 2 ≤ 1 := iu_8.fi 219 2 0 (by decide) rfl
        have lk_39 : (uA (uA u_8 225 (S.1 188 14) r_29) 226 (S.1 188 14) r_4).1 219 2 = u_8.1 219 2 := (uA_f).trans (uA_f)
        refine sBv (sV (As := [.ref (G.2.2.1 + 227), .int (iv ((S.1 188 14) * 8))]) (rest := []) (k := 219) Cx (s_X0_save l G (uA (uA u_8 225 (S.1 188 14) r_29) 226 (S.1 188 14) r_4) (o := 219) (k := 227) (a := (S.1 188 14) * 8) (N := 328) i_34 rfl ⟨by decide, rfl, by decide, rfl, rfl, rfl⟩ (by omega) (show _ ≤ (7 : Int) ∧ (_ → _ ≤ (999999 : Int)) from ⟨(by omega), fun q => by have e : (uA (uA u_8 225 (S.1 188 14) r_29) 226 (S.1 188 14) r_4).2.1 220 6 = u_8.2.1 220 6 := (uA_ne (fun h => absurd h.1 (by decide))).trans (uA_ne (fun h => absurd h.1 (by decide))); rw [e]; exact xu_8.2.2.2 (by omega)⟩) (fun q _ => by rcases q with q | q <;> exact absurd q (by decide))) (c_X1_149 Cx rfl rfl (rmk_ok (by omega) (by decide))) hW (by decide) rfl rfl rfl hl.1 rfl (Nat.le_of_ble_eq_true rfl) dX1_branch_95 ⟨Nat.le_of_ble_eq_true rfl, Nat.le_of_ble_eq_true rfl⟩) hL (fun u_40 H locs k_41 hW hL => ?_)
        obtain ⟨iu_40, fu_40⟩ := k_41
        have F_42 := F_33.trans (fu_40.to (p1_sub rfl))
        have cr_43 : CR G u_40 := cr_35.fr fu_40 rfl rfl rfl rfl
        refine lv_aload_n hx hb dX1_branch_98 rfl (lv_at hl 1 rfl) ?_
        refine lv_dup hx hb dX1_branch_99 rfl ?_
        refine g_X1_103 Cx hW (k := 188) (by decide) rfl (v := S.1 188 14) (((fu_40 188 rfl).1 14).trans ((uA_f).trans ((uA_f).trans (((fu_8 188 rfl).1 14).trans ((fu_2 188 rfl).1 14))))) dX1_branch_100 ?_
        refine lv_iconst (v := iv 1) hx hb dX1_branch_103 (by decide) ?_
        refine r_iadd hx hb dX1_branch_104 ?_
        refine p_X1_103 Cx hW hL (k := 188) (by decide) rfl dX1_branch_105 (fun H locs hW hL => ?_)
        have F_44 : Fr S (uF u_40 188 14 ((S.1 188 14) + 1)) pEz := F_42.F rfl
        have i_45 : cX G (uF u_40 188 14 ((S.1 188 14) + 1)) 0 0 0 := iu_40.F rfl rfl (show 0 ≤ (S.1 188 14) + 1 ∧ (S.1 188 14) + 1 ≤ 40 from ⟨by omega, by omega⟩)
        have cr_46 : CR G (uF u_40 188 14 ((S.1 188 14) + 1)) := cr_43.F (by decide)
        refine lv_aload_n hx hb dX1_branch_108 rfl (lv_at hl 1 rfl) ?_
        refine g_X1_21 Cx hW (k := 188) (by decide) rfl (v := .ref (G.2.2.1 + 193)) (rf_188_1 i_45) dX1_branch_109 ?_
        refine lv_iload_n hx hb dX1_branch_112 rfl (lv_at hl 0 rfl) ?_
        refine lv_aload_n hx hb dX1_branch_113 rfl (lv_at hl 1 rfl) ?_
        refine g_X1_48 Cx hW (k := 188) (by decide) rfl (v := .ref (G.2.2.1 + 219)) (rf_188_8 i_45) dX1_branch_114 ?_
        refine lv_iconst (v := iv 0) hx hb dX1_branch_117 (by decide) ?_
        have lk_47 : (uF u_40 188 14 ((S.1 188 14) + 1)).1 219 1 = u_8.1 219 1 := (uF_ne (fun h => absurd h.2 (by decide))).trans (((fu_40 219 rfl).1 1).trans ((uA_f).trans (uA_f)))
        refine sBv (sV (As := [.int (iv r_4), .ref (G.2.2.1 + 219), .int (iv 0)]) (rest := []) (k := 193) Cx (z_X6_addLimit_193 l G (uF u_40 188 14 ((S.1 188 14) + 1)) (z := r_4) (ab := 0) i_45 (by omega) (by omega) (by omega) (fun q => by have e : (uF u_40 188 14 ((S.1 188 14) + 1)).2.1 220 6 = u_8.2.1 220 6 := (uF_a).trans (((fu_40 220 rfl).2.1 6).trans ((uA_ne (fun h => absurd h.1 (by decide))).trans (uA_ne (fun h => absurd h.1 (by decide))))); rw [e]; exact xu_8.2.2.2 (by omega))) (c_X1_212 Cx rfl rfl (rmk_ok (by omega) (by decide))) hW (by decide) rfl rfl rfl hl.1 rfl (Nat.le_of_ble_eq_true rfl) dX1_branch_118 ⟨Nat.le_of_ble_eq_true rfl, Nat.le_of_ble_eq_true rfl⟩) hL (fun u_48 H locs k_49 hW hL => ?_)
        obtain ⟨iu_48, fu_48⟩ := k_49
        have F_50 := F_44.trans (fu_48.to pEw_Ez)
        have cr_51 : CR G u_48 := cr_46.fr fu_48 rfl rfl rfl rfl
        refine lv_iconst (v := iv 0) hx hb dX1_branch_121 (by decide) ?_
        have q_52 : 0 ≤ u_8.1 189 3 ∧ u_8.1 189 3 ≤ 1000000000 := iu_8.fi 189 3 4 (by decide) rfl
        have lk_53 : u_48.1 189 3 = u_8.1 189 3 := ((fu_48 189 rfl).1 3).trans ((uF_ne (fun h => absurd h.2 (by decide))).trans (((fu_40 189 rfl).1 3).trans ((uA_f).trans (uA_f))))
        exact sIret Cx hr hlk hW hL ⟨iu_48, F_50, ⟨cr_51, (by omega), (by omega)⟩⟩ dX1_branch_122
      · refine lv_bipush (v := iv 6) hx hb dX1_branch_51 (by decide) ?_
        have q_54 : 0 ≤ u_8.1 189 3 ∧ u_8.1 189 3 ≤ 1000000000 := iu_8.fi 189 3 4 (by decide) rfl
        exact sIret Cx hr hlk hW hL ⟨iu_8, F_10, ⟨cr_11, (by omega), (by omega)⟩⟩ dX1_branch_53
  · refine lv_iconst (v := iv 4) hx hb dX1_branch_30 (by decide) ?_
    have q_55 : 0 ≤ u_8.1 189 3 ∧ u_8.1 189 3 ≤ 1000000000 := iu_8.fi 189 3 4 (by decide) rfl
    exact sIret Cx hr hlk hW hL ⟨iu_8, F_10, ⟨cr_11, (by omega), (by omega)⟩⟩ dX1_branch_31

set_option maxRecDepth 100000 in
set_option maxHeartbeats 4000000 in
theorem z_X1_beginSecondTree (l : Launch) (G : sG) (S : sS)  (hI : cX G S 0 0 0) (hCR : CR G S) (hwt : 1 ≤ S.1 188 14) : Met l yX1_beginSecondTree (.code yX1_beginSecondTree cX1_beginSecondTree 1 none :: tb) (rmk 5 0 0) (sPc G 294 S [.ref (G.2.2.1 + 188)]) (sQv G 294 (fun u => cX G u 0 0 0 ∧ Fr S u pEz ∧ (CR G u ∧ u.1 189 3 ≤ S.1 189 3 + 0))) 0 0 (sF G) := by
  refine sEnter (by decide) (Nat.le_of_ble_eq_true rfl) ?_
  intro p e s m args below meth c Cx hr hlk hnm hW ls hl
  have Cx : sC G p m c cX1_beginSecondTree 1 s args RX1 := Cx
  obtain ⟨hx, hb, hml, hown, hts⟩ := id Cx.1
  have hL : sL G [] := sL_nil
  have hl : lv_has ls 1 [(0, .ref (G.2.2.1 + 188))] := hl
  have hW0 := hW
  refine lv_aload_n hx hb dX1_beginSecondTree_0 rfl (lv_at hl 0 rfl) ?_
  refine lv_dup hx hb dX1_beginSecondTree_1 rfl ?_
  have q_1 : 0 ≤ S.1 188 14 ∧ S.1 188 14 ≤ 40 := hI.fi 188 14 1 (by decide) rfl
  refine g_X1_103 Cx hW (k := 188) (by decide) rfl (v := S.1 188 14) rfl dX1_beginSecondTree_2 ?_
  refine lv_iconst (v := iv 1) hx hb dX1_beginSecondTree_5 (by decide) ?_
  refine r_isub hx hb dX1_beginSecondTree_6 ?_
  refine p_X1_103 Cx hW hL (k := 188) (by decide) rfl dX1_beginSecondTree_7 (fun H locs hW hL => ?_)
  have F_2 : Fr S (uF S 188 14 ((S.1 188 14) - 1)) pEz := (Fr.rf : Fr S S pEz).F rfl
  have i_3 : cX G (uF S 188 14 ((S.1 188 14) - 1)) 0 0 0 := hI.F rfl rfl (show 0 ≤ (S.1 188 14) - 1 ∧ (S.1 188 14) - 1 ≤ 40 from ⟨by omega, by omega⟩)
  have cr_4 : CR G (uF S 188 14 ((S.1 188 14) - 1)) := hCR.F (by decide)
  refine lv_aload_n hx hb dX1_beginSecondTree_10 rfl (lv_at hl 0 rfl) ?_
  refine g_X1_21 Cx hW (k := 188) (by decide) rfl (v := .ref (G.2.2.1 + 193)) (rf_188_1 i_3) dX1_beginSecondTree_11 ?_
  refine lv_aload_n hx hb dX1_beginSecondTree_14 rfl (lv_at hl 0 rfl) ?_
  refine g_X1_57 Cx hW (k := 188) (by decide) rfl (v := .ref (G.2.2.1 + 225)) (rf_188_11 i_3) dX1_beginSecondTree_15 ?_
  refine lv_aload_n hx hb dX1_beginSecondTree_18 rfl (lv_at hl 0 rfl) ?_
  refine g_X1_103 Cx hW (k := 188) (by decide) rfl (v := (S.1 188 14) - 1) uF_on dX1_beginSecondTree_19 ?_
  refine rIald Cx hW (k := 225) (by decide) rfl (by decide) (by omega) (by omega) dX1_beginSecondTree_22 ?_
  have q_5 : 0 ≤ S.2.1 225 ((S.1 188 14) - 1) ∧ S.2.1 225 ((S.1 188 14) - 1) ≤ 40 := hI.ai 225 ((S.1 188 14) - 1) (by decide)
  refine r_i (b := S.2.1 225 ((S.1 188 14) - 1)) uF_a ?_
  refine sBv (sV (As := [.int (iv (S.2.1 225 ((S.1 188 14) - 1)))]) (rest := []) (k := 193) Cx (z_X6_keep_193 l G (uF S 188 14 ((S.1 188 14) - 1)) (k := S.2.1 225 ((S.1 188 14) - 1)) i_3 (by omega)) (c_X1_216 Cx rfl rfl (rmk_ok (by omega) (by decide))) hW (by decide) rfl rfl rfl hl.1 rfl (Nat.le_of_ble_eq_true rfl) dX1_beginSecondTree_23 ⟨Nat.le_of_ble_eq_true rfl, Nat.le_of_ble_eq_true rfl⟩) hL (fun u_6 H locs k_7 hW hL => ?_)
  obtain ⟨iu_6, fu_6⟩ := k_7
  have F_8 := F_2.trans (fu_6.to pEw_Ez)
  have cr_9 : CR G u_6 := cr_4.fr fu_6 rfl rfl rfl rfl
  refine lv_aload_n hx hb dX1_beginSecondTree_26 rfl (lv_at hl 0 rfl) ?_
  refine g_X1_48 Cx hW (k := 188) (by decide) rfl (v := .ref (G.2.2.1 + 219)) (rf_188_8 iu_6) dX1_beginSecondTree_27 ?_
  refine lv_aload_n hx hb dX1_beginSecondTree_30 rfl (lv_at hl 0 rfl) ?_
  refine g_X1_63 Cx hW (k := 188) (by decide) rfl (v := .ref (G.2.2.1 + 227)) (rf_188_13 iu_6) dX1_beginSecondTree_31 ?_
  refine lv_aload_n hx hb dX1_beginSecondTree_34 rfl (lv_at hl 0 rfl) ?_
  refine g_X1_103 Cx hW (k := 188) (by decide) rfl (v := (S.1 188 14) - 1) (((fu_6 188 rfl).1 14).trans (uF_on)) dX1_beginSecondTree_35 ?_
  refine lv_bipush (v := iv 8) hx hb dX1_beginSecondTree_38 (by decide) ?_
  refine r_imul hx hb dX1_beginSecondTree_40 ?_
  refine sBv (sV (As := [.ref (G.2.2.1 + 227), .int (iv (((S.1 188 14) - 1) * 8))]) (rest := []) (k := 219) Cx (s_X0_load l G u_6 (o := 219) (k := 227) (a := ((S.1 188 14) - 1) * 8) (N := 328) iu_6 rfl ⟨by decide, rfl, by decide, rfl, rfl, rfl⟩ (by omega)) (c_X1_157 Cx rfl rfl (rmk_ok (by omega) (by decide))) hW (by decide) rfl rfl rfl hl.1 rfl (Nat.le_of_ble_eq_true rfl) dX1_beginSecondTree_41 ⟨Nat.le_of_ble_eq_true rfl, Nat.le_of_ble_eq_true rfl⟩) hL (fun u_10 H locs k_11 hW hL => ?_)
  obtain ⟨iu_10, fu_10, xu_10⟩ := k_11
  have F_12 := F_8.trans (fu_10.to (pB_sub rfl rfl))
  have yu_10 : u_10.1 219 1 ≤ 7 := xu_10.1
  have cr_13 : CR G u_10 := cr_9.fr fu_10 rfl rfl rfl rfl
  refine lv_aload_n hx hb dX1_beginSecondTree_44 rfl (lv_at hl 0 rfl) ?_
  refine g_X1_21 Cx hW (k := 188) (by decide) rfl (v := .ref (G.2.2.1 + 193)) (rf_188_1 iu_10) dX1_beginSecondTree_45 ?_
  refine lv_aload_n hx hb dX1_beginSecondTree_48 rfl (lv_at hl 0 rfl) ?_
  refine g_X1_60 Cx hW (k := 188) (by decide) rfl (v := .ref (G.2.2.1 + 226)) (rf_188_12 iu_10) dX1_beginSecondTree_49 ?_
  refine lv_aload_n hx hb dX1_beginSecondTree_52 rfl (lv_at hl 0 rfl) ?_
  refine g_X1_103 Cx hW (k := 188) (by decide) rfl (v := (S.1 188 14) - 1) (((fu_10 188 rfl).1 14).trans (((fu_6 188 rfl).1 14).trans (uF_on))) dX1_beginSecondTree_53 ?_
  refine rIald Cx hW (k := 226) (by decide) rfl (by decide) (by omega) (by omega) dX1_beginSecondTree_56 ?_
  have q_14 : (-2147483648) ≤ S.2.1 226 ((S.1 188 14) - 1) ∧ S.2.1 226 ((S.1 188 14) - 1) ≤ 2147483647 := hI.ai 226 ((S.1 188 14) - 1) (by decide)
  refine r_i (b := S.2.1 226 ((S.1 188 14) - 1)) (((fu_10 226 rfl).2.1 ((S.1 188 14) - 1)).trans (((fu_6 226 rfl).2.1 ((S.1 188 14) - 1)).trans (uF_a))) ?_
  refine lv_aload_n hx hb dX1_beginSecondTree_57 rfl (lv_at hl 0 rfl) ?_
  refine g_X1_48 Cx hW (k := 188) (by decide) rfl (v := .ref (G.2.2.1 + 219)) (rf_188_8 iu_10) dX1_beginSecondTree_58 ?_
  refine lv_iconst (v := iv 1) hx hb dX1_beginSecondTree_61 (by decide) ?_
  have q_15 : 0 ≤ u_10.1 219 1 ∧ u_10.1 219 1 ≤ 32 := iu_10.fi 219 1 0 (by decide) rfl
  refine sBv (sV (As := [.int (iv (S.2.1 226 ((S.1 188 14) - 1))), .ref (G.2.2.1 + 219), .int (iv 1)]) (rest := []) (k := 193) Cx (z_X6_addLimit_193 l G u_10 (z := S.2.1 226 ((S.1 188 14) - 1)) (ab := 1) iu_10 (by omega) (by omega) (by omega) (fun q => by have e := xu_10.2.1 (by omega); exact e)) (c_X1_212 Cx rfl rfl (rmk_ok (by omega) (by decide))) hW (by decide) rfl rfl rfl hl.1 rfl (Nat.le_of_ble_eq_true rfl) dX1_beginSecondTree_62 ⟨Nat.le_of_ble_eq_true rfl, Nat.le_of_ble_eq_true rfl⟩) hL (fun u_16 H locs k_17 hW hL => ?_)
  obtain ⟨iu_16, fu_16⟩ := k_17
  have F_18 := F_12.trans (fu_16.to pEw_Ez)
  have cr_19 : CR G u_16 := cr_13.fr fu_16 rfl rfl rfl rfl
  have q_20 : 0 ≤ S.1 189 3 ∧ S.1 189 3 ≤ 1000000000 := hI.fi 189 3 4 (by decide) rfl
  have lk_21 : u_16.1 189 3 = S.1 189 3 := ((fu_16 189 rfl).1 3).trans (((fu_10 189 rfl).1 3).trans (((fu_6 189 rfl).1 3).trans (uF_ne (fun h => absurd h.2 (by decide)))))
  exact sVret Cx hr hlk hW hL ⟨iu_16, F_18, ⟨cr_19, (by omega)⟩⟩ dX1_beginSecondTree_65

set_option maxRecDepth 100000 in
set_option maxHeartbeats 4000000 in
theorem z_X1_holdTrees (l : Launch) (G : sG) (S : sS) {hv : Int} (hI : cX G S 0 0 0) (hhv : 0 ≤ hv ∧ hv ≤ 1) (hCR : CR G S) (hat : S.1 189 3 ≤ 1000) : Met l yX1_holdTrees (.code yX1_holdTrees cX1_holdTrees 6 (some .boolean) :: tb) (rmk 7 0 0) (sPc G 294 S [.ref (G.2.2.1 + 188), .int (iv hv)]) (sQi G 294 (fun r u => cX G u 0 0 0 ∧ Fr S u pEz ∧ (CR G u ∧ 0 ≤ r ∧ r ≤ 1))) 0 0 (sF G) := by
  refine sEnter (by decide) (Nat.le_of_ble_eq_true rfl) ?_
  intro p e s m args below meth c Cx hr hlk hnm hW ls hl
  have Cx : sC G p m c cX1_holdTrees 6 s args RX1 := Cx
  obtain ⟨hx, hb, hml, hown, hts⟩ := id Cx.1
  have hL : sL G [] := sL_nil
  have hl : lv_has ls 6 [(0, .ref (G.2.2.1 + 188)), (1, .int (iv hv))] := hl
  have hW0 := hW
  have hat0 : 0 ≤ S.1 189 3 ∧ S.1 189 3 ≤ 1000000000 := hI.fi 189 3 4 (by decide) rfl
  refine lv_iconst (v := iv 1) hx hb dX1_holdTrees_0 (by decide) ?_
  refine lv_istore_n (lv' := [(2, .int (iv 1)), (0, .ref (G.2.2.1 + 188)), (1, .int (iv hv))]) hx hb dX1_holdTrees_1 rfl hl (by decide) rfl (fun ls hl => ?_)
  have loop_2 : ∀ (fuel : Nat) (S2 : sS) (tr : Int) (H : Heap) (locs : List Loc) (ls : Array Slot), (3001 - tr).toNat < fuel → (cX G S2 0 0 0) → (Fr S S2 pEz) → (Fr S S2 pEz) → (1 ≤ tr ∧ tr ≤ 3001) → (S2.1 189 3 ≤ S.1 189 3 + 90021 * (tr - 1)) → (CR G S2) → sW G 294 S2 H → sL G locs → lv_has ls 6 [(2, .int (iv tr)), (0, .ref (G.2.2.1 + 188)), (1, .int (iv hv))] → W p l e (rmk 7 0 0) s m args below meth c H locs 0 0 (MQ below (sQi G 294 (fun r u => cX G u 0 0 0 ∧ Fr S u pEz ∧ (CR G u ∧ 0 ≤ r ∧ r ≤ 1))) args s 0 0 (sF G)) (F0 m 2 ls []) := by
    intro fuel
    induction fuel with
    | zero => intro S2 tr H locs ls hmeas hI2 hFm2 hL2_ htr ha2 hCR2 hW hL hl; exact absurd hmeas (Nat.not_lt_zero _)
    | succ fuel ih_2 =>
      intro S2 tr H locs ls hmeas hI2 hFm2 hL2_ htr ha2 hCR2 hW hL hl
      refine lv_iload_n hx hb dX1_holdTrees_2 rfl (lv_at hl 0 rfl) ?_
      refine lv_sipush (v := iv 3000) hx hb dX1_holdTrees_3 (by decide) ?_
      refine r_icmp_gt (tgt := 99) hx hb ⟨(by omega), (by omega)⟩ ⟨(by omega), (by omega)⟩ dX1_holdTrees_6 (by decide) (fun c_1 => ?_) (fun c_1 => ?_)
      · refine lv_aload_n hx hb dX1_holdTrees_99 rfl (lv_at hl 1 rfl) ?_
        refine lv_bipush (v := iv 6) hx hb dX1_holdTrees_100 (by decide) ?_
        refine lv_aload_n hx hb dX1_holdTrees_102 rfl (lv_at hl 1 rfl) ?_
        refine g_X1_12 Cx hW (k := 188) (by decide) rfl (v := .ref (G.2.2.1 + 189)) (rf_188_0 hI2) dX1_holdTrees_103 ?_
        have q_2 : 0 ≤ S2.1 189 3 ∧ S2.1 189 3 ≤ 1000000000 := hI2.fi 189 3 4 (by decide) rfl
        have q_3 : 0 ≤ S2.1 189 2 ∧ S2.1 189 2 ≤ 30001 := hI2.fi 189 2 4 (by decide) rfl
        refine sBi (sV (As := []) (rest := [.int (iv 6), .ref (G.2.2.1 + 188)]) (k := 189) Cx (s_X4_start l G S2  hI2) (c_X1_91 Cx rfl rfl (rmk_ok (by omega) (by decide))) hW (by decide) rfl rfl rfl hl.1 rfl (Nat.le_of_ble_eq_true rfl) dX1_holdTrees_106 ⟨Nat.le_of_ble_eq_true rfl, Nat.le_of_ble_eq_true rfl⟩) hL (fun r_6 u_4 H locs k_5 hW hL => ?_)
        obtain ⟨eu_4, xu_4⟩ := k_5
        rw [eu_4] at hW
        refine sBi (sV (As := [.int (iv 6), .int (iv r_6)]) (rest := []) (k := 188) Cx (s_X1_fail l G S2 (kn := 6) (wh := r_6) hI2 (by omega) (by omega)) (c_X1_95 Cx rfl rfl (rmk_ok (by omega) (by decide))) hW (by decide) rfl rfl rfl hl.1 rfl (Nat.le_of_ble_eq_true rfl) dX1_holdTrees_109 ⟨Nat.le_of_ble_eq_true rfl, Nat.le_of_ble_eq_true rfl⟩) hL (fun r_9 u_7 H locs k_8 hW hL => ?_)
        obtain ⟨iu_7, fu_7, xu_7⟩ := k_8
        have F_10 := hFm2.trans (fu_7.to (p1_sub rfl))
        have F_11 := hL2_.trans (fu_7.to (p1_sub rfl))
        have cr_12 : CR G u_7 := hCR2.fr fu_7 rfl rfl rfl rfl
        exact sZret Cx hr hlk hW hL (by omega) ⟨iu_7, F_10, ⟨cr_12, (by omega)⟩⟩ dX1_holdTrees_112
      · refine lv_aload_n hx hb dX1_holdTrees_9 rfl (lv_at hl 1 rfl) ?_
        refine g_X1_12 Cx hW (k := 188) (by decide) rfl (v := .ref (G.2.2.1 + 189)) (rf_188_0 hI2) dX1_holdTrees_10 ?_
        have q_13 : 0 ≤ S2.1 189 3 ∧ S2.1 189 3 ≤ 1000000000 := hI2.fi 189 3 4 (by decide) rfl
        have q_14 : 0 ≤ S2.1 189 2 ∧ S2.1 189 2 ≤ 30001 := hI2.fi 189 2 4 (by decide) rfl
        refine sBi (sV (As := []) (rest := []) (k := 189) Cx (s_X4_kind l G S2  hI2) (c_X1_109 Cx rfl rfl (rmk_ok (by omega) (by decide))) hW (by decide) rfl rfl rfl hl.1 rfl (Nat.le_of_ble_eq_true rfl) dX1_holdTrees_13 ⟨Nat.le_of_ble_eq_true rfl, Nat.le_of_ble_eq_true rfl⟩) hL (fun r_17 u_15 H locs k_16 hW hL => ?_)
        obtain ⟨eu_15, xu_15⟩ := k_16
        rw [eu_15] at hW
        refine lv_istore_n (lv' := [(3, .int (iv r_17)), (2, .int (iv tr)), (0, .ref (G.2.2.1 + 188)), (1, .int (iv hv))]) hx hb dX1_holdTrees_16 rfl hl (by decide) rfl (fun ls hl => ?_)
        refine lv_aload_n hx hb dX1_holdTrees_17 rfl (lv_at hl 2 rfl) ?_
        refine g_X1_12 Cx hW (k := 188) (by decide) rfl (v := .ref (G.2.2.1 + 189)) (rf_188_0 hI2) dX1_holdTrees_18 ?_
        refine sBi (sV (As := []) (rest := []) (k := 189) Cx (s_X4_start l G S2  hI2) (c_X1_91 Cx rfl rfl (rmk_ok (by omega) (by decide))) hW (by decide) rfl rfl rfl hl.1 rfl (Nat.le_of_ble_eq_true rfl) dX1_holdTrees_21 ⟨Nat.le_of_ble_eq_true rfl, Nat.le_of_ble_eq_true rfl⟩) hL (fun r_20 u_18 H locs k_19 hW hL => ?_)
        obtain ⟨eu_18, xu_18⟩ := k_19
        rw [eu_18] at hW
        refine lv_istore (lv' := [(4, .int (iv r_20)), (3, .int (iv r_17)), (2, .int (iv tr)), (0, .ref (G.2.2.1 + 188)), (1, .int (iv hv))]) hx hb dX1_holdTrees_24 hl (by decide) rfl (fun ls hl => ?_)
        refine lv_aload_n hx hb dX1_holdTrees_26 rfl (lv_at hl 3 rfl) ?_
        refine g_X1_12 Cx hW (k := 188) (by decide) rfl (v := .ref (G.2.2.1 + 189)) (rf_188_0 hI2) dX1_holdTrees_27 ?_
        refine sBv (sV (As := []) (rest := []) (k := 189) Cx (s_X4_advance l G S2  hI2 (by omega)) (c_X1_119 Cx rfl rfl (rmk_ok (by omega) (by decide))) hW (by decide) rfl rfl rfl hl.1 rfl (Nat.le_of_ble_eq_true rfl) dX1_holdTrees_30 ⟨Nat.le_of_ble_eq_true rfl, Nat.le_of_ble_eq_true rfl⟩) hL (fun u_21 H locs k_22 hW hL => ?_)
        obtain ⟨iu_21, fu_21, xu_21⟩ := k_22
        have F_23 := hFm2.trans (fu_21.to (fun k h => pRd_Ez k (p189_Rd k h)))
        have F_24 := hL2_.trans (fu_21.to (fun k h => pRd_Ez k (p189_Rd k h)))
        have at_u_21 : u_21.1 189 3 = S2.1 189 3 + 1 := by rw [xu_21]; exact uF_on
        have cr_25 : CR G u_21 := by rw [xu_21]; exact hCR2.F (by decide)
        have join_52 : ∀ (S52 : sS) (bd : Int) (H : Heap) (locs : List Loc) (ls : Array Slot), (cX G S52 0 0 0) → (Fr S S52 pEz) → (Fr S S52 pEz) → (Fr u_21 S52 pEz) → (0 ≤ bd ∧ bd ≤ 6) → (S52.1 189 3 ≤ S.1 189 3 + 90021 * tr) → (CR G S52) → sW G 294 S52 H → sL G locs → lv_has ls 6 [(4, .int (iv r_20)), (3, .int (iv r_17)), (2, .int (iv tr)), (0, .ref (G.2.2.1 + 188)), (1, .int (iv hv))] → W p l e (rmk 7 0 0) s m args below meth c H locs 0 0 (MQ below (sQi G 294 (fun r u => cX G u 0 0 0 ∧ Fr S u pEz ∧ (CR G u ∧ 0 ≤ r ∧ r ≤ 1))) args s 0 0 (sF G)) (F0 m 52 ls [.int (iv bd)]) := by
          intro S52 bd H locs ls hI52 hFm52 hFL252 hL52_ hbd ha52 hCR52 hW hL hl
          refine lv_istore (lv' := [(5, .int (iv bd)), (4, .int (iv r_20)), (3, .int (iv r_17)), (2, .int (iv tr)), (0, .ref (G.2.2.1 + 188)), (1, .int (iv hv))]) hx hb dX1_holdTrees_52 hl (by decide) rfl (fun ls hl => ?_)
          refine lv_iload hx hb dX1_holdTrees_54 (lv_at hl 0 rfl) ?_
          refine r_if_eq (tgt := 68) hx hb ⟨(by omega), (by omega)⟩ dX1_holdTrees_56 (by decide) (fun c_26 => ?_) (fun c_26 => ?_)
          · have join_93 : ∀ (S93 : sS)  (H : Heap) (locs : List Loc) (ls : Array Slot), (cX G S93 0 0 0) → (Fr S S93 pEz) → (Fr S S93 pEz) → (Fr u_21 S93 pEz) → (Fr S52 S93 pEz) → (S93.1 189 3 ≤ S.1 189 3 + 90021 * tr) → (CR G S93) → sW G 294 S93 H → sL G locs → lv_has ls 6 [(5, .int (iv bd)), (4, .int (iv r_20)), (3, .int (iv r_17)), (2, .int (iv tr)), (0, .ref (G.2.2.1 + 188)), (1, .int (iv hv))] → W p l e (rmk 7 0 0) s m args below meth c H locs 0 0 (MQ below (sQi G 294 (fun r u => cX G u 0 0 0 ∧ Fr S u pEz ∧ (CR G u ∧ 0 ≤ r ∧ r ≤ 1))) args s 0 0 (sF G)) (F0 m 93 ls []) := by
              intro S93  H locs ls hI93 hFm93 hFL293 hFL5293 hL93_ ha93 hCR93 hW hL hl
              refine lv_iinc (v := iv (tr + 1)) (lv' := [(2, .int (iv (tr + 1))), (5, .int (iv bd)), (4, .int (iv r_20)), (3, .int (iv r_17)), (0, .ref (G.2.2.1 + 188)), (1, .int (iv hv))]) hx hb dX1_holdTrees_93 hl (k := 3) rfl ((Int32.ofInt_add _ _).symm) (by decide) rfl (fun ls hl => ?_)
              refine lv_goto (tgt := 2) hx hb dX1_holdTrees_96 (by decide) ?_
              have q_27 : 0 ≤ S93.1 189 3 ∧ S93.1 189 3 ≤ 1000000000 := hI93.fi 189 3 4 (by decide) rfl
              exact ih_2 S93 (tr + 1) _ _ _ (by omega) hI93 hFm93 hFL293 (by omega) (by omega) hCR93 hW hL (lv_sub hl [0, 4, 5] rfl)
            refine lv_iload_n hx hb dX1_holdTrees_68 rfl (lv_at hl 2 rfl) ?_
            refine lv_bipush (v := iv 14) hx hb dX1_holdTrees_69 (by decide) ?_
            refine r_icmp_eq (tgt := 80) hx hb ⟨(by omega), (by omega)⟩ ⟨(by omega), (by omega)⟩ dX1_holdTrees_71 (by decide) (fun c_28 => ?_) (fun c_28 => ?_)
            · refine lv_aload_n hx hb dX1_holdTrees_80 rfl (lv_at hl 4 rfl) ?_
              have q_29 : 0 ≤ S52.1 188 14 ∧ S52.1 188 14 ≤ 40 := hI52.fi 188 14 1 (by decide) rfl
              refine g_X1_103 Cx hW (k := 188) (by decide) rfl (v := S52.1 188 14) rfl dX1_holdTrees_81 ?_
              refine r_if_ne (tgt := 89) hx hb ⟨(by omega), (by omega)⟩ dX1_holdTrees_84 (by decide) (fun c_30 => ?_) (fun c_30 => ?_)
              · refine lv_aload_n hx hb dX1_holdTrees_89 rfl (lv_at hl 4 rfl) ?_
                have q_31 : 0 ≤ S52.1 189 3 ∧ S52.1 189 3 ≤ 1000000000 := hI52.fi 189 3 4 (by decide) rfl
                refine sBv (sV (As := []) (rest := []) (k := 188) Cx (z_X1_beginSecondTree l G S52  hI52 hCR52 (by omega)) (c_X1_200 Cx rfl rfl (rmk_ok (by omega) (by decide))) hW (by decide) rfl rfl rfl hl.1 rfl (Nat.le_of_ble_eq_true rfl) dX1_holdTrees_90 ⟨Nat.le_of_ble_eq_true rfl, Nat.le_of_ble_eq_true rfl⟩) hL (fun u_32 H locs k_33 hW hL => ?_)
                obtain ⟨iu_32, fu_32, xu_32⟩ := k_33
                have F_34 := hFm52.trans fu_32
                have F_35 := hFL252.trans fu_32
                have F_36 := hL52_.trans fu_32
                have F_37 := (Fr.rf : Fr S52 S52 pEz).trans fu_32
                have cr_38 : CR G u_32 := xu_32.1
                have q_39 : 0 ≤ u_32.1 189 3 ∧ u_32.1 189 3 ≤ 1000000000 := iu_32.fi 189 3 4 (by decide) rfl
                exact join_93 u_32  _ _ _ iu_32 F_34 F_35 F_36 F_37 (by omega) cr_38 hW hL (lv_sub hl [0, 1, 2, 3, 4, 5] rfl)
              · refine lv_iconst (v := iv 1) hx hb dX1_holdTrees_87 (by decide) ?_
                exact sZret Cx hr hlk hW hL (by omega) ⟨hI52, hFm52, ⟨hCR52, (by omega)⟩⟩ dX1_holdTrees_88
            · refine lv_iload_n hx hb dX1_holdTrees_74 rfl (lv_at hl 2 rfl) ?_
              refine lv_bipush (v := iv 15) hx hb dX1_holdTrees_75 (by decide) ?_
              refine r_icmp_ne (tgt := 93) hx hb ⟨(by omega), (by omega)⟩ ⟨(by omega), (by omega)⟩ dX1_holdTrees_77 (by decide) (fun c_40 => ?_) (fun c_40 => ?_)
              · have q_41 : 0 ≤ S52.1 189 3 ∧ S52.1 189 3 ≤ 1000000000 := hI52.fi 189 3 4 (by decide) rfl
                exact join_93 S52  _ _ _ hI52 hFm52 hFL252 hL52_ (Fr.rf : Fr S52 S52 pEz) (by omega) hCR52 hW hL (lv_sub hl [0, 1, 2, 3, 4, 5] rfl)
              · refine lv_aload_n hx hb dX1_holdTrees_80 rfl (lv_at hl 4 rfl) ?_
                have q_42 : 0 ≤ S52.1 188 14 ∧ S52.1 188 14 ≤ 40 := hI52.fi 188 14 1 (by decide) rfl
                refine g_X1_103 Cx hW (k := 188) (by decide) rfl (v := S52.1 188 14) rfl dX1_holdTrees_81 ?_
                refine r_if_ne (tgt := 89) hx hb ⟨(by omega), (by omega)⟩ dX1_holdTrees_84 (by decide) (fun c_43 => ?_) (fun c_43 => ?_)
                · refine lv_aload_n hx hb dX1_holdTrees_89 rfl (lv_at hl 4 rfl) ?_
                  have q_44 : 0 ≤ S52.1 189 3 ∧ S52.1 189 3 ≤ 1000000000 := hI52.fi 189 3 4 (by decide) rfl
                  refine sBv (sV (As := []) (rest := []) (k := 188) Cx (z_X1_beginSecondTree l G S52  hI52 hCR52 (by omega)) (c_X1_200 Cx rfl rfl (rmk_ok (by omega) (by decide))) hW (by decide) rfl rfl rfl hl.1 rfl (Nat.le_of_ble_eq_true rfl) dX1_holdTrees_90 ⟨Nat.le_of_ble_eq_true rfl, Nat.le_of_ble_eq_true rfl⟩) hL (fun u_45 H locs k_46 hW hL => ?_)
                  obtain ⟨iu_45, fu_45, xu_45⟩ := k_46
                  have F_47 := hFm52.trans fu_45
                  have F_48 := hFL252.trans fu_45
                  have F_49 := hL52_.trans fu_45
                  have F_50 := (Fr.rf : Fr S52 S52 pEz).trans fu_45
                  have cr_51 : CR G u_45 := xu_45.1
                  have q_52 : 0 ≤ u_45.1 189 3 ∧ u_45.1 189 3 ≤ 1000000000 := iu_45.fi 189 3 4 (by decide) rfl
                  exact join_93 u_45  _ _ _ iu_45 F_47 F_48 F_49 F_50 (by omega) cr_51 hW hL (lv_sub hl [0, 1, 2, 3, 4, 5] rfl)
                · refine lv_iconst (v := iv 1) hx hb dX1_holdTrees_87 (by decide) ?_
                  exact sZret Cx hr hlk hW hL (by omega) ⟨hI52, hFm52, ⟨hCR52, (by omega)⟩⟩ dX1_holdTrees_88
          · refine lv_aload_n hx hb dX1_holdTrees_59 rfl (lv_at hl 4 rfl) ?_
            refine lv_iload hx hb dX1_holdTrees_60 (lv_at hl 0 rfl) ?_
            refine lv_iload hx hb dX1_holdTrees_62 (lv_at hl 1 rfl) ?_
            refine sBi (sV (As := [.int (iv bd), .int (iv r_20)]) (rest := []) (k := 188) Cx (s_X1_fail l G S52 (kn := bd) (wh := r_20) hI52 (by omega) (by omega)) (c_X1_95 Cx rfl rfl (rmk_ok (by omega) (by decide))) hW (by decide) rfl rfl rfl hl.1 rfl (Nat.le_of_ble_eq_true rfl) dX1_holdTrees_64 ⟨Nat.le_of_ble_eq_true rfl, Nat.le_of_ble_eq_true rfl⟩) hL (fun r_55 u_53 H locs k_54 hW hL => ?_)
            obtain ⟨iu_53, fu_53, xu_53⟩ := k_54
            have F_56 := hFm52.trans (fu_53.to (p1_sub rfl))
            have F_57 := hFL252.trans (fu_53.to (p1_sub rfl))
            have F_58 := hL52_.trans (fu_53.to (p1_sub rfl))
            have cr_59 : CR G u_53 := hCR52.fr fu_53 rfl rfl rfl rfl
            exact sZret Cx hr hlk hW hL (by omega) ⟨iu_53, F_56, ⟨cr_59, (by omega)⟩⟩ dX1_holdTrees_67
        refine lv_iload_n hx hb dX1_holdTrees_33 rfl (lv_at hl 1 rfl) ?_
        refine lv_bipush (v := iv 12) hx hb dX1_holdTrees_34 (by decide) ?_
        refine r_icmp_ne (tgt := 46) hx hb ⟨(by omega), (by omega)⟩ ⟨(by omega), (by omega)⟩ dX1_holdTrees_36 (by decide) (fun c_60 => ?_) (fun c_60 => ?_)
        · refine lv_aload_n hx hb dX1_holdTrees_46 rfl (lv_at hl 3 rfl) ?_
          refine lv_iload_n hx hb dX1_holdTrees_47 rfl (lv_at hl 1 rfl) ?_
          refine lv_iload_n hx hb dX1_holdTrees_48 rfl (lv_at hl 4 rfl) ?_
          have q_61 : 0 ≤ u_21.1 189 3 ∧ u_21.1 189 3 ≤ 1000000000 := iu_21.fi 189 3 4 (by decide) rfl
          refine sBi (sV (As := [.int (iv r_17), .int (iv hv)]) (rest := []) (k := 188) Cx (z_X1_pairTree l G u_21 (wd := r_17) (hv := hv) iu_21 (by omega) (by omega) cr_25 (by omega)) (c_X1_196 Cx rfl rfl (rmk_ok (by omega) (by decide))) hW (by decide) rfl rfl rfl hl.1 rfl (Nat.le_of_ble_eq_true rfl) dX1_holdTrees_49 ⟨Nat.le_of_ble_eq_true rfl, Nat.le_of_ble_eq_true rfl⟩) hL (fun r_64 u_62 H locs k_63 hW hL => ?_)
          obtain ⟨iu_62, fu_62, xu_62⟩ := k_63
          have F_65 := F_23.trans fu_62
          have F_66 := F_24.trans fu_62
          have F_67 := (Fr.rf : Fr u_21 u_21 pEz).trans fu_62
          have cr_68 : CR G u_62 := xu_62.1
          have q_69 : 0 ≤ u_62.1 189 3 ∧ u_62.1 189 3 ≤ 1000000000 := iu_62.fi 189 3 4 (by decide) rfl
          exact join_52 u_62 r_64 _ _ _ iu_62 F_65 F_66 F_67 (by omega) (by omega) cr_68 hW hL (lv_sub hl [0, 1, 2, 3, 4] rfl)
        · refine lv_aload_n hx hb dX1_holdTrees_39 rfl (lv_at hl 3 rfl) ?_
          have q_70 : 0 ≤ u_21.1 189 3 ∧ u_21.1 189 3 ≤ 1000000000 := iu_21.fi 189 3 4 (by decide) rfl
          refine sBi (sV (As := []) (rest := []) (k := 188) Cx (z_X1_branch l G u_21  iu_21 cr_25 (by omega)) (c_X1_193 Cx rfl rfl (rmk_ok (by omega) (by decide))) hW (by decide) rfl rfl rfl hl.1 rfl (Nat.le_of_ble_eq_true rfl) dX1_holdTrees_40 ⟨Nat.le_of_ble_eq_true rfl, Nat.le_of_ble_eq_true rfl⟩) hL (fun r_73 u_71 H locs k_72 hW hL => ?_)
          obtain ⟨iu_71, fu_71, xu_71⟩ := k_72
          have F_74 := F_23.trans fu_71
          have F_75 := F_24.trans fu_71
          have F_76 := (Fr.rf : Fr u_21 u_21 pEz).trans fu_71
          have cr_77 : CR G u_71 := xu_71.1
          refine lv_goto (tgt := 52) hx hb dX1_holdTrees_43 (by decide) ?_
          have q_78 : 0 ≤ u_71.1 189 3 ∧ u_71.1 189 3 ≤ 1000000000 := iu_71.fi 189 3 4 (by decide) rfl
          exact join_52 u_71 r_73 _ _ _ iu_71 F_74 F_75 F_76 (by omega) (by omega) cr_77 hW hL (lv_sub hl [0, 1, 2, 3, 4] rfl)
  have q_79 : 0 ≤ S.1 189 3 ∧ S.1 189 3 ≤ 1000000000 := hI.fi 189 3 4 (by decide) rfl
  exact loop_2 (_ + 1) S 1 _ _ _ (Nat.lt_succ_self _) hI (Fr.rf : Fr S S pEz) Fr.rf (by omega) (by omega) hCR hW hL (lv_sub hl [0, 1, 2] rfl)

set_option maxRecDepth 100000 in
set_option maxHeartbeats 4000000 in
theorem z_X1_holdOptimal (l : Launch) (G : sG) (S : sS)  (hI : cX G S 0 0 0) (hCR : CR G S) (hat : S.1 189 3 ≤ 100) : Met l yX1_holdOptimal (.code yX1_holdOptimal cX1_holdOptimal 3 (some .boolean) :: tb) (rmk 6 0 0) (sPc G 294 S [.ref (G.2.2.1 + 188)]) (sQi G 294 (fun r u => cX G u 0 0 0 ∧ Fr S u pEz ∧ (CR G u ∧ u.1 189 3 ≤ S.1 189 3 + 40 ∧ 0 ≤ r ∧ r ≤ 1))) 0 0 (sF G) := by
  refine sEnter (by decide) (Nat.le_of_ble_eq_true rfl) ?_
  intro p e s m args below meth c Cx hr hlk hnm hW ls hl
  have Cx : sC G p m c cX1_holdOptimal 3 s args RX1 := Cx
  obtain ⟨hx, hb, hml, hown, hts⟩ := id Cx.1
  have hL : sL G [] := sL_nil
  have hl : lv_has ls 3 [(0, .ref (G.2.2.1 + 188))] := hl
  have hW0 := hW
  have hat0 : 0 ≤ S.1 189 3 ∧ S.1 189 3 ≤ 1000000000 := hI.fi 189 3 4 (by decide) rfl
  refine lv_aload_n hx hb dX1_holdOptimal_0 rfl (lv_at hl 0 rfl) ?_
  refine g_X1_12 Cx hW (k := 188) (by decide) rfl (v := .ref (G.2.2.1 + 189)) (rf_188_0 hI) dX1_holdOptimal_1 ?_
  have q_1 : 0 ≤ S.1 189 3 ∧ S.1 189 3 ≤ 1000000000 := hI.fi 189 3 4 (by decide) rfl
  have q_2 : 0 ≤ S.1 189 2 ∧ S.1 189 2 ≤ 30001 := hI.fi 189 2 4 (by decide) rfl
  refine sBi (sV (As := []) (rest := []) (k := 189) Cx (s_X4_start l G S  hI) (c_X1_91 Cx rfl rfl (rmk_ok (by omega) (by decide))) hW (by decide) rfl rfl rfl hl.1 rfl (Nat.le_of_ble_eq_true rfl) dX1_holdOptimal_4 ⟨Nat.le_of_ble_eq_true rfl, Nat.le_of_ble_eq_true rfl⟩) hL (fun r_5 u_3 H locs k_4 hW hL => ?_)
  obtain ⟨eu_3, xu_3⟩ := k_4
  rw [eu_3] at hW
  refine lv_istore_n (lv' := [(1, .int (iv r_5)), (0, .ref (G.2.2.1 + 188))]) hx hb dX1_holdOptimal_7 rfl hl (by decide) rfl (fun ls hl => ?_)
  refine lv_aload_n hx hb dX1_holdOptimal_8 rfl (lv_at hl 1 rfl) ?_
  refine g_X1_12 Cx hW (k := 188) (by decide) rfl (v := .ref (G.2.2.1 + 189)) (rf_188_0 hI) dX1_holdOptimal_9 ?_
  refine sBv (sV (As := []) (rest := []) (k := 189) Cx (s_X4_advance l G S  hI (by omega)) (c_X1_119 Cx rfl rfl (rmk_ok (by omega) (by decide))) hW (by decide) rfl rfl rfl hl.1 rfl (Nat.le_of_ble_eq_true rfl) dX1_holdOptimal_12 ⟨Nat.le_of_ble_eq_true rfl, Nat.le_of_ble_eq_true rfl⟩) hL (fun u_6 H locs k_7 hW hL => ?_)
  obtain ⟨iu_6, fu_6, xu_6⟩ := k_7
  have F_8 := (Fr.rf : Fr S S pEz).trans (fu_6.to (fun k h => pRd_Ez k (p189_Rd k h)))
  have at_u_6 : u_6.1 189 3 = S.1 189 3 + 1 := by rw [xu_6]; exact uF_on
  have cr_9 : CR G u_6 := by rw [xu_6]; exact hCR.F (by decide)
  refine lv_aload_n hx hb dX1_holdOptimal_15 rfl (lv_at hl 1 rfl) ?_
  refine g_X1_12 Cx hW (k := 188) (by decide) rfl (v := .ref (G.2.2.1 + 189)) (rf_188_0 iu_6) dX1_holdOptimal_16 ?_
  refine lv_aload_n hx hb dX1_holdOptimal_19 rfl (lv_at hl 1 rfl) ?_
  refine g_X1_32 Cx hW (k := 188) (by decide) rfl (v := .ref (G.2.2.1 + 209)) (rf_188_3 iu_6) dX1_holdOptimal_20 ?_
  have q_10 : 0 ≤ u_6.1 189 3 ∧ u_6.1 189 3 ≤ 1000000000 := iu_6.fi 189 3 4 (by decide) rfl
  refine sBv (sV (As := [.ref (G.2.2.1 + 209)]) (rest := []) (k := 189) Cx (s_X4_takeNumber_209 l G u_6  iu_6 cr_9 (by omega)) (c_X1_126 Cx rfl rfl (rmk_ok (by omega) (by decide))) hW (by decide) rfl rfl rfl hl.1 rfl (Nat.le_of_ble_eq_true rfl) dX1_holdOptimal_23 ⟨Nat.le_of_ble_eq_true rfl, Nat.le_of_ble_eq_true rfl⟩) hL (fun u_11 H locs k_12 hW hL => ?_)
  obtain ⟨iu_11, fu_11, xu_11⟩ := k_12
  have F_13 := F_8.trans (fu_11.to (pRg_sub rfl rfl rfl))
  have cr_14 : CR G u_11 := xu_11.1
  refine lv_aload_n hx hb dX1_holdOptimal_26 rfl (lv_at hl 1 rfl) ?_
  refine g_X1_12 Cx hW (k := 188) (by decide) rfl (v := .ref (G.2.2.1 + 189)) (rf_188_0 iu_11) dX1_holdOptimal_27 ?_
  have q_15 : 0 ≤ u_11.1 189 3 ∧ u_11.1 189 3 ≤ 1000000000 := iu_11.fi 189 3 4 (by decide) rfl
  refine sBv (sV (As := []) (rest := []) (k := 189) Cx (s_X4_advance l G u_11  iu_11 (by omega)) (c_X1_119 Cx rfl rfl (rmk_ok (by omega) (by decide))) hW (by decide) rfl rfl rfl hl.1 rfl (Nat.le_of_ble_eq_true rfl) dX1_holdOptimal_30 ⟨Nat.le_of_ble_eq_true rfl, Nat.le_of_ble_eq_true rfl⟩) hL (fun u_16 H locs k_17 hW hL => ?_)
  obtain ⟨iu_16, fu_16, xu_16⟩ := k_17
  have F_18 := F_13.trans (fu_16.to (fun k h => pRd_Ez k (p189_Rd k h)))
  have at_u_16 : u_16.1 189 3 = u_11.1 189 3 + 1 := by rw [xu_16]; exact uF_on
  have cr_19 : CR G u_16 := by rw [xu_16]; exact cr_14.F (by decide)
  refine lv_aload_n hx hb dX1_holdOptimal_33 rfl (lv_at hl 1 rfl) ?_
  refine g_X1_12 Cx hW (k := 188) (by decide) rfl (v := .ref (G.2.2.1 + 189)) (rf_188_0 iu_16) dX1_holdOptimal_34 ?_
  refine lv_aload_n hx hb dX1_holdOptimal_37 rfl (lv_at hl 1 rfl) ?_
  refine g_X1_36 Cx hW (k := 188) (by decide) rfl (v := .ref (G.2.2.1 + 211)) (rf_188_4 iu_16) dX1_holdOptimal_38 ?_
  have q_20 : 0 ≤ u_16.1 189 3 ∧ u_16.1 189 3 ≤ 1000000000 := iu_16.fi 189 3 4 (by decide) rfl
  refine sBv (sV (As := [.ref (G.2.2.1 + 211)]) (rest := []) (k := 189) Cx (s_X4_takeNumber_211 l G u_16  iu_16 cr_19 (by omega)) (c_X1_126 Cx rfl rfl (rmk_ok (by omega) (by decide))) hW (by decide) rfl rfl rfl hl.1 rfl (Nat.le_of_ble_eq_true rfl) dX1_holdOptimal_41 ⟨Nat.le_of_ble_eq_true rfl, Nat.le_of_ble_eq_true rfl⟩) hL (fun u_21 H locs k_22 hW hL => ?_)
  obtain ⟨iu_21, fu_21, xu_21⟩ := k_22
  have F_23 := F_18.trans (fu_21.to (pRg_sub rfl rfl rfl))
  have cr_24 : CR G u_21 := xu_21.1
  have join_61 : ∀ (S61 : sS)  (H : Heap) (locs : List Loc) (ls : Array Slot), (cX G S61 0 0 0) → (Fr S S61 pEz) → (Fr u_21 S61 pEz) → (S61.1 189 3 ≤ S.1 189 3 + 4) → (CR G S61) → sW G 294 S61 H → sL G locs → lv_has ls 3 [(1, .int (iv r_5)), (0, .ref (G.2.2.1 + 188))] → W p l e (rmk 6 0 0) s m args below meth c H locs 0 0 (MQ below (sQi G 294 (fun r u => cX G u 0 0 0 ∧ Fr S u pEz ∧ (CR G u ∧ u.1 189 3 ≤ S.1 189 3 + 40 ∧ 0 ≤ r ∧ r ≤ 1))) args s 0 0 (sF G)) (F0 m 61 ls []) := by
    intro S61  H locs ls hI61 hFm61 hL61_ ha61 hCR61 hW hL hl
    refine lv_aload_n hx hb dX1_holdOptimal_61 rfl (lv_at hl 1 rfl) ?_
    refine g_X1_12 Cx hW (k := 188) (by decide) rfl (v := .ref (G.2.2.1 + 189)) (rf_188_0 hI61) dX1_holdOptimal_62 ?_
    have q_25 : 0 ≤ S61.1 189 3 ∧ S61.1 189 3 ≤ 1000000000 := hI61.fi 189 3 4 (by decide) rfl
    have q_26 : 0 ≤ S61.1 189 2 ∧ S61.1 189 2 ≤ 30001 := hI61.fi 189 2 4 (by decide) rfl
    refine sBi (sV (As := []) (rest := []) (k := 189) Cx (s_X4_start l G S61  hI61) (c_X1_91 Cx rfl rfl (rmk_ok (by omega) (by decide))) hW (by decide) rfl rfl rfl hl.1 rfl (Nat.le_of_ble_eq_true rfl) dX1_holdOptimal_65 ⟨Nat.le_of_ble_eq_true rfl, Nat.le_of_ble_eq_true rfl⟩) hL (fun r_29 u_27 H locs k_28 hW hL => ?_)
    obtain ⟨eu_27, xu_27⟩ := k_28
    rw [eu_27] at hW
    refine lv_istore_n (lv' := [(2, .int (iv r_29)), (1, .int (iv r_5)), (0, .ref (G.2.2.1 + 188))]) hx hb dX1_holdOptimal_68 rfl hl (by decide) rfl (fun ls hl => ?_)
    refine lv_aload_n hx hb dX1_holdOptimal_69 rfl (lv_at hl 2 rfl) ?_
    refine sBv (sV (As := []) (rest := []) (k := 188) Cx (s_X1_takePoint l G S61  hI61 hCR61 (by omega)) (c_X1_137 Cx rfl rfl (rmk_ok (by omega) (by decide))) hW (by decide) rfl rfl rfl hl.1 rfl (Nat.le_of_ble_eq_true rfl) dX1_holdOptimal_70 ⟨Nat.le_of_ble_eq_true rfl, Nat.le_of_ble_eq_true rfl⟩) hL (fun u_30 H locs k_31 hW hL => ?_)
    obtain ⟨iu_30, fu_30, xu_30⟩ := k_31
    have F_32 := hFm61.trans (fu_30.to pTp_Ez)
    have F_33 := hL61_.trans (fu_30.to pTp_Ez)
    have cr_34 : CR G u_30 := xu_30.1
    refine lv_aload_n hx hb dX1_holdOptimal_73 rfl (lv_at hl 2 rfl) ?_
    refine sBi (sV (As := []) (rest := []) (k := 188) Cx (s_X1_isValue l G u_30  iu_30) (c_X1_140 Cx rfl rfl (rmk_ok (by omega) (by decide))) hW (by decide) rfl rfl rfl hl.1 rfl (Nat.le_of_ble_eq_true rfl) dX1_holdOptimal_74 ⟨Nat.le_of_ble_eq_true rfl, Nat.le_of_ble_eq_true rfl⟩) hL (fun r_37 u_35 H locs k_36 hW hL => ?_)
    obtain ⟨iu_35, fu_35, xu_35⟩ := k_36
    have F_38 := F_32.trans (fu_35.to (fun k h => pS12_Ez k (pS8_12 k h)))
    have F_39 := F_33.trans (fu_35.to (fun k h => pS12_Ez k (pS8_12 k h)))
    have cr_40 : CR G u_35 := cr_34.fr fu_35 rfl rfl rfl rfl
    refine r_if_ne (tgt := 87) hx hb ⟨(by omega), (by omega)⟩ dX1_holdOptimal_77 (by decide) (fun c_41 => ?_) (fun c_41 => ?_)
    · refine lv_aload_n hx hb dX1_holdOptimal_87 rfl (lv_at hl 2 rfl) ?_
      refine lv_iconst (v := iv 1) hx hb dX1_holdOptimal_88 (by decide) ?_
      refine sBi (sV (As := [.int (iv 1)]) (rest := []) (k := 188) Cx (s_X1_isPoint l G u_35 (mw := 1) iu_35 (by omega)) (c_X1_143 Cx rfl rfl (rmk_ok (by omega) (by decide))) hW (by decide) rfl rfl rfl hl.1 rfl (Nat.le_of_ble_eq_true rfl) dX1_holdOptimal_89 ⟨Nat.le_of_ble_eq_true rfl, Nat.le_of_ble_eq_true rfl⟩) hL (fun r_44 u_42 H locs k_43 hW hL => ?_)
      obtain ⟨iu_42, fu_42, xu_42⟩ := k_43
      have F_45 := F_38.trans (fu_42.to pS12_Ez)
      have F_46 := F_39.trans (fu_42.to pS12_Ez)
      have cr_47 : CR G u_42 := cr_40.fr fu_42 rfl rfl rfl rfl
      refine r_if_ne (tgt := 104) hx hb ⟨(by omega), (by omega)⟩ dX1_holdOptimal_92 (by decide) (fun c_48 => ?_) (fun c_48 => ?_)
      · refine lv_iconst (v := iv 1) hx hb dX1_holdOptimal_104 (by decide) ?_
        refine lv_goto (tgt := 109) hx hb dX1_holdOptimal_105 (by decide) ?_
        have q_49 : 0 ≤ u_30.1 189 3 ∧ u_30.1 189 3 ≤ 1000000000 := iu_30.fi 189 3 4 (by decide) rfl
        have lk_50 : u_42.1 189 3 = u_30.1 189 3 := ((fu_42 189 rfl).1 3).trans ((fu_35 189 rfl).1 3)
        exact sZret Cx hr hlk hW hL (by omega) ⟨iu_42, F_45, ⟨cr_47, (by omega), (by omega)⟩⟩ dX1_holdOptimal_109
      · refine lv_aload_n hx hb dX1_holdOptimal_95 rfl (lv_at hl 2 rfl) ?_
        refine lv_iconst (v := iv 2) hx hb dX1_holdOptimal_96 (by decide) ?_
        refine lv_iload_n hx hb dX1_holdOptimal_97 rfl (lv_at hl 0 rfl) ?_
        refine sBi (sV (As := [.int (iv 2), .int (iv r_29)]) (rest := []) (k := 188) Cx (s_X1_fail l G u_42 (kn := 2) (wh := r_29) iu_42 (by omega) (by omega)) (c_X1_95 Cx rfl rfl (rmk_ok (by omega) (by decide))) hW (by decide) rfl rfl rfl hl.1 rfl (Nat.le_of_ble_eq_true rfl) dX1_holdOptimal_98 ⟨Nat.le_of_ble_eq_true rfl, Nat.le_of_ble_eq_true rfl⟩) hL (fun r_53 u_51 H locs k_52 hW hL => ?_)
        obtain ⟨iu_51, fu_51, xu_51⟩ := k_52
        have F_54 := F_45.trans (fu_51.to (p1_sub rfl))
        have F_55 := F_46.trans (fu_51.to (p1_sub rfl))
        have cr_56 : CR G u_51 := cr_47.fr fu_51 rfl rfl rfl rfl
        refine r_if_eq (tgt := 108) hx hb ⟨(by omega), (by omega)⟩ dX1_holdOptimal_101 (by decide) (fun c_57 => ?_) (fun c_57 => ?_)
        · refine lv_iconst (v := iv 0) hx hb dX1_holdOptimal_108 (by decide) ?_
          have q_58 : 0 ≤ u_30.1 189 3 ∧ u_30.1 189 3 ≤ 1000000000 := iu_30.fi 189 3 4 (by decide) rfl
          have lk_59 : u_51.1 189 3 = u_30.1 189 3 := ((fu_51 189 rfl).1 3).trans (((fu_42 189 rfl).1 3).trans ((fu_35 189 rfl).1 3))
          exact sZret Cx hr hlk hW hL (by omega) ⟨iu_51, F_54, ⟨cr_56, (by omega), (by omega)⟩⟩ dX1_holdOptimal_109
        · refine lv_iconst (v := iv 1) hx hb dX1_holdOptimal_104 (by decide) ?_
          refine lv_goto (tgt := 109) hx hb dX1_holdOptimal_105 (by decide) ?_
          have q_60 : 0 ≤ u_30.1 189 3 ∧ u_30.1 189 3 ≤ 1000000000 := iu_30.fi 189 3 4 (by decide) rfl
          have lk_61 : u_51.1 189 3 = u_30.1 189 3 := ((fu_51 189 rfl).1 3).trans (((fu_42 189 rfl).1 3).trans ((fu_35 189 rfl).1 3))
          exact sZret Cx hr hlk hW hL (by omega) ⟨iu_51, F_54, ⟨cr_56, (by omega), (by omega)⟩⟩ dX1_holdOptimal_109
    · refine lv_aload_n hx hb dX1_holdOptimal_80 rfl (lv_at hl 2 rfl) ?_
      refine lv_iconst (v := iv 3) hx hb dX1_holdOptimal_81 (by decide) ?_
      refine lv_iload_n hx hb dX1_holdOptimal_82 rfl (lv_at hl 1 rfl) ?_
      refine sBi (sV (As := [.int (iv 3), .int (iv r_5)]) (rest := []) (k := 188) Cx (s_X1_fail l G u_35 (kn := 3) (wh := r_5) iu_35 (by omega) (by omega)) (c_X1_95 Cx rfl rfl (rmk_ok (by omega) (by decide))) hW (by decide) rfl rfl rfl hl.1 rfl (Nat.le_of_ble_eq_true rfl) dX1_holdOptimal_83 ⟨Nat.le_of_ble_eq_true rfl, Nat.le_of_ble_eq_true rfl⟩) hL (fun r_64 u_62 H locs k_63 hW hL => ?_)
      obtain ⟨iu_62, fu_62, xu_62⟩ := k_63
      have F_65 := F_38.trans (fu_62.to (p1_sub rfl))
      have F_66 := F_39.trans (fu_62.to (p1_sub rfl))
      have cr_67 : CR G u_62 := cr_40.fr fu_62 rfl rfl rfl rfl
      have q_68 : 0 ≤ u_30.1 189 3 ∧ u_30.1 189 3 ≤ 1000000000 := iu_30.fi 189 3 4 (by decide) rfl
      have lk_69 : u_62.1 189 3 = u_30.1 189 3 := ((fu_62 189 rfl).1 3).trans ((fu_35 189 rfl).1 3)
      exact sZret Cx hr hlk hW hL (by omega) ⟨iu_62, F_65, ⟨cr_67, (by omega), (by omega)⟩⟩ dX1_holdOptimal_86
  refine lv_aload_n hx hb dX1_holdOptimal_44 rfl (lv_at hl 1 rfl) ?_
  obtain ⟨o_70, mo_70, eo_70⟩ := hI.rm.2.2.2.1
  refine g_X1_69 Cx hW (k := 188) (by decide) rfl (v := .ref (G.2.2.1 + o_70)) ((((fu_21 188 rfl).2.2.2 15).trans (((fu_16 188 rfl).2.2.2 15).trans (((fu_11 188 rfl).2.2.2 15).trans ((fu_6 188 rfl).2.2.2 15)))).trans eo_70) dX1_holdOptimal_45 ?_
  have q_71 : 0 ≤ u_21.1 o_70 4 ∧ u_21.1 o_70 4 ≤ 1 := iu_21.fi o_70 4 3 (mdl_k mo_70) mo_70.1
  refine g_X1_130 Cx hW (k := o_70) (mdl_l mo_70) mo_70.1 (v := u_21.1 o_70 4) rfl dX1_holdOptimal_48 ?_
  refine r_if_ne (tgt := 61) hx hb ⟨(by omega), (by omega)⟩ dX1_holdOptimal_51 (by decide) (fun c_72 => ?_) (fun c_72 => ?_)
  · have q_73 : 0 ≤ u_21.1 189 3 ∧ u_21.1 189 3 ≤ 1000000000 := iu_21.fi 189 3 4 (by decide) rfl
    exact join_61 u_21  _ _ _ iu_21 F_23 (Fr.rf : Fr u_21 u_21 pEz) (by omega) cr_24 hW hL (lv_sub hl [0, 1] rfl)
  · refine lv_aload_n hx hb dX1_holdOptimal_54 rfl (lv_at hl 1 rfl) ?_
    refine g_X1_32 Cx hW (k := 188) (by decide) rfl (v := .ref (G.2.2.1 + 209)) (rf_188_3 iu_21) dX1_holdOptimal_55 ?_
    have q_74 : 0 ≤ u_11.1 209 1 ∧ u_11.1 209 1 ≤ 32 := iu_11.fi 209 1 0 (by decide) rfl
    have lk_75 : u_21.1 209 1 = u_11.1 209 1 := ((fu_21 209 rfl).1 1).trans ((fu_16 209 rfl).1 1)
    have q_76 : (-1) ≤ u_11.1 209 2 ∧ u_11.1 209 2 ≤ 1 := iu_11.fi 209 2 0 (by decide) rfl
    have lk_77 : u_21.1 209 2 = u_11.1 209 2 := ((fu_21 209 rfl).1 2).trans ((fu_16 209 rfl).1 2)
    refine sBv (sV (As := []) (rest := []) (k := 209) Cx (s_X0_turn l G u_21 (o := 209) iu_21 rfl) (c_X1_134 Cx rfl rfl (rmk_ok (by omega) (by decide))) hW (by decide) rfl rfl rfl hl.1 rfl (Nat.le_of_ble_eq_true rfl) dX1_holdOptimal_58 ⟨Nat.le_of_ble_eq_true rfl, Nat.le_of_ble_eq_true rfl⟩) hL (fun u_78 H locs k_79 hW hL => ?_)
    obtain ⟨iu_78, fu_78, xu_78⟩ := k_79
    have F_80 := F_23.trans (fu_78.to (pB_sub rfl rfl))
    have F_81 := (Fr.rf : Fr u_21 u_21 pEz).trans (fu_78.to (pB_sub rfl rfl))
    have cr_82 : CR G u_78 := cr_24.fr fu_78 rfl rfl rfl rfl
    have q_83 : 0 ≤ u_21.1 189 3 ∧ u_21.1 189 3 ≤ 1000000000 := iu_21.fi 189 3 4 (by decide) rfl
    have lk_84 : u_78.1 189 3 = u_21.1 189 3 := (fu_78 189 rfl).1 3
    exact join_61 u_78  _ _ _ iu_78 F_80 F_81 (by omega) cr_82 hW hL (lv_sub hl [0, 1] rfl)

set_option maxRecDepth 100000 in
set_option maxHeartbeats 4000000 in
theorem z_X1_holdUnbounded (l : Launch) (G : sG) (S : sS)  (hI : cX G S 0 0 0) (hCR : CR G S) (hat : S.1 189 3 ≤ 100) : Met l yX1_holdUnbounded (.code yX1_holdUnbounded cX1_holdUnbounded 3 (some .boolean) :: tb) (rmk 6 0 0) (sPc G 294 S [.ref (G.2.2.1 + 188)]) (sQi G 294 (fun r u => cX G u 0 0 0 ∧ Fr S u pEz ∧ (CR G u ∧ u.1 189 3 ≤ S.1 189 3 + 40 ∧ 0 ≤ r ∧ r ≤ 1))) 0 0 (sF G) := by
  refine sEnter (by decide) (Nat.le_of_ble_eq_true rfl) ?_
  intro p e s m args below meth c Cx hr hlk hnm hW ls hl
  have Cx : sC G p m c cX1_holdUnbounded 3 s args RX1 := Cx
  obtain ⟨hx, hb, hml, hown, hts⟩ := id Cx.1
  have hL : sL G [] := sL_nil
  have hl : lv_has ls 3 [(0, .ref (G.2.2.1 + 188))] := hl
  have hW0 := hW
  have hat0 : 0 ≤ S.1 189 3 ∧ S.1 189 3 ≤ 1000000000 := hI.fi 189 3 4 (by decide) rfl
  refine lv_aload_n hx hb dX1_holdUnbounded_0 rfl (lv_at hl 0 rfl) ?_
  refine g_X1_12 Cx hW (k := 188) (by decide) rfl (v := .ref (G.2.2.1 + 189)) (rf_188_0 hI) dX1_holdUnbounded_1 ?_
  have q_1 : 0 ≤ S.1 189 3 ∧ S.1 189 3 ≤ 1000000000 := hI.fi 189 3 4 (by decide) rfl
  refine sBv (sV (As := []) (rest := []) (k := 189) Cx (s_X4_advance l G S  hI (by omega)) (c_X1_119 Cx rfl rfl (rmk_ok (by omega) (by decide))) hW (by decide) rfl rfl rfl hl.1 rfl (Nat.le_of_ble_eq_true rfl) dX1_holdUnbounded_4 ⟨Nat.le_of_ble_eq_true rfl, Nat.le_of_ble_eq_true rfl⟩) hL (fun u_2 H locs k_3 hW hL => ?_)
  obtain ⟨iu_2, fu_2, xu_2⟩ := k_3
  have F_4 := (Fr.rf : Fr S S pEz).trans (fu_2.to (fun k h => pRd_Ez k (p189_Rd k h)))
  have at_u_2 : u_2.1 189 3 = S.1 189 3 + 1 := by rw [xu_2]; exact uF_on
  have cr_5 : CR G u_2 := by rw [xu_2]; exact hCR.F (by decide)
  refine lv_aload_n hx hb dX1_holdUnbounded_7 rfl (lv_at hl 0 rfl) ?_
  refine g_X1_12 Cx hW (k := 188) (by decide) rfl (v := .ref (G.2.2.1 + 189)) (rf_188_0 iu_2) dX1_holdUnbounded_8 ?_
  have q_6 : 0 ≤ u_2.1 189 3 ∧ u_2.1 189 3 ≤ 1000000000 := iu_2.fi 189 3 4 (by decide) rfl
  have q_7 : 0 ≤ u_2.1 189 2 ∧ u_2.1 189 2 ≤ 30001 := iu_2.fi 189 2 4 (by decide) rfl
  refine sBi (sV (As := []) (rest := []) (k := 189) Cx (s_X4_start l G u_2  iu_2) (c_X1_91 Cx rfl rfl (rmk_ok (by omega) (by decide))) hW (by decide) rfl rfl rfl hl.1 rfl (Nat.le_of_ble_eq_true rfl) dX1_holdUnbounded_11 ⟨Nat.le_of_ble_eq_true rfl, Nat.le_of_ble_eq_true rfl⟩) hL (fun r_10 u_8 H locs k_9 hW hL => ?_)
  obtain ⟨eu_8, xu_8⟩ := k_9
  rw [eu_8] at hW
  refine lv_istore_n (lv' := [(1, .int (iv r_10)), (0, .ref (G.2.2.1 + 188))]) hx hb dX1_holdUnbounded_14 rfl hl (by decide) rfl (fun ls hl => ?_)
  refine lv_aload_n hx hb dX1_holdUnbounded_15 rfl (lv_at hl 1 rfl) ?_
  refine sBv (sV (As := []) (rest := []) (k := 188) Cx (s_X1_takePoint l G u_2  iu_2 cr_5 (by omega)) (c_X1_137 Cx rfl rfl (rmk_ok (by omega) (by decide))) hW (by decide) rfl rfl rfl hl.1 rfl (Nat.le_of_ble_eq_true rfl) dX1_holdUnbounded_16 ⟨Nat.le_of_ble_eq_true rfl, Nat.le_of_ble_eq_true rfl⟩) hL (fun u_11 H locs k_12 hW hL => ?_)
  obtain ⟨iu_11, fu_11, xu_11⟩ := k_12
  have F_13 := F_4.trans (fu_11.to pTp_Ez)
  have cr_14 : CR G u_11 := xu_11.1
  refine lv_aload_n hx hb dX1_holdUnbounded_19 rfl (lv_at hl 1 rfl) ?_
  refine lv_iconst (v := iv 0) hx hb dX1_holdUnbounded_20 (by decide) ?_
  refine sBi (sV (As := [.int (iv 0)]) (rest := []) (k := 188) Cx (s_X1_isPoint l G u_11 (mw := 0) iu_11 (by omega)) (c_X1_143 Cx rfl rfl (rmk_ok (by omega) (by decide))) hW (by decide) rfl rfl rfl hl.1 rfl (Nat.le_of_ble_eq_true rfl) dX1_holdUnbounded_21 ⟨Nat.le_of_ble_eq_true rfl, Nat.le_of_ble_eq_true rfl⟩) hL (fun r_17 u_15 H locs k_16 hW hL => ?_)
  obtain ⟨iu_15, fu_15, xu_15⟩ := k_16
  have F_18 := F_13.trans (fu_15.to pS12_Ez)
  have cr_19 : CR G u_15 := cr_14.fr fu_15 rfl rfl rfl rfl
  refine r_if_ne (tgt := 34) hx hb ⟨(by omega), (by omega)⟩ dX1_holdUnbounded_24 (by decide) (fun c_20 => ?_) (fun c_20 => ?_)
  · refine lv_aload_n hx hb dX1_holdUnbounded_34 rfl (lv_at hl 1 rfl) ?_
    refine g_X1_12 Cx hW (k := 188) (by decide) rfl (v := .ref (G.2.2.1 + 189)) (rf_188_0 iu_15) dX1_holdUnbounded_35 ?_
    have q_21 : 0 ≤ u_11.1 189 3 ∧ u_11.1 189 3 ≤ 1000000000 := iu_11.fi 189 3 4 (by decide) rfl
    have lk_22 : u_15.1 189 3 = u_11.1 189 3 := (fu_15 189 rfl).1 3
    have q_23 : 0 ≤ u_11.1 189 2 ∧ u_11.1 189 2 ≤ 30001 := iu_11.fi 189 2 4 (by decide) rfl
    have lk_24 : u_15.1 189 2 = u_11.1 189 2 := (fu_15 189 rfl).1 2
    refine sBi (sV (As := []) (rest := []) (k := 189) Cx (s_X4_start l G u_15  iu_15) (c_X1_91 Cx rfl rfl (rmk_ok (by omega) (by decide))) hW (by decide) rfl rfl rfl hl.1 rfl (Nat.le_of_ble_eq_true rfl) dX1_holdUnbounded_38 ⟨Nat.le_of_ble_eq_true rfl, Nat.le_of_ble_eq_true rfl⟩) hL (fun r_27 u_25 H locs k_26 hW hL => ?_)
    obtain ⟨eu_25, xu_25⟩ := k_26
    rw [eu_25] at hW
    refine lv_istore_n (lv' := [(2, .int (iv r_27)), (1, .int (iv r_10)), (0, .ref (G.2.2.1 + 188))]) hx hb dX1_holdUnbounded_41 rfl hl (by decide) rfl (fun ls hl => ?_)
    refine lv_aload_n hx hb dX1_holdUnbounded_42 rfl (lv_at hl 2 rfl) ?_
    refine sBv (sV (As := []) (rest := []) (k := 188) Cx (s_X1_takePoint l G u_15  iu_15 cr_19 (by omega)) (c_X1_137 Cx rfl rfl (rmk_ok (by omega) (by decide))) hW (by decide) rfl rfl rfl hl.1 rfl (Nat.le_of_ble_eq_true rfl) dX1_holdUnbounded_43 ⟨Nat.le_of_ble_eq_true rfl, Nat.le_of_ble_eq_true rfl⟩) hL (fun u_28 H locs k_29 hW hL => ?_)
    obtain ⟨iu_28, fu_28, xu_28⟩ := k_29
    have F_30 := F_18.trans (fu_28.to pTp_Ez)
    have cr_31 : CR G u_28 := xu_28.1
    refine lv_aload_n hx hb dX1_holdUnbounded_46 rfl (lv_at hl 2 rfl) ?_
    refine sBi (sV (As := []) (rest := []) (k := 188) Cx (s_X1_isAlong l G u_28  iu_28) (c_X1_146 Cx rfl rfl (rmk_ok (by omega) (by decide))) hW (by decide) rfl rfl rfl hl.1 rfl (Nat.le_of_ble_eq_true rfl) dX1_holdUnbounded_47 ⟨Nat.le_of_ble_eq_true rfl, Nat.le_of_ble_eq_true rfl⟩) hL (fun r_34 u_32 H locs k_33 hW hL => ?_)
    obtain ⟨iu_32, fu_32, xu_32⟩ := k_33
    have F_35 := F_30.trans (fu_32.to (fun k h => pS12_Ez k (pS8_12 k h)))
    have cr_36 : CR G u_32 := cr_31.fr fu_32 rfl rfl rfl rfl
    refine r_if_ne (tgt := 62) hx hb ⟨(by omega), (by omega)⟩ dX1_holdUnbounded_50 (by decide) (fun c_37 => ?_) (fun c_37 => ?_)
    · refine lv_iconst (v := iv 1) hx hb dX1_holdUnbounded_62 (by decide) ?_
      refine lv_goto (tgt := 67) hx hb dX1_holdUnbounded_63 (by decide) ?_
      have q_38 : 0 ≤ u_28.1 189 3 ∧ u_28.1 189 3 ≤ 1000000000 := iu_28.fi 189 3 4 (by decide) rfl
      have lk_39 : u_32.1 189 3 = u_28.1 189 3 := (fu_32 189 rfl).1 3
      exact sZret Cx hr hlk hW hL (by omega) ⟨iu_32, F_35, ⟨cr_36, (by omega), (by omega)⟩⟩ dX1_holdUnbounded_67
    · refine lv_aload_n hx hb dX1_holdUnbounded_53 rfl (lv_at hl 2 rfl) ?_
      refine lv_iconst (v := iv 5) hx hb dX1_holdUnbounded_54 (by decide) ?_
      refine lv_iload_n hx hb dX1_holdUnbounded_55 rfl (lv_at hl 0 rfl) ?_
      refine sBi (sV (As := [.int (iv 5), .int (iv r_27)]) (rest := []) (k := 188) Cx (s_X1_fail l G u_32 (kn := 5) (wh := r_27) iu_32 (by omega) (by omega)) (c_X1_95 Cx rfl rfl (rmk_ok (by omega) (by decide))) hW (by decide) rfl rfl rfl hl.1 rfl (Nat.le_of_ble_eq_true rfl) dX1_holdUnbounded_56 ⟨Nat.le_of_ble_eq_true rfl, Nat.le_of_ble_eq_true rfl⟩) hL (fun r_42 u_40 H locs k_41 hW hL => ?_)
      obtain ⟨iu_40, fu_40, xu_40⟩ := k_41
      have F_43 := F_35.trans (fu_40.to (p1_sub rfl))
      have cr_44 : CR G u_40 := cr_36.fr fu_40 rfl rfl rfl rfl
      refine r_if_eq (tgt := 66) hx hb ⟨(by omega), (by omega)⟩ dX1_holdUnbounded_59 (by decide) (fun c_45 => ?_) (fun c_45 => ?_)
      · refine lv_iconst (v := iv 0) hx hb dX1_holdUnbounded_66 (by decide) ?_
        have q_46 : 0 ≤ u_28.1 189 3 ∧ u_28.1 189 3 ≤ 1000000000 := iu_28.fi 189 3 4 (by decide) rfl
        have lk_47 : u_40.1 189 3 = u_28.1 189 3 := ((fu_40 189 rfl).1 3).trans ((fu_32 189 rfl).1 3)
        exact sZret Cx hr hlk hW hL (by omega) ⟨iu_40, F_43, ⟨cr_44, (by omega), (by omega)⟩⟩ dX1_holdUnbounded_67
      · refine lv_iconst (v := iv 1) hx hb dX1_holdUnbounded_62 (by decide) ?_
        refine lv_goto (tgt := 67) hx hb dX1_holdUnbounded_63 (by decide) ?_
        have q_48 : 0 ≤ u_28.1 189 3 ∧ u_28.1 189 3 ≤ 1000000000 := iu_28.fi 189 3 4 (by decide) rfl
        have lk_49 : u_40.1 189 3 = u_28.1 189 3 := ((fu_40 189 rfl).1 3).trans ((fu_32 189 rfl).1 3)
        exact sZret Cx hr hlk hW hL (by omega) ⟨iu_40, F_43, ⟨cr_44, (by omega), (by omega)⟩⟩ dX1_holdUnbounded_67
  · refine lv_aload_n hx hb dX1_holdUnbounded_27 rfl (lv_at hl 1 rfl) ?_
    refine lv_iconst (v := iv 2) hx hb dX1_holdUnbounded_28 (by decide) ?_
    refine lv_iload_n hx hb dX1_holdUnbounded_29 rfl (lv_at hl 0 rfl) ?_
    refine sBi (sV (As := [.int (iv 2), .int (iv r_10)]) (rest := []) (k := 188) Cx (s_X1_fail l G u_15 (kn := 2) (wh := r_10) iu_15 (by omega) (by omega)) (c_X1_95 Cx rfl rfl (rmk_ok (by omega) (by decide))) hW (by decide) rfl rfl rfl hl.1 rfl (Nat.le_of_ble_eq_true rfl) dX1_holdUnbounded_30 ⟨Nat.le_of_ble_eq_true rfl, Nat.le_of_ble_eq_true rfl⟩) hL (fun r_52 u_50 H locs k_51 hW hL => ?_)
    obtain ⟨iu_50, fu_50, xu_50⟩ := k_51
    have F_53 := F_18.trans (fu_50.to (p1_sub rfl))
    have cr_54 : CR G u_50 := cr_19.fr fu_50 rfl rfl rfl rfl
    have q_55 : 0 ≤ u_11.1 189 3 ∧ u_11.1 189 3 ≤ 1000000000 := iu_11.fi 189 3 4 (by decide) rfl
    have lk_56 : u_50.1 189 3 = u_11.1 189 3 := ((fu_50 189 rfl).1 3).trans ((fu_15 189 rfl).1 3)
    exact sZret Cx hr hlk hW hL (by omega) ⟨iu_50, F_53, ⟨cr_54, (by omega), (by omega)⟩⟩ dX1_holdUnbounded_33

set_option maxRecDepth 100000 in
set_option maxHeartbeats 4000000 in
theorem z_X1_hold (l : Launch) (G : sG) (S : sS) {o : Nat} (hI : cX G S 0 0 0) (hm : mdl o) : Met l yX1_hold (.code yX1_hold cX1_hold 4 (some .int) :: tb) (rmk 9 0 0) (sPc G 294 S [.ref (G.2.2.1 + 188), .ref (G.2.2.1 + 1), .ref (G.2.2.1 + o)]) (sQi G 294 (fun r u => cX G u 0 0 0 ∧ Fr S u pEz ∧ (-2147483648 ≤ r ∧ r ≤ 2147483647))) 0 0 (sF G) := by
  refine sEnter (by decide) (Nat.le_of_ble_eq_true rfl) ?_
  intro p e s m args below meth c Cx hr hlk hnm hW ls hl
  have Cx : sC G p m c cX1_hold 4 s args RX1 := Cx
  obtain ⟨hx, hb, hml, hown, hts⟩ := id Cx.1
  have hL : sL G [] := sL_nil
  have hl : lv_has ls 4 [(0, .ref (G.2.2.1 + 188)), (1, .ref (G.2.2.1 + 1)), (2, .ref (G.2.2.1 + o))] := hl
  have hW0 := hW
  refine lv_aload_n hx hb dX1_hold_0 rfl (lv_at hl 0 rfl) ?_
  refine lv_aload_n hx hb dX1_hold_1 rfl (lv_at hl 2 rfl) ?_
  refine p_X1_69 Cx hW hL (k := 188) (by decide) rfl dX1_hold_2 (fun H locs hW hL => ?_)
  have F_1 : Fr S (uR S 188 15 (.ref (G.2.2.1 + o))) pEz := (Fr.rf : Fr S S pEz).R rfl
  have i_2 : cX G (uR S 188 15 (.ref (G.2.2.1 + o))) 0 0 0 := hI.mod188 hm
  refine lv_aload_n hx hb dX1_hold_5 rfl (lv_at hl 0 rfl) ?_
  refine lv_iconst (v := iv 0) hx hb dX1_hold_6 (by decide) ?_
  refine p_X1_77 Cx hW hL (k := 188) (by decide) rfl dX1_hold_7 (fun H locs hW hL => ?_)
  have F_3 : Fr S (uF (uR S 188 15 (.ref (G.2.2.1 + o))) 188 16 0) pEz := F_1.F rfl
  have i_4 : cX G (uF (uR S 188 15 (.ref (G.2.2.1 + o))) 188 16 0) 0 0 0 := i_2.F rfl rfl (show (-2147483648) ≤ 0 ∧ 0 ≤ 2147483647 from ⟨by omega, by omega⟩)
  refine lv_aload_n hx hb dX1_hold_10 rfl (lv_at hl 0 rfl) ?_
  refine lv_iconst (v := iv (-1)) hx hb dX1_hold_11 (by decide) ?_
  refine p_X1_73 Cx hW hL (k := 188) (by decide) rfl dX1_hold_12 (fun H locs hW hL => ?_)
  have F_5 : Fr S (uF (uF (uR S 188 15 (.ref (G.2.2.1 + o))) 188 16 0) 188 17 ((-1))) pEz := F_3.F rfl
  have i_6 : cX G (uF (uF (uR S 188 15 (.ref (G.2.2.1 + o))) 188 16 0) 188 17 ((-1))) 0 0 0 := i_4.F rfl rfl (show (-2147483648) ≤ (-1) ∧ (-1) ≤ 2147483647 from ⟨by omega, by omega⟩)
  refine lv_aload_n hx hb dX1_hold_15 rfl (lv_at hl 0 rfl) ?_
  refine g_X1_12 Cx hW (k := 188) (by decide) rfl (v := .ref (G.2.2.1 + 189)) (rf_188_0 i_6) dX1_hold_16 ?_
  refine lv_aload_n hx hb dX1_hold_19 rfl (lv_at hl 1 rfl) ?_
  refine sBv (sV (As := [.ref (G.2.2.1 + 1)]) (rest := []) (k := 189) Cx (s_X4_open l G (uF (uF (uR S 188 15 (.ref (G.2.2.1 + o))) 188 16 0) 188 17 ((-1)))  i_6) (c_X1_80 Cx rfl rfl (rmk_ok (by omega) (by decide))) hW (by decide) rfl rfl rfl hl.1 rfl (Nat.le_of_ble_eq_true rfl) dX1_hold_20 ⟨Nat.le_of_ble_eq_true rfl, Nat.le_of_ble_eq_true rfl⟩) hL (fun u_7 H locs k_8 hW hL => ?_)
  obtain ⟨iu_7, fu_7, xu_7⟩ := k_8
  have F_9 := F_5.trans (fu_7.to pRd_Ez)
  have hps0 : PS u_7 := ⟨by rw [xu_7.2.2]; exact (iu_7.fi 189 2 4 (by decide) rfl).1, fun k a b => absurd b (by rw [xu_7.2.2]; omega)⟩
  refine lv_aload_n hx hb dX1_hold_23 rfl (lv_at hl 0 rfl) ?_
  refine g_X1_12 Cx hW (k := 188) (by decide) rfl (v := .ref (G.2.2.1 + 189)) (rf_188_0 iu_7) dX1_hold_24 ?_
  refine lv_aload_n hx hb dX1_hold_27 rfl (lv_at hl 0 rfl) ?_
  refine g_X1_69 Cx hW (k := 188) (by decide) rfl (v := .ref (G.2.2.1 + o)) (((fu_7 188 rfl).2.2.2 15).trans ((uF_r).trans ((uF_r).trans (uR_on)))) dX1_hold_28 ?_
  have q_11 : 0 ≤ u_7.1 o 2 ∧ u_7.1 o 2 ≤ 12 := iu_7.fi o 2 3 (mdl_k hm) hm.1
  refine g_X1_84 Cx hW (k := o) (mdl_l hm) hm.1 (v := u_7.1 o 2) rfl dX1_hold_31 ?_
  refine sBi (sV (As := [.int (iv (u_7.1 o 2))]) (rest := []) (k := 189) Cx (s_X4_isProof l G u_7 (vs := u_7.1 o 2) iu_7 (by omega) xu_7.1 (PR.rf hps0).2.2 xu_7.2.1) (c_X1_87 Cx rfl rfl (rmk_ok (by omega) (by decide))) hW (by decide) rfl rfl rfl hl.1 rfl (Nat.le_of_ble_eq_true rfl) dX1_hold_34 ⟨Nat.le_of_ble_eq_true rfl, Nat.le_of_ble_eq_true rfl⟩) hL (fun r_14 u_12 H locs k_13 hW hL => ?_)
  obtain ⟨iu_12, fu_12, xu_12⟩ := k_13
  have F_15 := F_9.trans (fu_12.to (fun k h => pRd_Ez k (p189_Rd k h)))
  refine r_if_ne (tgt := 58) hx hb ⟨(by omega), (by omega)⟩ dX1_hold_37 (by decide) (fun c_17 => ?_) (fun c_17 => ?_)
  · have cr_0 : CR G u_12 := ⟨rt_pr xu_12.2.1 xu_7.1, xu_12.2.2 (by omega)⟩
    refine lv_aload_n hx hb dX1_hold_58 rfl (lv_at hl 0 rfl) ?_
    refine g_X1_21 Cx hW (k := 188) (by decide) rfl (v := .ref (G.2.2.1 + 193)) (rf_188_1 iu_12) dX1_hold_59 ?_
    refine lv_aload_n hx hb dX1_hold_62 rfl (lv_at hl 0 rfl) ?_
    refine g_X1_69 Cx hW (k := 188) (by decide) rfl (v := .ref (G.2.2.1 + o)) (((fu_12 188 rfl).2.2.2 15).trans (((fu_7 188 rfl).2.2.2 15).trans ((uF_r).trans ((uF_r).trans (uR_on))))) dX1_hold_63 ?_
    refine sBv (sV (As := [.ref (G.2.2.1 + o)]) (rest := []) (k := 193) Cx (z_X6_take_193 l G u_12 (md := o) iu_12 hm) (c_X1_99 Cx rfl rfl (rmk_ok (by omega) (by decide))) hW (by decide) rfl rfl rfl hl.1 rfl (Nat.le_of_ble_eq_true rfl) dX1_hold_66 ⟨Nat.le_of_ble_eq_true rfl, Nat.le_of_ble_eq_true rfl⟩) hL (fun u_18 H locs k_19 hW hL => ?_)
    obtain ⟨iu_18, fu_18⟩ := k_19
    have F_20 := F_15.trans (fu_18.to pEw_Ez)
    have cr_21 : CR G u_18 := cr_0.fr fu_18 rfl rfl rfl rfl
    refine lv_aload_n hx hb dX1_hold_69 rfl (lv_at hl 0 rfl) ?_
    refine lv_iconst (v := iv 0) hx hb dX1_hold_70 (by decide) ?_
    refine p_X1_103 Cx hW hL (k := 188) (by decide) rfl dX1_hold_71 (fun H locs hW hL => ?_)
    have F_22 : Fr S (uF u_18 188 14 0) pEz := F_20.F rfl
    have i_23 : cX G (uF u_18 188 14 0) 0 0 0 := iu_18.F rfl rfl (show 0 ≤ 0 ∧ 0 ≤ 40 from ⟨by omega, by omega⟩)
    have cr_24 : CR G (uF u_18 188 14 0) := cr_21.F (by decide)
    refine lv_aload_n hx hb dX1_hold_74 rfl (lv_at hl 0 rfl) ?_
    refine g_X1_12 Cx hW (k := 188) (by decide) rfl (v := .ref (G.2.2.1 + 189)) (rf_188_0 i_23) dX1_hold_75 ?_
    refine sBv (sV (As := []) (rest := []) (k := 189) Cx (s_X4_rewind l G (uF u_18 188 14 0)  i_23) (c_X1_106 Cx rfl rfl (rmk_ok (by omega) (by decide))) hW (by decide) rfl rfl rfl hl.1 rfl (Nat.le_of_ble_eq_true rfl) dX1_hold_78 ⟨Nat.le_of_ble_eq_true rfl, Nat.le_of_ble_eq_true rfl⟩) hL (fun u_25 H locs k_26 hW hL => ?_)
    obtain ⟨iu_25, fu_25, xu_25⟩ := k_26
    have F_27 := F_22.trans (fu_25.to (fun k h => pRd_Ez k (p189_Rd k h)))
    have at_u_25 : u_25.1 189 3 = 0 := by rw [xu_25]; exact uF_on
    have cr_28 : CR G u_25 := by rw [xu_25]; exact cr_24.F (by decide)
    refine lv_aload_n hx hb dX1_hold_81 rfl (lv_at hl 0 rfl) ?_
    refine g_X1_12 Cx hW (k := 188) (by decide) rfl (v := .ref (G.2.2.1 + 189)) (rf_188_0 iu_25) dX1_hold_82 ?_
    have q_29 : 0 ≤ u_25.1 189 3 ∧ u_25.1 189 3 ≤ 1000000000 := iu_25.fi 189 3 4 (by decide) rfl
    have q_30 : 0 ≤ u_25.1 189 2 ∧ u_25.1 189 2 ≤ 30001 := iu_25.fi 189 2 4 (by decide) rfl
    refine sBi (sV (As := []) (rest := []) (k := 189) Cx (s_X4_kind l G u_25  iu_25) (c_X1_109 Cx rfl rfl (rmk_ok (by omega) (by decide))) hW (by decide) rfl rfl rfl hl.1 rfl (Nat.le_of_ble_eq_true rfl) dX1_hold_85 ⟨Nat.le_of_ble_eq_true rfl, Nat.le_of_ble_eq_true rfl⟩) hL (fun r_33 u_31 H locs k_32 hW hL => ?_)
    obtain ⟨eu_31, xu_31⟩ := k_32
    rw [eu_31] at hW
    refine lv_istore_n (lv' := [(3, .int (iv r_33)), (0, .ref (G.2.2.1 + 188)), (1, .ref (G.2.2.1 + 1)), (2, .ref (G.2.2.1 + o))]) hx hb dX1_hold_88 rfl hl (by decide) rfl (fun ls hl => ?_)
    refine lv_iload_n hx hb dX1_hold_89 rfl (lv_at hl 0 rfl) ?_
    refine lv_bipush (v := iv 9) hx hb dX1_hold_90 (by decide) ?_
    refine r_icmp_ne (tgt := 105) hx hb ⟨(by omega), (by omega)⟩ ⟨(by omega), (by omega)⟩ dX1_hold_92 (by decide) (fun c_34 => ?_) (fun c_34 => ?_)
    · have join_126 : ∀ (S126 : sS)  (H : Heap) (locs : List Loc) (ls : Array Slot), (cX G S126 0 0 0) → (Fr S S126 pEz) → (Fr u_25 S126 pEz) → (S126.1 189 3 ≤ 100) → (CR G S126) → sW G 294 S126 H → sL G locs → lv_has ls 4 [(3, .int (iv r_33)), (0, .ref (G.2.2.1 + 188)), (1, .ref (G.2.2.1 + 1)), (2, .ref (G.2.2.1 + o))] → W p l e (rmk 9 0 0) s m args below meth c H locs 0 0 (MQ below (sQi G 294 (fun r u => cX G u 0 0 0 ∧ Fr S u pEz ∧ (-2147483648 ≤ r ∧ r ≤ 2147483647))) args s 0 0 (sF G)) (F0 m 126 ls []) := by
        intro S126  H locs ls hI126 hFm126 hL126_ ha126 hCR126 hW hL hl
        refine lv_aload_n hx hb dX1_hold_126 rfl (lv_at hl 1 rfl) ?_
        have q_35 : (-2147483648) ≤ S126.1 188 16 ∧ S126.1 188 16 ≤ 2147483647 := hI126.fi 188 16 1 (by decide) rfl
        refine g_X1_77 Cx hW (k := 188) (by decide) rfl (v := S126.1 188 16) rfl dX1_hold_127 ?_
        refine r_if_ne (tgt := 149) hx hb ⟨(by omega), (by omega)⟩ dX1_hold_130 (by decide) (fun c_36 => ?_) (fun c_36 => ?_)
        · refine lv_aload_n hx hb dX1_hold_149 rfl (lv_at hl 1 rfl) ?_
          refine g_X1_77 Cx hW (k := 188) (by decide) rfl (v := S126.1 188 16) rfl dX1_hold_150 ?_
          exact sIret Cx hr hlk hW hL ⟨hI126, hFm126, (by omega)⟩ dX1_hold_153
        · refine lv_aload_n hx hb dX1_hold_133 rfl (lv_at hl 1 rfl) ?_
          have join_145 : ∀ (hv : Int) (H : Heap) (locs : List Loc) (ls : Array Slot), (0 ≤ hv ∧ hv ≤ 1) → sW G 294 S126 H → sL G locs → lv_has ls 4 [(3, .int (iv r_33)), (0, .ref (G.2.2.1 + 188)), (1, .ref (G.2.2.1 + 1)), (2, .ref (G.2.2.1 + o))] → W p l e (rmk 9 0 0) s m args below meth c H locs 0 0 (MQ below (sQi G 294 (fun r u => cX G u 0 0 0 ∧ Fr S u pEz ∧ (-2147483648 ≤ r ∧ r ≤ 2147483647))) args s 0 0 (sF G)) (F0 m 145 ls [.int (iv hv), .ref (G.2.2.1 + 188)]) := by
            intro hv H locs ls hhv hW hL hl
            have q_37 : 0 ≤ S126.1 189 3 ∧ S126.1 189 3 ≤ 1000000000 := hI126.fi 189 3 4 (by decide) rfl
            refine sBi (sV (As := [.int (iv hv)]) (rest := []) (k := 188) Cx (z_X1_holdTrees l G S126 (hv := hv) hI126 (by omega) hCR126 (by omega)) (c_X1_122 Cx rfl rfl (rmk_ok (by omega) (by decide))) hW (by decide) rfl rfl rfl hl.1 rfl (Nat.le_of_ble_eq_true rfl) dX1_hold_145 ⟨Nat.le_of_ble_eq_true rfl, Nat.le_of_ble_eq_true rfl⟩) hL (fun r_40 u_38 H locs k_39 hW hL => ?_)
            obtain ⟨iu_38, fu_38, xu_38⟩ := k_39
            have F_41 := hFm126.trans fu_38
            have F_42 := hL126_.trans fu_38
            have cr_43 : CR G u_38 := xu_38.1
            refine lv_pop hx hb dX1_hold_148 rfl ?_
            refine lv_aload_n hx hb dX1_hold_149 rfl (lv_at hl 1 rfl) ?_
            have q_44 : (-2147483648) ≤ u_38.1 188 16 ∧ u_38.1 188 16 ≤ 2147483647 := iu_38.fi 188 16 1 (by decide) rfl
            refine g_X1_77 Cx hW (k := 188) (by decide) rfl (v := u_38.1 188 16) rfl dX1_hold_150 ?_
            exact sIret Cx hr hlk hW hL ⟨iu_38, F_41, (by omega)⟩ dX1_hold_153
          refine lv_iload_n hx hb dX1_hold_134 rfl (lv_at hl 0 rfl) ?_
          refine lv_bipush (v := iv 7) hx hb dX1_hold_135 (by decide) ?_
          refine r_icmp_ne (tgt := 144) hx hb ⟨(by omega), (by omega)⟩ ⟨(by omega), (by omega)⟩ dX1_hold_137 (by decide) (fun c_45 => ?_) (fun c_45 => ?_)
          · refine lv_iconst (v := iv 0) hx hb dX1_hold_144 (by decide) ?_
            exact join_145 0 _ _ _ (by omega) hW hL (lv_sub hl [0, 1, 2, 3] rfl)
          · refine lv_iconst (v := iv 1) hx hb dX1_hold_140 (by decide) ?_
            refine lv_goto (tgt := 145) hx hb dX1_hold_141 (by decide) ?_
            exact join_145 1 _ _ _ (by omega) hW hL (lv_sub hl [0, 1, 2, 3] rfl)
      refine lv_iload_n hx hb dX1_hold_105 rfl (lv_at hl 0 rfl) ?_
      refine lv_bipush (v := iv 7) hx hb dX1_hold_106 (by decide) ?_
      refine r_icmp_ne (tgt := 119) hx hb ⟨(by omega), (by omega)⟩ ⟨(by omega), (by omega)⟩ dX1_hold_108 (by decide) (fun c_46 => ?_) (fun c_46 => ?_)
      · refine lv_aload_n hx hb dX1_hold_119 rfl (lv_at hl 1 rfl) ?_
        refine g_X1_12 Cx hW (k := 188) (by decide) rfl (v := .ref (G.2.2.1 + 189)) (rf_188_0 iu_25) dX1_hold_120 ?_
        refine sBv (sV (As := []) (rest := []) (k := 189) Cx (s_X4_advance l G u_25  iu_25 (by omega)) (c_X1_119 Cx rfl rfl (rmk_ok (by omega) (by decide))) hW (by decide) rfl rfl rfl hl.1 rfl (Nat.le_of_ble_eq_true rfl) dX1_hold_123 ⟨Nat.le_of_ble_eq_true rfl, Nat.le_of_ble_eq_true rfl⟩) hL (fun u_47 H locs k_48 hW hL => ?_)
        obtain ⟨iu_47, fu_47, xu_47⟩ := k_48
        have F_49 := F_27.trans (fu_47.to (fun k h => pRd_Ez k (p189_Rd k h)))
        have F_50 := (Fr.rf : Fr u_25 u_25 pEz).trans (fu_47.to (fun k h => pRd_Ez k (p189_Rd k h)))
        have at_u_47 : u_47.1 189 3 = u_25.1 189 3 + 1 := by rw [xu_47]; exact uF_on
        have cr_51 : CR G u_47 := by rw [xu_47]; exact cr_28.F (by decide)
        have q_52 : 0 ≤ u_47.1 189 3 ∧ u_47.1 189 3 ≤ 1000000000 := iu_47.fi 189 3 4 (by decide) rfl
        exact join_126 u_47  _ _ _ iu_47 F_49 F_50 (by omega) cr_51 hW hL (lv_sub hl [0, 1, 2, 3] rfl)
      · refine lv_aload_n hx hb dX1_hold_111 rfl (lv_at hl 1 rfl) ?_
        refine sBi (sV (As := []) (rest := []) (k := 188) Cx (z_X1_holdOptimal l G u_25  iu_25 cr_28 (by omega)) (c_X1_116 Cx rfl rfl (rmk_ok (by omega) (by decide))) hW (by decide) rfl rfl rfl hl.1 rfl (Nat.le_of_ble_eq_true rfl) dX1_hold_112 ⟨Nat.le_of_ble_eq_true rfl, Nat.le_of_ble_eq_true rfl⟩) hL (fun r_55 u_53 H locs k_54 hW hL => ?_)
        obtain ⟨iu_53, fu_53, xu_53⟩ := k_54
        have F_56 := F_27.trans fu_53
        have F_57 := (Fr.rf : Fr u_25 u_25 pEz).trans fu_53
        have cr_58 : CR G u_53 := xu_53.1
        refine lv_pop hx hb dX1_hold_115 rfl ?_
        refine lv_goto (tgt := 126) hx hb dX1_hold_116 (by decide) ?_
        have q_59 : 0 ≤ u_53.1 189 3 ∧ u_53.1 189 3 ≤ 1000000000 := iu_53.fi 189 3 4 (by decide) rfl
        exact join_126 u_53  _ _ _ iu_53 F_56 F_57 (by omega) cr_58 hW hL (lv_sub hl [0, 1, 2, 3] rfl)
    · refine lv_aload_n hx hb dX1_hold_95 rfl (lv_at hl 1 rfl) ?_
      refine sBi (sV (As := []) (rest := []) (k := 188) Cx (z_X1_holdUnbounded l G u_25  iu_25 cr_28 (by omega)) (c_X1_112 Cx rfl rfl (rmk_ok (by omega) (by decide))) hW (by decide) rfl rfl rfl hl.1 rfl (Nat.le_of_ble_eq_true rfl) dX1_hold_96 ⟨Nat.le_of_ble_eq_true rfl, Nat.le_of_ble_eq_true rfl⟩) hL (fun r_62 u_60 H locs k_61 hW hL => ?_)
      obtain ⟨iu_60, fu_60, xu_60⟩ := k_61
      have F_63 := F_27.trans fu_60
      have cr_64 : CR G u_60 := xu_60.1
      refine lv_pop hx hb dX1_hold_99 rfl ?_
      refine lv_aload_n hx hb dX1_hold_100 rfl (lv_at hl 1 rfl) ?_
      have q_65 : (-2147483648) ≤ u_60.1 188 16 ∧ u_60.1 188 16 ≤ 2147483647 := iu_60.fi 188 16 1 (by decide) rfl
      refine g_X1_77 Cx hW (k := 188) (by decide) rfl (v := u_60.1 188 16) rfl dX1_hold_101 ?_
      exact sIret Cx hr hlk hW hL ⟨iu_60, F_63, (by omega)⟩ dX1_hold_104
  · refine lv_aload_n hx hb dX1_hold_40 rfl (lv_at hl 0 rfl) ?_
    refine lv_iconst (v := iv 1) hx hb dX1_hold_41 (by decide) ?_
    refine lv_aload_n hx hb dX1_hold_42 rfl (lv_at hl 0 rfl) ?_
    refine g_X1_12 Cx hW (k := 188) (by decide) rfl (v := .ref (G.2.2.1 + 189)) (rf_188_0 iu_12) dX1_hold_43 ?_
    have q_66 : 0 ≤ u_12.1 189 3 ∧ u_12.1 189 3 ≤ 1000000000 := iu_12.fi 189 3 4 (by decide) rfl
    have q_67 : 0 ≤ u_12.1 189 2 ∧ u_12.1 189 2 ≤ 30001 := iu_12.fi 189 2 4 (by decide) rfl
    refine sBi (sV (As := []) (rest := [.int (iv 1), .ref (G.2.2.1 + 188)]) (k := 189) Cx (s_X4_start l G u_12  iu_12) (c_X1_91 Cx rfl rfl (rmk_ok (by omega) (by decide))) hW (by decide) rfl rfl rfl hl.1 rfl (Nat.le_of_ble_eq_true rfl) dX1_hold_46 ⟨Nat.le_of_ble_eq_true rfl, Nat.le_of_ble_eq_true rfl⟩) hL (fun r_70 u_68 H locs k_69 hW hL => ?_)
    obtain ⟨eu_68, xu_68⟩ := k_69
    rw [eu_68] at hW
    refine sBi (sV (As := [.int (iv 1), .int (iv r_70)]) (rest := []) (k := 188) Cx (s_X1_fail l G u_12 (kn := 1) (wh := r_70) iu_12 (by omega) (by omega)) (c_X1_95 Cx rfl rfl (rmk_ok (by omega) (by decide))) hW (by decide) rfl rfl rfl hl.1 rfl (Nat.le_of_ble_eq_true rfl) dX1_hold_49 ⟨Nat.le_of_ble_eq_true rfl, Nat.le_of_ble_eq_true rfl⟩) hL (fun r_73 u_71 H locs k_72 hW hL => ?_)
    obtain ⟨iu_71, fu_71, xu_71⟩ := k_72
    have F_74 := F_15.trans (fu_71.to (p1_sub rfl))
    refine lv_pop hx hb dX1_hold_52 rfl ?_
    refine lv_aload_n hx hb dX1_hold_53 rfl (lv_at hl 0 rfl) ?_
    have q_76 : (-2147483648) ≤ u_71.1 188 16 ∧ u_71.1 188 16 ≤ 2147483647 := iu_71.fi 188 16 1 (by decide) rfl
    refine g_X1_77 Cx hW (k := 188) (by decide) rfl (v := u_71.1 188 16) rfl dX1_hold_54 ?_
    exact sIret Cx hr hlk hW hL ⟨iu_71, F_74, (by omega)⟩ dX1_hold_57

set_option maxRecDepth 100000 in
set_option maxHeartbeats 4000000 in
theorem z_X11_coefficient (l : Launch) (G : sG) (S : sS) {k j : Int} (hI : cX G S 0 0 0) (hk : -2147483648 ≤ k ∧ k ≤ 2147483647) (hj : -2147483648 ≤ j ∧ j ≤ 2147483647) : Met l yX11_coefficient (.code yX11_coefficient cX11_coefficient 3 (some .long) :: tb) (rmk 5 0 0) (sPc G 294 S [.ref (G.2.2.1 + 0), .int (iv k), .int (iv j)]) (sQl G 294 (fun r u => cX G u 0 0 0 ∧ Fr S u pNz ∧ (-9223372036854775808 ≤ r ∧ r ≤ 9223372036854775807))) 0 0 (sF G) := by
  refine sEnter (by decide) (Nat.le_of_ble_eq_true rfl) ?_
  intro p e s m args below meth c Cx hr hlk hnm hW ls hl
  have Cx : sC G p m c cX11_coefficient 3 s args RX11 := Cx
  obtain ⟨hx, hb, hml, hown, hts⟩ := id Cx.1
  have hL : sL G [] := sL_nil
  have hl : lv_has ls 3 [(0, .ref (G.2.2.1 + 0)), (1, .int (iv k)), (2, .int (iv j))] := hl
  have hW0 := hW
  refine lv_aload_n hx hb dX11_coefficient_0 rfl (lv_at hl 0 rfl) ?_
  have q_1 : 0 ≤ S.1 0 7 ∧ S.1 0 7 ≤ 1 := hI.fi 0 7 11 (by decide) rfl
  refine g_X11_79 Cx hW (k := 0) (by decide) rfl (v := S.1 0 7) rfl dX11_coefficient_1 ?_
  refine r_if_eq (tgt := 26) hx hb ⟨(by omega), (by omega)⟩ dX11_coefficient_4 (by decide) (fun c_2 => ?_) (fun c_2 => ?_)
  · refine lv_lconst (v := jv 0) hx hb dX11_coefficient_26 (by decide) ?_
    exact sLret Cx hr hlk hW hL ⟨hI, (Fr.rf : Fr S S pNz), (by omega)⟩ dX11_coefficient_27
  · refine lv_iload_n hx hb dX11_coefficient_7 rfl (lv_at hl 2 rfl) ?_
    refine r_if_lt (tgt := 26) hx hb ⟨(by omega), (by omega)⟩ dX11_coefficient_8 (by decide) (fun c_3 => ?_) (fun c_3 => ?_)
    · refine lv_lconst (v := jv 0) hx hb dX11_coefficient_26 (by decide) ?_
      exact sLret Cx hr hlk hW hL ⟨hI, (Fr.rf : Fr S S pNz), (by omega)⟩ dX11_coefficient_27
    · refine lv_iload_n hx hb dX11_coefficient_11 rfl (lv_at hl 2 rfl) ?_
      refine lv_aload_n hx hb dX11_coefficient_12 rfl (lv_at hl 0 rfl) ?_
      obtain ⟨o_4, mo_4, eo_4⟩ := rm_0_5 hI
      refine g_X11_24 Cx hW (k := 0) (by decide) rfl (v := .ref (G.2.2.1 + o_4)) eo_4 dX11_coefficient_13 ?_
      have q_5 : 0 ≤ S.1 o_4 2 ∧ S.1 o_4 2 ≤ 12 := hI.fi o_4 2 3 (mdl_k mo_4) mo_4.1
      refine g_X11_86 Cx hW (k := o_4) (mdl_l mo_4) mo_4.1 (v := S.1 o_4 2) rfl dX11_coefficient_16 ?_
      refine r_icmp_gt (tgt := 26) hx hb ⟨(by omega), (by omega)⟩ ⟨(by omega), (by omega)⟩ dX11_coefficient_19 (by decide) (fun c_6 => ?_) (fun c_6 => ?_)
      · refine lv_lconst (v := jv 0) hx hb dX11_coefficient_26 (by decide) ?_
        exact sLret Cx hr hlk hW hL ⟨hI, (Fr.rf : Fr S S pNz), (by omega)⟩ dX11_coefficient_27
      · refine lv_iload_n hx hb dX11_coefficient_22 rfl (lv_at hl 1 rfl) ?_
        refine r_if_ge (tgt := 28) hx hb ⟨(by omega), (by omega)⟩ dX11_coefficient_23 (by decide) (fun c_7 => ?_) (fun c_7 => ?_)
        · refine lv_aload_n hx hb dX11_coefficient_28 rfl (lv_at hl 0 rfl) ?_
          have q_8 : 0 ≤ S.1 0 8 ∧ S.1 0 8 ≤ 1 := hI.fi 0 8 11 (by decide) rfl
          refine g_X11_83 Cx hW (k := 0) (by decide) rfl (v := S.1 0 8) rfl dX11_coefficient_29 ?_
          refine r_if_eq (tgt := 45) hx hb ⟨(by omega), (by omega)⟩ dX11_coefficient_32 (by decide) (fun c_9 => ?_) (fun c_9 => ?_)
          · refine lv_iload_n hx hb dX11_coefficient_45 rfl (lv_at hl 1 rfl) ?_
            refine lv_aload_n hx hb dX11_coefficient_46 rfl (lv_at hl 0 rfl) ?_
            refine g_X11_24 Cx hW (k := 0) (by decide) rfl (v := .ref (G.2.2.1 + o_4)) eo_4 dX11_coefficient_47 ?_
            have q_10 : 0 ≤ S.1 o_4 3 ∧ S.1 o_4 3 ≤ 16 := hI.fi o_4 3 3 (mdl_k mo_4) mo_4.1
            refine g_X11_89 Cx hW (k := o_4) (mdl_l mo_4) mo_4.1 (v := S.1 o_4 3) rfl dX11_coefficient_50 ?_
            refine r_icmp_gt (tgt := 69) hx hb ⟨(by omega), (by omega)⟩ ⟨(by omega), (by omega)⟩ dX11_coefficient_53 (by decide) (fun c_11 => ?_) (fun c_11 => ?_)
            · refine lv_lconst (v := jv 0) hx hb dX11_coefficient_69 (by decide) ?_
              exact sLret Cx hr hlk hW hL ⟨hI, (Fr.rf : Fr S S pNz), (by omega)⟩ dX11_coefficient_70
            · refine lv_aload_n hx hb dX11_coefficient_56 rfl (lv_at hl 0 rfl) ?_
              refine g_X11_24 Cx hW (k := 0) (by decide) rfl (v := .ref (G.2.2.1 + o_4)) eo_4 dX11_coefficient_57 ?_
              refine lv_iload_n hx hb dX11_coefficient_60 rfl (lv_at hl 1 rfl) ?_
              refine lv_iload_n hx hb dX11_coefficient_61 rfl (lv_at hl 2 rfl) ?_
              refine sBi (sV (As := [.int (iv k), .int (iv j)]) (rest := []) (k := o_4) Cx (s_X3_number l G S (o := o_4) (k := k) (j := j) hI mo_4 (by omega) (by omega)) (c_X11_102 Cx rfl rfl (rmk_ok (by omega) (by decide))) hW (mdl_l mo_4) mo_4.1 rfl rfl hl.1 rfl (Nat.le_of_ble_eq_true rfl) dX11_coefficient_62 ⟨Nat.le_of_ble_eq_true rfl, Nat.le_of_ble_eq_true rfl⟩) hL (fun r_14 u_12 H locs k_13 hW hL => ?_)
              obtain ⟨eu_12, xu_12⟩ := k_13
              rw [eu_12] at hW
              refine r_i2l hx hb ⟨(by omega), (by omega)⟩ dX11_coefficient_65 ?_
              refine lv_goto (tgt := 70) hx hb dX11_coefficient_66 (by decide) ?_
              exact sLret Cx hr hlk hW hL ⟨hI, (Fr.rf : Fr S S pNz), (by omega)⟩ dX11_coefficient_70
          · refine lv_aload_n hx hb dX11_coefficient_35 rfl (lv_at hl 0 rfl) ?_
            refine g_X11_41 Cx hW (k := 0) (by decide) rfl (v := .ref (G.2.2.1 + 119)) (rf_0_3 hI) dX11_coefficient_36 ?_
            refine lv_iload_n hx hb dX11_coefficient_39 rfl (lv_at hl 1 rfl) ?_
            refine lv_iload_n hx hb dX11_coefficient_40 rfl (lv_at hl 2 rfl) ?_
            refine sBl (sV (As := [.int (iv k), .int (iv j)]) (rest := []) (k := 119) Cx (z_X7_rowNumber l G S (k := k) (j := j) hI (by omega) (by omega)) (c_X11_98 Cx rfl rfl (rmk_ok (by omega) (by decide))) hW (by decide) rfl rfl rfl hl.1 rfl (Nat.le_of_ble_eq_true rfl) dX11_coefficient_41 ⟨Nat.le_of_ble_eq_true rfl, Nat.le_of_ble_eq_true rfl⟩) hL (fun r_17 u_15 H locs k_16 hW hL => ?_)
            obtain ⟨iu_15, fu_15, xu_15⟩ := k_16
            have F_18 := (Fr.rf : Fr S S pNz).trans fu_15
            exact sLret Cx hr hlk hW hL ⟨iu_15, F_18, (by omega)⟩ dX11_coefficient_44
        · refine lv_lconst (v := jv 0) hx hb dX11_coefficient_26 (by decide) ?_
          exact sLret Cx hr hlk hW hL ⟨hI, (Fr.rf : Fr S S pNz), (by omega)⟩ dX11_coefficient_27

set_option maxRecDepth 100000 in
set_option maxHeartbeats 4000000 in
theorem z_X11_entry (l : Launch) (G : sG) (S : sS) {k j z : Int} (hI : cX G S 0 0 0) (hk : -2147483648 ≤ k ∧ k ≤ 2147483647) (hj : -2147483648 ≤ j ∧ j ≤ 2147483647) (hz : -2147483648 ≤ z ∧ z ≤ 2147483647) : Met l yX11_entry (.code yX11_entry cX11_entry 4 (some .int) :: tb) (rmk 4 0 0) (sPc G 294 S [.ref (G.2.2.1 + 0), .int (iv k), .int (iv j), .int (iv z)]) (sQi G 294 (fun r u => cX G u 0 0 0 ∧ Fr S u pNz ∧ (-2147483648 ≤ r ∧ r ≤ 2147483647))) 0 0 (sF G) := by
  refine sEnter (by decide) (Nat.le_of_ble_eq_true rfl) ?_
  intro p e s m args below meth c Cx hr hlk hnm hW ls hl
  have Cx : sC G p m c cX11_entry 4 s args RX11 := Cx
  obtain ⟨hx, hb, hml, hown, hts⟩ := id Cx.1
  have hL : sL G [] := sL_nil
  have hl : lv_has ls 4 [(0, .ref (G.2.2.1 + 0)), (1, .int (iv k)), (2, .int (iv j)), (3, .int (iv z))] := hl
  have hW0 := hW
  refine lv_aload_n hx hb dX11_entry_0 rfl (lv_at hl 0 rfl) ?_
  have q_1 : 0 ≤ S.1 0 8 ∧ S.1 0 8 ≤ 1 := hI.fi 0 8 11 (by decide) rfl
  refine g_X11_83 Cx hW (k := 0) (by decide) rfl (v := S.1 0 8) rfl dX11_entry_1 ?_
  refine r_if_eq (tgt := 26) hx hb ⟨(by omega), (by omega)⟩ dX11_entry_4 (by decide) (fun c_2 => ?_) (fun c_2 => ?_)
  · refine lv_iconst (v := iv (-1)) hx hb dX11_entry_26 (by decide) ?_
    exact sIret Cx hr hlk hW hL ⟨hI, (Fr.rf : Fr S S pNz), (by omega)⟩ dX11_entry_27
  · refine lv_aload_n hx hb dX11_entry_7 rfl (lv_at hl 0 rfl) ?_
    refine g_X11_41 Cx hW (k := 0) (by decide) rfl (v := .ref (G.2.2.1 + 119)) (rf_0_3 hI) dX11_entry_8 ?_
    refine g_X11_120 Cx hW (k := 119) (by decide) rfl (v := .ref (G.2.2.1 + 135)) (rf_119_1 hI) dX11_entry_11 ?_
    refine lv_iload_n hx hb dX11_entry_14 rfl (lv_at hl 1 rfl) ?_
    refine lv_iload_n hx hb dX11_entry_15 rfl (lv_at hl 2 rfl) ?_
    refine lv_aload_n hx hb dX11_entry_16 rfl (lv_at hl 0 rfl) ?_
    refine g_X11_18 Cx hW (k := 0) (by decide) rfl (v := .ref (G.2.2.1 + 3)) (rf_0_1 hI) dX11_entry_17 ?_
    refine sBi (sV (As := [.int (iv k), .int (iv j), .ref (G.2.2.1 + 3)]) (rest := []) (k := 135) Cx (z_X2_write l G S (i := k) (j := j) hI (by omega) (by omega)) (c_X11_129 Cx rfl rfl (rmk_ok (by omega) (by decide))) hW (by decide) rfl rfl rfl hl.1 rfl (Nat.le_of_ble_eq_true rfl) dX11_entry_20 ⟨Nat.le_of_ble_eq_true rfl, Nat.le_of_ble_eq_true rfl⟩) hL (fun r_5 u_3 H locs k_4 hW hL => ?_)
    obtain ⟨iu_3, fu_3, xu_3⟩ := k_4
    have F_6 := (Fr.rf : Fr S S pNz).trans fu_3
    refine r_if_ne (tgt := 28) hx hb ⟨(by omega), (by omega)⟩ dX11_entry_23 (by decide) (fun c_7 => ?_) (fun c_7 => ?_)
    · refine lv_aload_n hx hb dX11_entry_28 rfl (lv_at hl 0 rfl) ?_
      refine g_X11_18 Cx hW (k := 0) (by decide) rfl (v := .ref (G.2.2.1 + 3)) (rf_0_1 iu_3) dX11_entry_29 ?_
      refine lv_iload_n hx hb dX11_entry_32 rfl (lv_at hl 3 rfl) ?_
      have q_8 : 0 ≤ u_3.1 3 1 ∧ u_3.1 3 1 ≤ 120 := iu_3.fi 3 1 10 (by decide) rfl
      refine sBi (sV (As := [.int (iv z)]) (rest := []) (k := 3) Cx (s_X10_byteAt l G u_3 (o := 3) (k := z) (N := 120) iu_3 ⟨by decide, rfl, rfl, rfl, rfl, by decide⟩ (by omega)) (c_X11_133 Cx rfl rfl (rmk_ok (by omega) (by decide))) hW (by decide) rfl rfl rfl hl.1 rfl (Nat.le_of_ble_eq_true rfl) dX11_entry_33 ⟨Nat.le_of_ble_eq_true rfl, Nat.le_of_ble_eq_true rfl⟩) hL (fun r_11 u_9 H locs k_10 hW hL => ?_)
      obtain ⟨eu_9, xu_9⟩ := k_10
      rw [eu_9] at hW
      exact sIret Cx hr hlk hW hL ⟨iu_3, F_6, (by omega)⟩ dX11_entry_36
    · refine lv_iconst (v := iv (-1)) hx hb dX11_entry_26 (by decide) ?_
      exact sIret Cx hr hlk hW hL ⟨iu_3, F_6, (by omega)⟩ dX11_entry_27

set_option maxRecDepth 100000 in
set_option maxHeartbeats 4000000 in
theorem z_X11_told (l : Launch) (G : sG) (S : sS) {j z : Int} (hI : cX G S 0 0 0) (hj : -2147483648 ≤ j ∧ j ≤ 2147483647) (hz : -2147483648 ≤ z ∧ z ≤ 2147483647) : Met l yX11_told (.code yX11_told cX11_told 3 (some .int) :: tb) (rmk 9 0 0) (sPc G 294 S [.ref (G.2.2.1 + 0), .int (iv j), .int (iv z)]) (sQi G 294 (fun r u => cX G u 0 0 0 ∧ Fr S u pNz ∧ (-2147483648 ≤ r ∧ r ≤ 2147483647))) 0 0 (sF G) := by
  refine sEnter (by decide) (Nat.le_of_ble_eq_true rfl) ?_
  intro p e s m args below meth c Cx hr hlk hnm hW ls hl
  have Cx : sC G p m c cX11_told 3 s args RX11 := Cx
  obtain ⟨hx, hb, hml, hown, hts⟩ := id Cx.1
  have hL : sL G [] := sL_nil
  have hl : lv_has ls 3 [(0, .ref (G.2.2.1 + 0)), (1, .int (iv j)), (2, .int (iv z))] := hl
  have hW0 := hW
  refine lv_aload_n hx hb dX11_told_0 rfl (lv_at hl 0 rfl) ?_
  have q_1 : 0 ≤ S.1 0 8 ∧ S.1 0 8 ≤ 1 := hI.fi 0 8 11 (by decide) rfl
  refine g_X11_83 Cx hW (k := 0) (by decide) rfl (v := S.1 0 8) rfl dX11_told_1 ?_
  refine r_if_eq (tgt := 22) hx hb ⟨(by omega), (by omega)⟩ dX11_told_4 (by decide) (fun c_2 => ?_) (fun c_2 => ?_)
  · refine lv_iconst (v := iv (-1)) hx hb dX11_told_22 (by decide) ?_
    exact sIret Cx hr hlk hW hL ⟨hI, (Fr.rf : Fr S S pNz), (by omega)⟩ dX11_told_23
  · refine lv_aload_n hx hb dX11_told_7 rfl (lv_at hl 0 rfl) ?_
    refine g_X11_41 Cx hW (k := 0) (by decide) rfl (v := .ref (G.2.2.1 + 119)) (rf_0_3 hI) dX11_told_8 ?_
    refine lv_iload_n hx hb dX11_told_11 rfl (lv_at hl 1 rfl) ?_
    refine lv_aload_n hx hb dX11_told_12 rfl (lv_at hl 0 rfl) ?_
    refine g_X11_18 Cx hW (k := 0) (by decide) rfl (v := .ref (G.2.2.1 + 3)) (rf_0_1 hI) dX11_told_13 ?_
    refine sBi (sV (As := [.int (iv j), .ref (G.2.2.1 + 3)]) (rest := []) (k := 119) Cx (z_X7_writeFraction l G S (j := j) hI (by omega)) (c_X11_136 Cx rfl rfl (rmk_ok (by omega) (by decide))) hW (by decide) rfl rfl rfl hl.1 rfl (Nat.le_of_ble_eq_true rfl) dX11_told_16 ⟨Nat.le_of_ble_eq_true rfl, Nat.le_of_ble_eq_true rfl⟩) hL (fun r_5 u_3 H locs k_4 hW hL => ?_)
    obtain ⟨iu_3, fu_3, xu_3⟩ := k_4
    have F_6 := (Fr.rf : Fr S S pNz).trans fu_3
    refine r_if_ne (tgt := 24) hx hb ⟨(by omega), (by omega)⟩ dX11_told_19 (by decide) (fun c_7 => ?_) (fun c_7 => ?_)
    · refine lv_aload_n hx hb dX11_told_24 rfl (lv_at hl 0 rfl) ?_
      refine g_X11_18 Cx hW (k := 0) (by decide) rfl (v := .ref (G.2.2.1 + 3)) (rf_0_1 iu_3) dX11_told_25 ?_
      refine lv_iload_n hx hb dX11_told_28 rfl (lv_at hl 2 rfl) ?_
      have q_8 : 0 ≤ u_3.1 3 1 ∧ u_3.1 3 1 ≤ 120 := iu_3.fi 3 1 10 (by decide) rfl
      refine sBi (sV (As := [.int (iv z)]) (rest := []) (k := 3) Cx (s_X10_byteAt l G u_3 (o := 3) (k := z) (N := 120) iu_3 ⟨by decide, rfl, rfl, rfl, rfl, by decide⟩ (by omega)) (c_X11_133 Cx rfl rfl (rmk_ok (by omega) (by decide))) hW (by decide) rfl rfl rfl hl.1 rfl (Nat.le_of_ble_eq_true rfl) dX11_told_29 ⟨Nat.le_of_ble_eq_true rfl, Nat.le_of_ble_eq_true rfl⟩) hL (fun r_11 u_9 H locs k_10 hW hL => ?_)
      obtain ⟨eu_9, xu_9⟩ := k_10
      rw [eu_9] at hW
      exact sIret Cx hr hlk hW hL ⟨iu_3, F_6, (by omega)⟩ dX11_told_32
    · refine lv_iconst (v := iv (-1)) hx hb dX11_told_22 (by decide) ?_
      exact sIret Cx hr hlk hW hL ⟨iu_3, F_6, (by omega)⟩ dX11_told_23
