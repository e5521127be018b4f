def pP (k : Nat) : Bool := rgB 169 176 k
theorem pP_N : ∀ k, pP k = true → pN k = true := fun k h => by
  have := rgB_t h
  simp only [pN, rgB_i (a := 158) (b := 184) (k := k) ⟨by omega, by omega⟩, Bool.or_true, Bool.true_or]
set_option maxRecDepth 100000 in
set_option maxHeartbeats 4000000 in
theorem s_X5_proofLength (l : Launch) (G : sG) (S : sS)  (hI : cX G S 0 0 0) : Met l yX5_proofLength (.code yX5_proofLength cX5_proofLength 1 (some .int) :: tb) (rmk 2 0 0) (sPc G 294 S [.ref (G.2.2.1 + 157)]) (sQi G 294 (fun r u => u = S ∧ (0 ≤ r ∧ r ≤ 31501))) 0 0 (sF G) := by
  refine sEnter (by decide) (Nat.le_of_ble_eq_true rfl) ?_
  intro p e s m args below meth c Cx hr hlk hnm hW ls hl
  have Cx : sC G p m c cX5_proofLength 1 s args RX5 := Cx
  obtain ⟨hx, hb, hml, hown, hts⟩ := id Cx.1
  have hL : sL G [] := sL_nil
  have hl : lv_has ls 1 [(0, .ref (G.2.2.1 + 157))] := hl
  have hW0 := hW
  refine lv_aload_n hx hb dX5_proofLength_0 rfl (lv_at hl 0 rfl) ?_
  refine g_X5_16 Cx hW (k := 157) (by decide) rfl (v := .ref (G.2.2.1 + 158)) (rf_157_0 hI) dX5_proofLength_1 ?_
  have q_1 : 0 ≤ S.1 158 1 ∧ S.1 158 1 ≤ 1500 := hI.fi 158 1 10 (by decide) rfl
  refine sBi (sV (As := []) (rest := []) (k := 158) Cx (s_X10_length l G S (o := 158) (N := 1500) hI ⟨by decide, rfl, rfl, rfl, rfl, by decide⟩) (c_X5_59 Cx rfl rfl (rmk_ok (by omega) (by decide))) hW (by decide) rfl rfl rfl hl.1 rfl (Nat.le_of_ble_eq_true rfl) dX5_proofLength_4 ⟨Nat.le_of_ble_eq_true rfl, Nat.le_of_ble_eq_true rfl⟩) hL (fun r_4 u_2 H locs k_3 hW hL => ?_)
  obtain ⟨eu_2, xu_2⟩ := k_3
  rw [eu_2] at hW
  refine lv_aload_n hx hb dX5_proofLength_7 rfl (lv_at hl 0 rfl) ?_
  refine g_X5_20 Cx hW (k := 157) (by decide) rfl (v := .ref (G.2.2.1 + 160)) (rf_157_1 hI) dX5_proofLength_8 ?_
  have q_5 : 0 ≤ S.1 160 1 ∧ S.1 160 1 ≤ 30000 := hI.fi 160 1 10 (by decide) rfl
  refine sBi (sV (As := []) (rest := [.int (iv r_4)]) (k := 160) Cx (s_X10_length l G S (o := 160) (N := 30000) hI ⟨by decide, rfl, rfl, rfl, rfl, by decide⟩) (c_X5_59 Cx rfl rfl (rmk_ok (by omega) (by decide))) hW (by decide) rfl rfl rfl hl.1 rfl (Nat.le_of_ble_eq_true rfl) dX5_proofLength_11 ⟨Nat.le_of_ble_eq_true rfl, Nat.le_of_ble_eq_true rfl⟩) hL (fun r_8 u_6 H locs k_7 hW hL => ?_)
  obtain ⟨eu_6, xu_6⟩ := k_7
  rw [eu_6] at hW
  refine r_if_le (tgt := 29) hx hb ⟨(by omega), (by omega)⟩ dX5_proofLength_14 (by decide) (fun c_9 => ?_) (fun c_9 => ?_)
  · refine lv_iconst (v := iv 0) hx hb dX5_proofLength_29 (by decide) ?_
    refine r_iadd hx hb dX5_proofLength_30 ?_
    exact sIret Cx hr hlk hW hL ⟨rfl, (by omega)⟩ dX5_proofLength_31
  · refine lv_iconst (v := iv 1) hx hb dX5_proofLength_17 (by decide) ?_
    refine lv_aload_n hx hb dX5_proofLength_18 rfl (lv_at hl 0 rfl) ?_
    refine g_X5_20 Cx hW (k := 157) (by decide) rfl (v := .ref (G.2.2.1 + 160)) (rf_157_1 hI) dX5_proofLength_19 ?_
    refine sBi (sV (As := []) (rest := [.int (iv 1), .int (iv r_4)]) (k := 160) Cx (s_X10_length l G S (o := 160) (N := 30000) hI ⟨by decide, rfl, rfl, rfl, rfl, by decide⟩) (c_X5_59 Cx rfl rfl (rmk_ok (by omega) (by decide))) hW (by decide) rfl rfl rfl hl.1 rfl (Nat.le_of_ble_eq_true rfl) dX5_proofLength_22 ⟨Nat.le_of_ble_eq_true rfl, Nat.le_of_ble_eq_true rfl⟩) hL (fun r_12 u_10 H locs k_11 hW hL => ?_)
    obtain ⟨eu_10, xu_10⟩ := k_11
    rw [eu_10] at hW
    refine r_iadd hx hb dX5_proofLength_25 ?_
    refine lv_goto (tgt := 30) hx hb dX5_proofLength_26 (by decide) ?_
    refine r_iadd hx hb dX5_proofLength_30 ?_
    exact sIret Cx hr hlk hW hL ⟨rfl, (by omega)⟩ dX5_proofLength_31

set_option maxRecDepth 100000 in
set_option maxHeartbeats 4000000 in
theorem s_X5_pointNumber (l : Launch) (G : sG) (S : sS) {v : Nat} {j : Int} (hI : cX G S 0 0 0) (hv : tau v = .inl 0) (hj : 0 ≤ j ∧ j ≤ 12) : Met l yX5_pointNumber (.code yX5_pointNumber cX5_pointNumber 3 none :: tb) (rmk 3 0 0) (sPc G 294 S [.ref (G.2.2.1 + 157), .int (iv j), .ref (G.2.2.1 + v)]) (sQv G 294 (fun u => cX G u 0 0 0 ∧ Fr S u (pB v) ∧ (u.1 v 1 ≤ 7))) 0 0 (sF G) := by
  refine sEnter (by decide) (Nat.le_of_ble_eq_true rfl) ?_
  intro p e s m args below meth c Cx hr hlk hnm hW ls hl
  have Cx : sC G p m c cX5_pointNumber 3 s args RX5 := Cx
  obtain ⟨hx, hb, hml, hown, hts⟩ := id Cx.1
  have hL : sL G [] := sL_nil
  have hl : lv_has ls 3 [(0, .ref (G.2.2.1 + 157)), (1, .int (iv j)), (2, .ref (G.2.2.1 + v))] := hl
  have hW0 := hW
  refine lv_aload_n hx hb dX5_pointNumber_0 rfl (lv_at hl 2 rfl) ?_
  refine lv_aload_n hx hb dX5_pointNumber_1 rfl (lv_at hl 0 rfl) ?_
  refine g_X5_25 Cx hW (k := 157) (by decide) rfl (v := .ref (G.2.2.1 + 162)) (rf_157_2 hI) dX5_pointNumber_2 ?_
  refine lv_iload_n hx hb dX5_pointNumber_5 rfl (lv_at hl 1 rfl) ?_
  refine lv_bipush (v := iv 8) hx hb dX5_pointNumber_6 (by decide) ?_
  refine r_imul hx hb dX5_pointNumber_8 ?_
  refine sBv (sV (As := [.ref (G.2.2.1 + 162), .int (iv (j * 8))]) (rest := []) (k := v) Cx (s_X0_load l G S (o := v) (k := 162) (a := j * 8) (N := 112) hI hv ⟨by decide, rfl, by decide, rfl, rfl, rfl⟩ (by omega)) (c_X5_88 Cx rfl rfl (rmk_ok (by omega) (by decide))) hW (big_l hv) hv rfl rfl hl.1 rfl (Nat.le_of_ble_eq_true rfl) dX5_pointNumber_9 ⟨Nat.le_of_ble_eq_true rfl, Nat.le_of_ble_eq_true rfl⟩) hL (fun u_1 H locs k_2 hW hL => ?_)
  obtain ⟨iu_1, fu_1, xu_1⟩ := k_2
  have F_3 := (Fr.rf : Fr S S (pB v)).trans fu_1
  have yu_1 : u_1.1 v 1 ≤ 7 := xu_1.1
  have q_4 : 0 ≤ u_1.1 v 1 ∧ u_1.1 v 1 ≤ 32 := iu_1.fi v 1 0 (big_lt hv) hv
  exact sVret Cx hr hlk hW hL ⟨iu_1, F_3, (by omega)⟩ dX5_pointNumber_12

set_option maxRecDepth 100000 in
set_option maxHeartbeats 4000000 in
theorem s_X5_pointDenominator (l : Launch) (G : sG) (S : sS) {v : Nat} (hI : cX G S 0 0 0) (hv : tau v = .inl 0) : Met l yX5_pointDenominator (.code yX5_pointDenominator cX5_pointDenominator 2 none :: tb) (rmk 3 0 0) (sPc G 294 S [.ref (G.2.2.1 + 157), .ref (G.2.2.1 + v)]) (sQv G 294 (fun u => cX G u 0 0 0 ∧ Fr S u (pB v) ∧ (u.1 v 1 ≤ 7))) 0 0 (sF G) := by
  refine sEnter (by decide) (Nat.le_of_ble_eq_true rfl) ?_
  intro p e s m args below meth c Cx hr hlk hnm hW ls hl
  have Cx : sC G p m c cX5_pointDenominator 2 s args RX5 := Cx
  obtain ⟨hx, hb, hml, hown, hts⟩ := id Cx.1
  have hL : sL G [] := sL_nil
  have hl : lv_has ls 2 [(0, .ref (G.2.2.1 + 157)), (1, .ref (G.2.2.1 + v))] := hl
  have hW0 := hW
  refine lv_aload_n hx hb dX5_pointDenominator_0 rfl (lv_at hl 1 rfl) ?_
  refine lv_aload_n hx hb dX5_pointDenominator_1 rfl (lv_at hl 0 rfl) ?_
  refine g_X5_25 Cx hW (k := 157) (by decide) rfl (v := .ref (G.2.2.1 + 162)) (rf_157_2 hI) dX5_pointDenominator_2 ?_
  refine lv_bipush (v := iv 104) hx hb dX5_pointDenominator_5 (by decide) ?_
  refine sBv (sV (As := [.ref (G.2.2.1 + 162), .int (iv 104)]) (rest := []) (k := v) Cx (s_X0_load l G S (o := v) (k := 162) (a := 104) (N := 112) hI hv ⟨by decide, rfl, by decide, rfl, rfl, rfl⟩ (by omega)) (c_X5_88 Cx rfl rfl (rmk_ok (by omega) (by decide))) hW (big_l hv) hv rfl rfl hl.1 rfl (Nat.le_of_ble_eq_true rfl) dX5_pointDenominator_7 ⟨Nat.le_of_ble_eq_true rfl, Nat.le_of_ble_eq_true rfl⟩) hL (fun u_1 H locs k_2 hW hL => ?_)
  obtain ⟨iu_1, fu_1, xu_1⟩ := k_2
  have F_3 := (Fr.rf : Fr S S (pB v)).trans fu_1
  have yu_1 : u_1.1 v 1 ≤ 7 := xu_1.1
  have q_4 : 0 ≤ u_1.1 v 1 ∧ u_1.1 v 1 ≤ 32 := iu_1.fi v 1 0 (big_lt hv) hv
  exact sVret Cx hr hlk hW hL ⟨iu_1, F_3, (by omega)⟩ dX5_pointDenominator_10

set_option maxRecDepth 100000 in
set_option maxHeartbeats 4000000 in
theorem s_X5_common (l : Launch) (G : sG) (S : sS)  (hI : cX G S 0 0 0) (hc0 : S.1 169 1 ≤ 12 ∧ S.1 171 1 ≤ 12) : Met l yX5_common (.code yX5_common cX5_common 7 (some (.object "OptimumHouse$Big")) :: tb) (rmk 5 0 0) (sPc G 294 S [.ref (G.2.2.1 + 157), .ref (G.2.2.1 + 169), .ref (G.2.2.1 + 171)]) (sQr G 294 (fun r u => cX G u 0 0 0 ∧ Fr S u pP ∧ ((r = 169 ∨ r = 171) ∧ u.1 169 1 ≤ 12 ∧ u.1 171 1 ≤ 12))) 0 0 (sF G) := by
  refine sEnter (by decide) (Nat.le_of_ble_eq_true rfl) ?_
  intro p e s m args below meth c Cx hr hlk hnm hW ls hl
  have Cx : sC G p m c cX5_common 7 s args RX5 := Cx
  obtain ⟨hx, hb, hml, hown, hts⟩ := id Cx.1
  have hL : sL G [] := sL_nil
  have hl : lv_has ls 7 [(0, .ref (G.2.2.1 + 157)), (1, .ref (G.2.2.1 + 169)), (2, .ref (G.2.2.1 + 171))] := hl
  have hW0 := hW
  refine lv_aload_n hx hb dX5_common_0 rfl (lv_at hl 1 rfl) ?_
  refine lv_astore_n (lv' := [(3, .ref (G.2.2.1 + 169)), (0, .ref (G.2.2.1 + 157)), (1, .ref (G.2.2.1 + 169)), (2, .ref (G.2.2.1 + 171))]) hx hb dX5_common_1 rfl hl (by decide) rfl (fun ls hl => ?_)
  refine lv_aload_n hx hb dX5_common_2 rfl (lv_at hl 3 rfl) ?_
  refine lv_astore (lv' := [(4, .ref (G.2.2.1 + 171)), (3, .ref (G.2.2.1 + 169)), (0, .ref (G.2.2.1 + 157)), (1, .ref (G.2.2.1 + 169)), (2, .ref (G.2.2.1 + 171))]) hx hb dX5_common_3 hl (by decide) rfl (fun ls hl => ?_)
  refine lv_iconst (v := iv 0) hx hb dX5_common_5 (by decide) ?_
  refine lv_istore (lv' := [(5, .int (iv 0)), (4, .ref (G.2.2.1 + 171)), (3, .ref (G.2.2.1 + 169)), (0, .ref (G.2.2.1 + 157)), (1, .ref (G.2.2.1 + 169)), (2, .ref (G.2.2.1 + 171))]) hx hb dX5_common_6 hl (by decide) rfl (fun ls hl => ?_)
  have loop_8 : ∀ (fuel : Nat) (S8 : sS) (i : Int) (lo : Nat) (hi : Nat) (H : Heap) (locs : List Loc) (ls : Array Slot), (1000 - i).toNat < fuel → (cX G S8 0 0 0) → (Fr S S8 pP) → (Fr S S8 pP) → (0 ≤ i ∧ i ≤ 1000) → ((hi = 169 ∧ lo = 171) ∨ (hi = 171 ∧ lo = 169)) → (S8.1 169 1 ≤ 12 ∧ S8.1 171 1 ≤ 12) → sW G 294 S8 H → sL G locs → lv_has ls 7 [(5, .int (iv i)), (4, .ref (G.2.2.1 + lo)), (3, .ref (G.2.2.1 + hi)), (0, .ref (G.2.2.1 + 157)), (1, .ref (G.2.2.1 + 169)), (2, .ref (G.2.2.1 + 171))] → W p l e (rmk 5 0 0) s m args below meth c H locs 0 0 (MQ below (sQr G 294 (fun r u => cX G u 0 0 0 ∧ Fr S u pP ∧ ((r = 169 ∨ r = 171) ∧ u.1 169 1 ≤ 12 ∧ u.1 171 1 ≤ 12))) args s 0 0 (sF G)) (F0 m 8 ls []) := by
    intro fuel
    induction fuel with
    | zero => intro S8 i lo hi H locs ls hmeas hI8 hFm8 hL8_ hii hst hc hW hL hl; exact absurd hmeas (Nat.not_lt_zero _)
    | succ fuel ih_8 =>
      intro S8 i lo hi H locs ls hmeas hI8 hFm8 hL8_ hii hst hc hW hL hl
      refine lv_iload hx hb dX5_common_8 (lv_at hl 0 rfl) ?_
      rcases hst with ⟨rfl, rfl⟩ | ⟨rfl, rfl⟩
      · refine lv_sipush (v := iv 1000) hx hb dX5_common_10 (by decide) ?_
        refine r_icmp_ge (tgt := 54) hx hb ⟨(by omega), (by omega)⟩ ⟨(by omega), (by omega)⟩ dX5_common_13 (by decide) (fun c_1 => ?_) (fun c_1 => ?_)
        · refine lv_aload_n hx hb dX5_common_54 rfl (lv_at hl 2 rfl) ?_
          have q_2 : 0 ≤ S8.1 169 1 ∧ S8.1 169 1 ≤ 32 := hI8.fi 169 1 0 (by decide) rfl
          have q_3 : 0 ≤ S8.1 171 1 ∧ S8.1 171 1 ≤ 32 := hI8.fi 171 1 0 (by decide) rfl
          exact sRret Cx hr hlk hW hL ⟨hI8, hFm8, (by omega)⟩ dX5_common_55
        · refine lv_aload hx hb dX5_common_16 (lv_at hl 1 rfl) ?_
          have q_4 : (-1) ≤ S8.1 171 2 ∧ S8.1 171 2 ≤ 1 := hI8.fi 171 2 0 (by decide) rfl
          refine g_X5_126 Cx hW (k := 171) (by decide) rfl (v := S8.1 171 2) rfl dX5_common_18 ?_
          refine r_if_eq (tgt := 54) hx hb ⟨(by omega), (by omega)⟩ dX5_common_21 (by decide) (fun c_5 => ?_) (fun c_5 => ?_)
          · refine lv_aload_n hx hb dX5_common_54 rfl (lv_at hl 2 rfl) ?_
            have q_6 : 0 ≤ S8.1 169 1 ∧ S8.1 169 1 ≤ 32 := hI8.fi 169 1 0 (by decide) rfl
            have q_7 : 0 ≤ S8.1 171 1 ∧ S8.1 171 1 ≤ 32 := hI8.fi 171 1 0 (by decide) rfl
            exact sRret Cx hr hlk hW hL ⟨hI8, hFm8, (by omega)⟩ dX5_common_55
          · refine lv_aload_n hx hb dX5_common_24 rfl (lv_at hl 2 rfl) ?_
            refine lv_aload hx hb dX5_common_25 (lv_at hl 1 rfl) ?_
            refine lv_aload_n hx hb dX5_common_27 rfl (lv_at hl 3 rfl) ?_
            refine g_X5_46 Cx hW (k := 157) (by decide) rfl (v := .ref (G.2.2.1 + 173)) (rf_157_8 hI8) dX5_common_28 ?_
            refine lv_aload_n hx hb dX5_common_31 rfl (lv_at hl 3 rfl) ?_
            refine g_X5_49 Cx hW (k := 157) (by decide) rfl (v := .ref (G.2.2.1 + 175)) (rf_157_9 hI8) dX5_common_32 ?_
            have q_8 : 0 ≤ S8.1 169 1 ∧ S8.1 169 1 ≤ 32 := hI8.fi 169 1 0 (by decide) rfl
            have q_9 : 0 ≤ S8.1 171 1 ∧ S8.1 171 1 ≤ 32 := hI8.fi 171 1 0 (by decide) rfl
            have q_10 : (-1) ≤ S8.1 169 2 ∧ S8.1 169 2 ≤ 1 := hI8.fi 169 2 0 (by decide) rfl
            refine sBv (sV (As := [.ref (G.2.2.1 + 171), .ref (G.2.2.1 + 173), .ref (G.2.2.1 + 175)]) (rest := []) (k := 169) Cx (s_X0_divide l G S8 (o := 169) (b := 171) (q := 173) (h := 175) (n := 12) hI8 rfl rfl rfl rfl (show (169 : Nat) ≠ 171 by decide) (show (169 : Nat) ≠ 173 by decide) (show (169 : Nat) ≠ 175 by decide) (show (171 : Nat) ≠ 173 by decide) (show (171 : Nat) ≠ 175 by decide) (show (173 : Nat) ≠ 175 by decide) (by omega)) (c_X5_137 Cx rfl rfl (rmk_ok (by omega) (by decide))) hW (by decide) rfl rfl rfl hl.1 rfl (Nat.le_of_ble_eq_true rfl) dX5_common_35 ⟨Nat.le_of_ble_eq_true rfl, Nat.le_of_ble_eq_true rfl⟩) hL (fun u_11 H locs k_12 hW hL => ?_)
            obtain ⟨iu_11, fu_11, xu_11⟩ := k_12
            have F_13 := hFm8.trans (fu_11.to (pD_sub (pB_sub rfl rfl) (pB_sub rfl rfl) (pB_sub rfl rfl)))
            have F_14 := hL8_.trans (fu_11.to (pD_sub (pB_sub rfl rfl) (pB_sub rfl rfl) (pB_sub rfl rfl)))
            refine lv_aload_n hx hb dX5_common_38 rfl (lv_at hl 2 rfl) ?_
            refine lv_astore (lv' := [(6, .ref (G.2.2.1 + 169)), (5, .int (iv i)), (4, .ref (G.2.2.1 + 171)), (3, .ref (G.2.2.1 + 169)), (0, .ref (G.2.2.1 + 157)), (1, .ref (G.2.2.1 + 169)), (2, .ref (G.2.2.1 + 171))]) hx hb dX5_common_39 hl (by decide) rfl (fun ls hl => ?_)
            refine lv_aload hx hb dX5_common_41 (lv_at hl 2 rfl) ?_
            refine lv_astore_n (lv' := [(3, .ref (G.2.2.1 + 171)), (6, .ref (G.2.2.1 + 169)), (5, .int (iv i)), (4, .ref (G.2.2.1 + 171)), (0, .ref (G.2.2.1 + 157)), (1, .ref (G.2.2.1 + 169)), (2, .ref (G.2.2.1 + 171))]) hx hb dX5_common_43 rfl hl (by decide) rfl (fun ls hl => ?_)
            refine lv_aload hx hb dX5_common_44 (lv_at hl 1 rfl) ?_
            refine lv_astore (lv' := [(4, .ref (G.2.2.1 + 169)), (3, .ref (G.2.2.1 + 171)), (6, .ref (G.2.2.1 + 169)), (5, .int (iv i)), (0, .ref (G.2.2.1 + 157)), (1, .ref (G.2.2.1 + 169)), (2, .ref (G.2.2.1 + 171))]) hx hb dX5_common_46 hl (by decide) rfl (fun ls hl => ?_)
            refine lv_iinc (v := iv (i + 1)) (lv' := [(5, .int (iv (i + 1))), (4, .ref (G.2.2.1 + 169)), (3, .ref (G.2.2.1 + 171)), (6, .ref (G.2.2.1 + 169)), (0, .ref (G.2.2.1 + 157)), (1, .ref (G.2.2.1 + 169)), (2, .ref (G.2.2.1 + 171))]) hx hb dX5_common_48 hl (k := 3) rfl ((Int32.ofInt_add _ _).symm) (by decide) rfl (fun ls hl => ?_)
            refine lv_goto (tgt := 8) hx hb dX5_common_51 (by decide) ?_
            have q_15 : 0 ≤ u_11.1 169 1 ∧ u_11.1 169 1 ≤ 32 := iu_11.fi 169 1 0 (by decide) rfl
            have lk_16 : u_11.1 171 1 = S8.1 171 1 := (fu_11 171 rfl).1 1
            exact ih_8 u_11 (i + 1) 169 171 _ _ _ (by omega) iu_11 F_13 F_14 (by omega) (by omega) (by omega) hW hL (lv_sub hl [0, 1, 2, 4, 5, 6] rfl)
      · refine lv_sipush (v := iv 1000) hx hb dX5_common_10 (by decide) ?_
        refine r_icmp_ge (tgt := 54) hx hb ⟨(by omega), (by omega)⟩ ⟨(by omega), (by omega)⟩ dX5_common_13 (by decide) (fun c_17 => ?_) (fun c_17 => ?_)
        · refine lv_aload_n hx hb dX5_common_54 rfl (lv_at hl 2 rfl) ?_
          have q_18 : 0 ≤ S8.1 169 1 ∧ S8.1 169 1 ≤ 32 := hI8.fi 169 1 0 (by decide) rfl
          have q_19 : 0 ≤ S8.1 171 1 ∧ S8.1 171 1 ≤ 32 := hI8.fi 171 1 0 (by decide) rfl
          exact sRret Cx hr hlk hW hL ⟨hI8, hFm8, (by omega)⟩ dX5_common_55
        · refine lv_aload hx hb dX5_common_16 (lv_at hl 1 rfl) ?_
          have q_20 : (-1) ≤ S8.1 169 2 ∧ S8.1 169 2 ≤ 1 := hI8.fi 169 2 0 (by decide) rfl
          refine g_X5_126 Cx hW (k := 169) (by decide) rfl (v := S8.1 169 2) rfl dX5_common_18 ?_
          refine r_if_eq (tgt := 54) hx hb ⟨(by omega), (by omega)⟩ dX5_common_21 (by decide) (fun c_21 => ?_) (fun c_21 => ?_)
          · refine lv_aload_n hx hb dX5_common_54 rfl (lv_at hl 2 rfl) ?_
            have q_22 : 0 ≤ S8.1 169 1 ∧ S8.1 169 1 ≤ 32 := hI8.fi 169 1 0 (by decide) rfl
            have q_23 : 0 ≤ S8.1 171 1 ∧ S8.1 171 1 ≤ 32 := hI8.fi 171 1 0 (by decide) rfl
            exact sRret Cx hr hlk hW hL ⟨hI8, hFm8, (by omega)⟩ dX5_common_55
          · refine lv_aload_n hx hb dX5_common_24 rfl (lv_at hl 2 rfl) ?_
            refine lv_aload hx hb dX5_common_25 (lv_at hl 1 rfl) ?_
            refine lv_aload_n hx hb dX5_common_27 rfl (lv_at hl 3 rfl) ?_
            refine g_X5_46 Cx hW (k := 157) (by decide) rfl (v := .ref (G.2.2.1 + 173)) (rf_157_8 hI8) dX5_common_28 ?_
            refine lv_aload_n hx hb dX5_common_31 rfl (lv_at hl 3 rfl) ?_
            refine g_X5_49 Cx hW (k := 157) (by decide) rfl (v := .ref (G.2.2.1 + 175)) (rf_157_9 hI8) dX5_common_32 ?_
            have q_24 : 0 ≤ S8.1 171 1 ∧ S8.1 171 1 ≤ 32 := hI8.fi 171 1 0 (by decide) rfl
            have q_25 : 0 ≤ S8.1 169 1 ∧ S8.1 169 1 ≤ 32 := hI8.fi 169 1 0 (by decide) rfl
            have q_26 : (-1) ≤ S8.1 171 2 ∧ S8.1 171 2 ≤ 1 := hI8.fi 171 2 0 (by decide) rfl
            refine sBv (sV (As := [.ref (G.2.2.1 + 169), .ref (G.2.2.1 + 173), .ref (G.2.2.1 + 175)]) (rest := []) (k := 171) Cx (s_X0_divide l G S8 (o := 171) (b := 169) (q := 173) (h := 175) (n := 12) hI8 rfl rfl rfl rfl (show (171 : Nat) ≠ 169 by decide) (show (171 : Nat) ≠ 173 by decide) (show (171 : Nat) ≠ 175 by decide) (show (169 : Nat) ≠ 173 by decide) (show (169 : Nat) ≠ 175 by decide) (show (173 : Nat) ≠ 175 by decide) (by omega)) (c_X5_137 Cx rfl rfl (rmk_ok (by omega) (by decide))) hW (by decide) rfl rfl rfl hl.1 rfl (Nat.le_of_ble_eq_true rfl) dX5_common_35 ⟨Nat.le_of_ble_eq_true rfl, Nat.le_of_ble_eq_true rfl⟩) hL (fun u_27 H locs k_28 hW hL => ?_)
            obtain ⟨iu_27, fu_27, xu_27⟩ := k_28
            have F_29 := hFm8.trans (fu_27.to (pD_sub (pB_sub rfl rfl) (pB_sub rfl rfl) (pB_sub rfl rfl)))
            have F_30 := hL8_.trans (fu_27.to (pD_sub (pB_sub rfl rfl) (pB_sub rfl rfl) (pB_sub rfl rfl)))
            refine lv_aload_n hx hb dX5_common_38 rfl (lv_at hl 2 rfl) ?_
            refine lv_astore (lv' := [(6, .ref (G.2.2.1 + 171)), (5, .int (iv i)), (4, .ref (G.2.2.1 + 169)), (3, .ref (G.2.2.1 + 171)), (0, .ref (G.2.2.1 + 157)), (1, .ref (G.2.2.1 + 169)), (2, .ref (G.2.2.1 + 171))]) hx hb dX5_common_39 hl (by decide) rfl (fun ls hl => ?_)
            refine lv_aload hx hb dX5_common_41 (lv_at hl 2 rfl) ?_
            refine lv_astore_n (lv' := [(3, .ref (G.2.2.1 + 169)), (6, .ref (G.2.2.1 + 171)), (5, .int (iv i)), (4, .ref (G.2.2.1 + 169)), (0, .ref (G.2.2.1 + 157)), (1, .ref (G.2.2.1 + 169)), (2, .ref (G.2.2.1 + 171))]) hx hb dX5_common_43 rfl hl (by decide) rfl (fun ls hl => ?_)
            refine lv_aload hx hb dX5_common_44 (lv_at hl 1 rfl) ?_
            refine lv_astore (lv' := [(4, .ref (G.2.2.1 + 171)), (3, .ref (G.2.2.1 + 169)), (6, .ref (G.2.2.1 + 171)), (5, .int (iv i)), (0, .ref (G.2.2.1 + 157)), (1, .ref (G.2.2.1 + 169)), (2, .ref (G.2.2.1 + 171))]) hx hb dX5_common_46 hl (by decide) rfl (fun ls hl => ?_)
            refine lv_iinc (v := iv (i + 1)) (lv' := [(5, .int (iv (i + 1))), (4, .ref (G.2.2.1 + 171)), (3, .ref (G.2.2.1 + 169)), (6, .ref (G.2.2.1 + 171)), (0, .ref (G.2.2.1 + 157)), (1, .ref (G.2.2.1 + 169)), (2, .ref (G.2.2.1 + 171))]) hx hb dX5_common_48 hl (k := 3) rfl ((Int32.ofInt_add _ _).symm) (by decide) rfl (fun ls hl => ?_)
            refine lv_goto (tgt := 8) hx hb dX5_common_51 (by decide) ?_
            have lk_31 : u_27.1 169 1 = S8.1 169 1 := (fu_27 169 rfl).1 1
            have q_32 : 0 ≤ u_27.1 171 1 ∧ u_27.1 171 1 ≤ 32 := iu_27.fi 171 1 0 (by decide) rfl
            exact ih_8 u_27 (i + 1) 171 169 _ _ _ (by omega) iu_27 F_29 F_30 (by omega) (by omega) (by omega) hW hL (lv_sub hl [0, 1, 2, 4, 5, 6] rfl)
  have q_33 : 0 ≤ S.1 169 1 ∧ S.1 169 1 ≤ 32 := hI.fi 169 1 0 (by decide) rfl
  have q_34 : 0 ≤ S.1 171 1 ∧ S.1 171 1 ≤ 32 := hI.fi 171 1 0 (by decide) rfl
  exact loop_8 (_ + 1) S 0 171 169 _ _ _ (Nat.lt_succ_self _) hI (Fr.rf : Fr S S pP) Fr.rf (by omega) (by omega) (by omega) hW hL (lv_sub hl [0, 1, 2, 3, 4, 5] rfl)
