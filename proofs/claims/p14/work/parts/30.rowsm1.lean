def pK (o b k : Nat) : Bool := rgB (o + 3) (o + 8) k || pB b k
theorem pK_sub {P : pS} {o b : Nat} (h : ∀ k, o + 3 ≤ k → k ≤ o + 8 → P k = true) (h1 : P b = true) (h2 : P (b + 1) = true) : ∀ k, pK o b k = true → P k = true := fun k e => by
  rw [pK, Bool.or_eq_true] at e
  rcases e with e | e
  · have := rgB_t e; exact h k this.1 this.2
  · exact pB_sub h1 h2 k e
theorem rgN_120 : ∀ k, 120 + 3 ≤ k → k ≤ 120 + 8 → pN k = true := fun k h1 h2 => by
  have : ∀ k, k < 129 → 123 ≤ k → pN k = true := by decide +kernel
  exact this k (by omega) h1
theorem rgN_193 : ∀ k, 193 + 3 ≤ k → k ≤ 193 + 8 → pN k = true := fun k h1 h2 => by
  have : ∀ k, k < 202 → 196 ≤ k → pN k = true := by decide +kernel
  exact this k (by omega) h1
set_option maxRecDepth 100000 in
set_option maxHeartbeats 4000000 in
theorem s_X6_at (l : Launch) (G : sG) (S : sS) {k j : Int} (hk : 0 ≤ k ∧ k ≤ 41) (hj : 0 ≤ j ∧ j ≤ 12) : Met l yX6_at (.code yX6_at cX6_at 2 (some .int) :: tb) (rmk 1 0 0) (sPc G 294 S [.int (iv k), .int (iv j)]) (sQi G 294 (fun r u => u = S ∧ (r = (k * 13 + j) * 8))) 0 0 (sF G) := by
  refine sEnter (by decide) (Nat.le_of_ble_eq_true rfl) ?_
  intro p e s m args below meth c Cx hr hlk hnm hW ls hl
  have Cx : sC G p m c cX6_at 2 s args RX6 := Cx
  obtain ⟨hx, hb, hml, hown, hts⟩ := id Cx.1
  have hL : sL G [] := sL_nil
  have hl : lv_has ls 2 [(0, .int (iv k)), (1, .int (iv j))] := hl
  have hW0 := hW
  refine lv_iload_n hx hb dX6_at_0 rfl (lv_at hl 0 rfl) ?_
  refine lv_bipush (v := iv 13) hx hb dX6_at_1 (by decide) ?_
  refine r_imul hx hb dX6_at_3 ?_
  refine lv_iload_n hx hb dX6_at_4 rfl (lv_at hl 1 rfl) ?_
  refine r_iadd hx hb dX6_at_5 ?_
  refine lv_bipush (v := iv 8) hx hb dX6_at_6 (by decide) ?_
  refine r_imul hx hb dX6_at_8 ?_
  exact sIret Cx hr hlk hW hL ⟨rfl, (by omega)⟩ dX6_at_9

set_option maxRecDepth 100000 in
set_option maxHeartbeats 4000000 in
theorem s_X6_count_120 (l : Launch) (G : sG) (S : sS)  (hI : cX G S 0 0 0) : Met l yX6_count (.code yX6_count cX6_count 1 (some .int) :: tb) (rmk 1 0 0) (sPc G 294 S [.ref (G.2.2.1 + 120)]) (sQi G 294 (fun r u => u = S ∧ (r = S.1 120 9 ∧ 0 ≤ r ∧ r ≤ 40))) 0 0 (sF G) := by
  refine sEnter (by decide) (Nat.le_of_ble_eq_true rfl) ?_
  intro p e s m args below meth c Cx hr hlk hnm hW ls hl
  have Cx : sC G p m c cX6_count 1 s args RX6 := Cx
  obtain ⟨hx, hb, hml, hown, hts⟩ := id Cx.1
  have hL : sL G [] := sL_nil
  have hl : lv_has ls 1 [(0, .ref (G.2.2.1 + 120))] := hl
  have hW0 := hW
  refine lv_aload_n hx hb dX6_count_0 rfl (lv_at hl 0 rfl) ?_
  have q_1 : 0 ≤ S.1 120 9 ∧ S.1 120 9 ≤ 40 := hI.fi 120 9 6 (by decide) rfl
  refine g_X6_50 Cx hW (k := 120) (by decide) rfl (v := S.1 120 9) rfl dX6_count_1 ?_
  exact sIret Cx hr hlk hW hL ⟨rfl, (by omega)⟩ dX6_count_4

set_option maxRecDepth 100000 in
set_option maxHeartbeats 4000000 in
theorem s_X6_count_193 (l : Launch) (G : sG) (S : sS)  (hI : cX G S 0 0 0) : Met l yX6_count (.code yX6_count cX6_count 1 (some .int) :: tb) (rmk 1 0 0) (sPc G 294 S [.ref (G.2.2.1 + 193)]) (sQi G 294 (fun r u => u = S ∧ (r = S.1 193 9 ∧ 0 ≤ r ∧ r ≤ 40))) 0 0 (sF G) := by
  refine sEnter (by decide) (Nat.le_of_ble_eq_true rfl) ?_
  intro p e s m args below meth c Cx hr hlk hnm hW ls hl
  have Cx : sC G p m c cX6_count 1 s args RX6 := Cx
  obtain ⟨hx, hb, hml, hown, hts⟩ := id Cx.1
  have hL : sL G [] := sL_nil
  have hl : lv_has ls 1 [(0, .ref (G.2.2.1 + 193))] := hl
  have hW0 := hW
  refine lv_aload_n hx hb dX6_count_0 rfl (lv_at hl 0 rfl) ?_
  have q_1 : 0 ≤ S.1 193 9 ∧ S.1 193 9 ≤ 40 := hI.fi 193 9 6 (by decide) rfl
  refine g_X6_50 Cx hW (k := 193) (by decide) rfl (v := S.1 193 9) rfl dX6_count_1 ?_
  exact sIret Cx hr hlk hW hL ⟨rfl, (by omega)⟩ dX6_count_4

set_option maxRecDepth 100000 in
set_option maxHeartbeats 4000000 in
theorem s_X6_isFull_120 (l : Launch) (G : sG) (S : sS)  (hI : cX G S 0 0 0) : Met l yX6_isFull (.code yX6_isFull cX6_isFull 1 (some .boolean) :: tb) (rmk 1 0 0) (sPc G 294 S [.ref (G.2.2.1 + 120)]) (sQi G 294 (fun r u => u = S ∧ (0 ≤ r ∧ r ≤ 1 ∧ (r = 1 → 40 ≤ S.1 120 9) ∧ (r = 0 → S.1 120 9 < 40)))) 0 0 (sF G) := by
  refine sEnter (by decide) (Nat.le_of_ble_eq_true rfl) ?_
  intro p e s m args below meth c Cx hr hlk hnm hW ls hl
  have Cx : sC G p m c cX6_isFull 1 s args RX6 := Cx
  obtain ⟨hx, hb, hml, hown, hts⟩ := id Cx.1
  have hL : sL G [] := sL_nil
  have hl : lv_has ls 1 [(0, .ref (G.2.2.1 + 120))] := hl
  have hW0 := hW
  refine lv_aload_n hx hb dX6_isFull_0 rfl (lv_at hl 0 rfl) ?_
  have q_1 : 0 ≤ S.1 120 9 ∧ S.1 120 9 ≤ 40 := hI.fi 120 9 6 (by decide) rfl
  refine g_X6_50 Cx hW (k := 120) (by decide) rfl (v := S.1 120 9) rfl dX6_isFull_1 ?_
  refine lv_bipush (v := iv 40) hx hb dX6_isFull_4 (by decide) ?_
  refine r_icmp_lt (tgt := 13) hx hb ⟨(by omega), (by omega)⟩ ⟨(by omega), (by omega)⟩ dX6_isFull_6 (by decide) (fun c_2 => ?_) (fun c_2 => ?_)
  · refine lv_iconst (v := iv 0) hx hb dX6_isFull_13 (by decide) ?_
    exact sZret Cx hr hlk hW hL (by omega) ⟨rfl, (by omega)⟩ dX6_isFull_14
  · refine lv_iconst (v := iv 1) hx hb dX6_isFull_9 (by decide) ?_
    refine lv_goto (tgt := 14) hx hb dX6_isFull_10 (by decide) ?_
    exact sZret Cx hr hlk hW hL (by omega) ⟨rfl, (by omega)⟩ dX6_isFull_14

set_option maxRecDepth 100000 in
set_option maxHeartbeats 4000000 in
theorem s_X6_isFull_193 (l : Launch) (G : sG) (S : sS)  (hI : cX G S 0 0 0) : Met l yX6_isFull (.code yX6_isFull cX6_isFull 1 (some .boolean) :: tb) (rmk 1 0 0) (sPc G 294 S [.ref (G.2.2.1 + 193)]) (sQi G 294 (fun r u => u = S ∧ (0 ≤ r ∧ r ≤ 1 ∧ (r = 1 → 40 ≤ S.1 193 9) ∧ (r = 0 → S.1 193 9 < 40)))) 0 0 (sF G) := by
  refine sEnter (by decide) (Nat.le_of_ble_eq_true rfl) ?_
  intro p e s m args below meth c Cx hr hlk hnm hW ls hl
  have Cx : sC G p m c cX6_isFull 1 s args RX6 := Cx
  obtain ⟨hx, hb, hml, hown, hts⟩ := id Cx.1
  have hL : sL G [] := sL_nil
  have hl : lv_has ls 1 [(0, .ref (G.2.2.1 + 193))] := hl
  have hW0 := hW
  refine lv_aload_n hx hb dX6_isFull_0 rfl (lv_at hl 0 rfl) ?_
  have q_1 : 0 ≤ S.1 193 9 ∧ S.1 193 9 ≤ 40 := hI.fi 193 9 6 (by decide) rfl
  refine g_X6_50 Cx hW (k := 193) (by decide) rfl (v := S.1 193 9) rfl dX6_isFull_1 ?_
  refine lv_bipush (v := iv 40) hx hb dX6_isFull_4 (by decide) ?_
  refine r_icmp_lt (tgt := 13) hx hb ⟨(by omega), (by omega)⟩ ⟨(by omega), (by omega)⟩ dX6_isFull_6 (by decide) (fun c_2 => ?_) (fun c_2 => ?_)
  · refine lv_iconst (v := iv 0) hx hb dX6_isFull_13 (by decide) ?_
    exact sZret Cx hr hlk hW hL (by omega) ⟨rfl, (by omega)⟩ dX6_isFull_14
  · refine lv_iconst (v := iv 1) hx hb dX6_isFull_9 (by decide) ?_
    refine lv_goto (tgt := 14) hx hb dX6_isFull_10 (by decide) ?_
    exact sZret Cx hr hlk hW hL (by omega) ⟨rfl, (by omega)⟩ dX6_isFull_14

set_option maxRecDepth 100000 in
set_option maxHeartbeats 4000000 in
theorem s_X6_number_193 (l : Launch) (G : sG) (S : sS) {v : Nat} {k j : Int} (hI : cX G S 0 0 0) (hv : tau v = .inl 0) (hk : 0 ≤ k ∧ k ≤ 40) (hj : 0 ≤ j ∧ j ≤ 12) : Met l yX6_number (.code yX6_number cX6_number 4 none :: tb) (rmk 3 0 0) (sPc G 294 S [.ref (G.2.2.1 + 193), .int (iv k), .int (iv j), .ref (G.2.2.1 + v)]) (sQv G 294 (fun u => cX G u 0 0 0 ∧ Fr S u (pB v) ∧ (u.1 v 1 ≤ 7))) 0 0 (sF G) := by
  refine sEnter (by decide) (Nat.le_of_ble_eq_true rfl) ?_
  intro p e s m args below meth c Cx hr hlk hnm hW ls hl
  have Cx : sC G p m c cX6_number 4 s args RX6 := Cx
  obtain ⟨hx, hb, hml, hown, hts⟩ := id Cx.1
  have hL : sL G [] := sL_nil
  have hl : lv_has ls 4 [(0, .ref (G.2.2.1 + 193)), (1, .int (iv k)), (2, .int (iv j)), (3, .ref (G.2.2.1 + v))] := hl
  have hW0 := hW
  refine lv_aload_n hx hb dX6_number_0 rfl (lv_at hl 3 rfl) ?_
  refine lv_aload_n hx hb dX6_number_1 rfl (lv_at hl 0 rfl) ?_
  refine g_X6_13 Cx hW (k := 193) (by decide) rfl (v := .ref (G.2.2.1 + 194)) (rf_193_0 hI) dX6_number_2 ?_
  refine lv_iload_n hx hb dX6_number_5 rfl (lv_at hl 1 rfl) ?_
  refine lv_iload_n hx hb dX6_number_6 rfl (lv_at hl 2 rfl) ?_
  refine sBi (sSt (As := [.int (iv k), .int (iv j)]) (rest := [.ref (G.2.2.1 + 194), .ref (G.2.2.1 + v)]) Cx (s_X6_at l G S (k := k) (j := j) (by omega) (by omega)) (c_X6_53 Cx rfl rfl (rmk_ok (by omega) (by decide))) hW rfl hl.1 rfl (Nat.le_of_ble_eq_true rfl) dX6_number_7 ⟨Nat.le_of_ble_eq_true rfl, Nat.le_of_ble_eq_true rfl⟩) hL (fun r_3 u_1 H locs k_2 hW hL => ?_)
  obtain ⟨eu_1, xu_1⟩ := k_2
  rw [eu_1] at hW
  refine sBv (sV (As := [.ref (G.2.2.1 + 194), .int (iv r_3)]) (rest := []) (k := v) Cx (s_X0_load l G S (o := v) (k := 194) (a := r_3) (N := 4264) hI hv ⟨by decide, rfl, by decide, rfl, rfl, rfl⟩ (by omega)) (c_X6_75 Cx rfl rfl (rmk_ok (by omega) (by decide))) hW (big_l hv) hv rfl rfl hl.1 rfl (Nat.le_of_ble_eq_true rfl) dX6_number_10 ⟨Nat.le_of_ble_eq_true rfl, Nat.le_of_ble_eq_true rfl⟩) hL (fun u_4 H locs k_5 hW hL => ?_)
  obtain ⟨iu_4, fu_4, xu_4⟩ := k_5
  have F_6 := (Fr.rf : Fr S S (pB v)).trans fu_4
  have yu_4 : u_4.1 v 1 ≤ 7 := xu_4.1
  have q_7 : 0 ≤ u_4.1 v 1 ∧ u_4.1 v 1 ≤ 32 := iu_4.fi v 1 0 (big_lt hv) hv
  exact sVret Cx hr hlk hW hL ⟨iu_4, F_6, (by omega)⟩ dX6_number_13

set_option maxRecDepth 100000 in
set_option maxHeartbeats 4000000 in
theorem s_X6_clearFactors_193 (l : Launch) (G : sG) (S : sS)  (hI : cX G S 0 0 0) : Met l yX6_clearFactors (.code yX6_clearFactors cX6_clearFactors 2 none :: tb) (rmk 1 0 0) (sPc G 294 S [.ref (G.2.2.1 + 193)]) (sQv G 294 (fun u => cX G u 0 0 0 ∧ Fr S u (p1 195))) 0 0 (sF G) := by
  refine sEnter (by decide) (Nat.le_of_ble_eq_true rfl) ?_
  intro p e s m args below meth c Cx hr hlk hnm hW ls hl
  have Cx : sC G p m c cX6_clearFactors 2 s args RX6 := Cx
  obtain ⟨hx, hb, hml, hown, hts⟩ := id Cx.1
  have hL : sL G [] := sL_nil
  have hl : lv_has ls 2 [(0, .ref (G.2.2.1 + 193))] := hl
  have hW0 := hW
  refine lv_iconst (v := iv 0) hx hb dX6_clearFactors_0 (by decide) ?_
  refine lv_istore_n (lv' := [(1, .int (iv 0)), (0, .ref (G.2.2.1 + 193))]) hx hb dX6_clearFactors_1 rfl hl (by decide) rfl (fun ls hl => ?_)
  have loop_2 : ∀ (fuel : Nat) (S2 : sS) (k : Int) (H : Heap) (locs : List Loc) (ls : Array Slot), (41 - k).toNat < fuel → (cX G S2 0 0 0) → (Fr S S2 (p1 195)) → (Fr S S2 (p1 195)) → (0 ≤ k ∧ k ≤ 41) → sW G 294 S2 H → sL G locs → lv_has ls 2 [(1, .int (iv k)), (0, .ref (G.2.2.1 + 193))] → W p l e (rmk 1 0 0) s m args below meth c H locs 0 0 (MQ below (sQv G 294 (fun u => cX G u 0 0 0 ∧ Fr S u (p1 195))) args s 0 0 (sF G)) (F0 m 2 ls []) := by
    intro fuel
    induction fuel with
    | zero => intro S2 k H locs ls hmeas hI2 hFm2 hL2_ hk hW hL hl; exact absurd hmeas (Nat.not_lt_zero _)
    | succ fuel ih_2 =>
      intro S2 k H locs ls hmeas hI2 hFm2 hL2_ hk hW hL hl
      refine lv_iload_n hx hb dX6_clearFactors_2 rfl (lv_at hl 0 rfl) ?_
      refine lv_bipush (v := iv 40) hx hb dX6_clearFactors_3 (by decide) ?_
      refine r_icmp_gt (tgt := 24) hx hb ⟨(by omega), (by omega)⟩ ⟨(by omega), (by omega)⟩ dX6_clearFactors_5 (by decide) (fun c_1 => ?_) (fun c_1 => ?_)
      · exact sVret Cx hr hlk hW hL ⟨hI2, hFm2⟩ dX6_clearFactors_24
      · refine lv_aload_n hx hb dX6_clearFactors_8 rfl (lv_at hl 1 rfl) ?_
        refine g_X6_17 Cx hW (k := 193) (by decide) rfl (v := .ref (G.2.2.1 + 195)) (rf_193_1 hI2) dX6_clearFactors_9 ?_
        refine lv_iload_n hx hb dX6_clearFactors_12 rfl (lv_at hl 0 rfl) ?_
        refine lv_bipush (v := iv 8) hx hb dX6_clearFactors_13 (by decide) ?_
        refine r_imul hx hb dX6_clearFactors_15 ?_
        refine lv_iconst (v := iv 0) hx hb dX6_clearFactors_16 (by decide) ?_
        have hz : SlotOK (S2.2.1 195) (k * 8) 7 999999999 := hI2.sl (k := 195) (by omega) (by omega) (show _ < (328 : Int) by omega)
        have j_2 := hI2.exS 195 (k * 8)
        refine rIast Cx hW hL (k := 195) (by decide) rfl (by decide) (by omega) (by omega) dX6_clearFactors_17 (fun H locs hW hL => ?_)
        have F_3 : Fr S (uA S2 195 (k * 8) 0) (p1 195) := hFm2.A rfl
        have F_4 : Fr S (uA S2 195 (k * 8) 0) (p1 195) := hL2_.A rfl
        have i_5 : cX G (uA S2 195 (k * 8) 0) 0 195 (k * 8) := j_2.slot rfl ⟨by omega, by omega, by omega⟩ ⟨(by omega), (by omega)⟩ (fun q _ => by omega)
        have j_6 : cX G (uA S2 195 (k * 8) 0) 0 0 0 := i_5.inS (fun _ => slot0 hz (by decide) uA_on (fun i i0 i1 => uA_ne (by omega)))
        refine lv_iinc (v := iv (k + 1)) (lv' := [(1, .int (iv (k + 1))), (0, .ref (G.2.2.1 + 193))]) hx hb dX6_clearFactors_18 hl (k := 0) rfl ((Int32.ofInt_add _ _).symm) (by decide) rfl (fun ls hl => ?_)
        refine lv_goto (tgt := 2) hx hb dX6_clearFactors_21 (by decide) ?_
        exact ih_2 (uA S2 195 (k * 8) 0) (k + 1) _ _ _ (by omega) j_6 F_3 F_4 (by omega) hW hL (lv_sub hl [0, 1] rfl)
  exact loop_2 (_ + 1) S 0 _ _ _ (Nat.lt_succ_self _) hI (Fr.rf : Fr S S (p1 195)) Fr.rf (by omega) hW hL (lv_sub hl [0, 1] rfl)

set_option maxRecDepth 100000 in
set_option maxHeartbeats 4000000 in
theorem s_X6_setFactor_193 (l : Launch) (G : sG) (S : sS) {v : Nat} {k : Int} (hI : cX G S 0 0 0) (hv : tau v = .inl 0) (hk : 0 ≤ k ∧ k ≤ 40) (hc : S.1 v 1 ≤ 7) : Met l yX6_setFactor (.code yX6_setFactor cX6_setFactor 3 none :: tb) (rmk 3 0 0) (sPc G 294 S [.ref (G.2.2.1 + 193), .int (iv k), .ref (G.2.2.1 + v)]) (sQv G 294 (fun u => cX G u 0 0 0 ∧ Fr S u (p1 195))) 0 0 (sF G) := by
  refine sEnter (by decide) (Nat.le_of_ble_eq_true rfl) ?_
  intro p e s m args below meth c Cx hr hlk hnm hW ls hl
  have Cx : sC G p m c cX6_setFactor 3 s args RX6 := Cx
  obtain ⟨hx, hb, hml, hown, hts⟩ := id Cx.1
  have hL : sL G [] := sL_nil
  have hl : lv_has ls 3 [(0, .ref (G.2.2.1 + 193)), (1, .int (iv k)), (2, .ref (G.2.2.1 + v))] := hl
  have hW0 := hW
  refine lv_aload_n hx hb dX6_setFactor_0 rfl (lv_at hl 2 rfl) ?_
  refine lv_aload_n hx hb dX6_setFactor_1 rfl (lv_at hl 0 rfl) ?_
  refine g_X6_17 Cx hW (k := 193) (by decide) rfl (v := .ref (G.2.2.1 + 195)) (rf_193_1 hI) dX6_setFactor_2 ?_
  refine lv_iload_n hx hb dX6_setFactor_5 rfl (lv_at hl 1 rfl) ?_
  refine lv_bipush (v := iv 8) hx hb dX6_setFactor_6 (by decide) ?_
  refine r_imul hx hb dX6_setFactor_8 ?_
  have q_1 : 0 ≤ S.1 v 1 ∧ S.1 v 1 ≤ 32 := hI.fi v 1 0 (big_lt hv) hv
  have q_2 : (-1) ≤ S.1 v 2 ∧ S.1 v 2 ≤ 1 := hI.fi v 2 0 (big_lt hv) hv
  refine sBv (sV (As := [.ref (G.2.2.1 + 195), .int (iv (k * 8))]) (rest := []) (k := v) Cx (s_X0_save l G S (o := v) (k := 195) (a := k * 8) (N := 328) hI hv ⟨by decide, rfl, by decide, rfl, rfl, rfl⟩ (by omega) (show _ ≤ (7 : Int) ∧ (_ → _ ≤ (999999999 : Int)) from ⟨by omega, fun _ => by have := limbR hI hv 6; omega⟩) (fun q _ => by rcases q with q | q <;> exact absurd q (by decide))) (c_X6_83 Cx rfl rfl (rmk_ok (by omega) (by decide))) hW (big_l hv) hv rfl rfl hl.1 rfl (Nat.le_of_ble_eq_true rfl) dX6_setFactor_9 ⟨Nat.le_of_ble_eq_true rfl, Nat.le_of_ble_eq_true rfl⟩) hL (fun u_3 H locs k_4 hW hL => ?_)
  obtain ⟨iu_3, fu_3⟩ := k_4
  have F_5 := (Fr.rf : Fr S S (p1 195)).trans fu_3
  exact sVret Cx hr hlk hW hL ⟨iu_3, F_5⟩ dX6_setFactor_12

set_option maxRecDepth 100000 in
set_option maxHeartbeats 4000000 in
theorem s_X6_combine_193_202 (l : Launch) (G : sG) (S : sS) {j : Int} (hI : cX G S 0 0 0) (hj : 0 ≤ j ∧ j ≤ 12) : Met l yX6_combine (.code yX6_combine cX6_combine 4 none :: tb) (rmk 4 0 0) (sPc G 294 S [.ref (G.2.2.1 + 193), .int (iv j), .ref (G.2.2.1 + 202)]) (sQv G 294 (fun u => cX G u 0 0 0 ∧ Fr S u (pK 193 202) ∧ (u.1 202 1 ≤ 15 ∧ Hd (u.1 202 1 = 15 → u.2.1 203 14 ≤ 40)))) 0 0 (sF G) := by
  refine sEnter (by decide) (Nat.le_of_ble_eq_true rfl) ?_
  intro p e s m args below meth c Cx hr hlk hnm hW ls hl
  have Cx : sC G p m c cX6_combine 4 s args RX6 := Cx
  obtain ⟨hx, hb, hml, hown, hts⟩ := id Cx.1
  have hL : sL G [] := sL_nil
  have hl : lv_has ls 4 [(0, .ref (G.2.2.1 + 193)), (1, .int (iv j)), (2, .ref (G.2.2.1 + 202))] := hl
  have hW0 := hW
  refine lv_aload_n hx hb dX6_combine_0 rfl (lv_at hl 2 rfl) ?_
  refine lv_lconst (v := jv 0) hx hb dX6_combine_1 (by decide) ?_
  refine sBv (sV (As := [.long (jv 0)]) (rest := []) (k := 202) Cx (s_X0_put l G S (o := 202) (v := 0) hI rfl (by omega)) (c_X6_86 Cx rfl rfl (rmk_ok (by omega) (by decide))) hW (by decide) rfl rfl rfl hl.1 rfl (Nat.le_of_ble_eq_true rfl) dX6_combine_2 ⟨Nat.le_of_ble_eq_true rfl, Nat.le_of_ble_eq_true rfl⟩) hL (fun u_1 H locs k_2 hW hL => ?_)
  obtain ⟨iu_1, fu_1, xu_1⟩ := k_2
  have F_3 := (Fr.rf : Fr S S (pK 193 202)).trans (fu_1.to (pB_sub rfl rfl))
  refine lv_iconst (v := iv 1) hx hb dX6_combine_5 (by decide) ?_
  refine lv_istore_n (lv' := [(3, .int (iv 1)), (0, .ref (G.2.2.1 + 193)), (1, .int (iv j)), (2, .ref (G.2.2.1 + 202))]) hx hb dX6_combine_6 rfl hl (by decide) rfl (fun ls hl => ?_)
  have loop_7 : ∀ (fuel : Nat) (S7 : sS) (k : Int) (H : Heap) (locs : List Loc) (ls : Array Slot), (41 - k).toNat < fuel → (cX G S7 0 0 0) → (Fr S S7 (pK 193 202)) → (Fr u_1 S7 (pK 193 202)) → (1 ≤ k ∧ k ≤ 41) → (S7.1 202 1 ≤ 15) → (Hd (S7.1 202 1 = 15 → S7.2.1 203 14 ≤ k - 1)) → sW G 294 S7 H → sL G locs → lv_has ls 4 [(3, .int (iv k)), (0, .ref (G.2.2.1 + 193)), (1, .int (iv j)), (2, .ref (G.2.2.1 + 202))] → W p l e (rmk 4 0 0) s m args below meth c H locs 0 0 (MQ below (sQv G 294 (fun u => cX G u 0 0 0 ∧ Fr S u (pK 193 202) ∧ (u.1 202 1 ≤ 15 ∧ Hd (u.1 202 1 = 15 → u.2.1 203 14 ≤ 40)))) args s 0 0 (sF G)) (F0 m 7 ls []) := by
    intro fuel
    induction fuel with
    | zero => intro S7 k H locs ls hmeas hI7 hFm7 hL7_ hk hc ht hW hL hl; exact absurd hmeas (Nat.not_lt_zero _)
    | succ fuel ih_7 =>
      intro S7 k H locs ls hmeas hI7 hFm7 hL7_ hk hc ht hW hL hl
      refine lv_iload_n hx hb dX6_combine_7 rfl (lv_at hl 0 rfl) ?_
      refine lv_aload_n hx hb dX6_combine_8 rfl (lv_at hl 1 rfl) ?_
      have q_4 : 0 ≤ S.1 193 9 ∧ S.1 193 9 ≤ 40 := hI.fi 193 9 6 (by decide) rfl
      refine g_X6_50 Cx hW (k := 193) (by decide) rfl (v := S.1 193 9) (((hL7_ 193 rfl).1 9).trans ((fu_1 193 rfl).1 9)) dX6_combine_9 ?_
      refine r_icmp_gt (tgt := 101) hx hb ⟨(by omega), (by omega)⟩ ⟨(by omega), (by omega)⟩ dX6_combine_12 (by decide) (fun c_5 => ?_) (fun c_5 => ?_)
      · have q_6 : 0 ≤ S7.1 202 1 ∧ S7.1 202 1 ≤ 32 := hI7.fi 202 1 0 (by decide) rfl
        exact sVret Cx hr hlk hW hL ⟨hI7, hFm7, ⟨by omega, fun q => by have e := ht q; omega⟩⟩ dX6_combine_101
      · refine lv_aload_n hx hb dX6_combine_15 rfl (lv_at hl 1 rfl) ?_
        refine g_X6_17 Cx hW (k := 193) (by decide) rfl (v := .ref (G.2.2.1 + 195)) (rf_193_1 hI7) dX6_combine_16 ?_
        refine lv_iload_n hx hb dX6_combine_19 rfl (lv_at hl 0 rfl) ?_
        refine lv_bipush (v := iv 8) hx hb dX6_combine_20 (by decide) ?_
        refine r_imul hx hb dX6_combine_22 ?_
        refine rIald Cx hW (k := 195) (by decide) rfl (by decide) (by omega) (by omega) dX6_combine_23 ?_
        have q_7 : (-2147483648) ≤ S.2.1 195 (k * 8) ∧ S.2.1 195 (k * 8) ≤ 2147483647 := hI.ai 195 (k * 8) (by decide)
        refine r_i (b := S.2.1 195 (k * 8)) (((hL7_ 195 rfl).2.1 (k * 8)).trans ((fu_1 195 rfl).2.1 (k * 8))) ?_
        refine r_if_eq (tgt := 95) hx hb ⟨(by omega), (by omega)⟩ dX6_combine_24 (by decide) (fun c_8 => ?_) (fun c_8 => ?_)
        · refine lv_iinc (v := iv (k + 1)) (lv' := [(3, .int (iv (k + 1))), (0, .ref (G.2.2.1 + 193)), (1, .int (iv j)), (2, .ref (G.2.2.1 + 202))]) hx hb dX6_combine_95 hl (k := 0) rfl ((Int32.ofInt_add _ _).symm) (by decide) rfl (fun ls hl => ?_)
          refine lv_goto (tgt := 7) hx hb dX6_combine_98 (by decide) ?_
          have q_9 : 0 ≤ S7.1 202 1 ∧ S7.1 202 1 ≤ 32 := hI7.fi 202 1 0 (by decide) rfl
          exact ih_7 S7 (k + 1) _ _ _ (by omega) hI7 hFm7 hL7_ (by omega) (by omega) (fun q => by have e := ht q; omega) hW hL (lv_sub hl [0, 1, 2, 3] rfl)
        · refine lv_aload_n hx hb dX6_combine_27 rfl (lv_at hl 1 rfl) ?_
          refine g_X6_13 Cx hW (k := 193) (by decide) rfl (v := .ref (G.2.2.1 + 194)) (rf_193_0 hI7) dX6_combine_28 ?_
          refine lv_iload_n hx hb dX6_combine_31 rfl (lv_at hl 0 rfl) ?_
          refine lv_iload_n hx hb dX6_combine_32 rfl (lv_at hl 2 rfl) ?_
          refine sBi (sSt (As := [.int (iv k), .int (iv j)]) (rest := [.ref (G.2.2.1 + 194)]) Cx (s_X6_at l G S7 (k := k) (j := j) (by omega) (by omega)) (c_X6_53 Cx rfl rfl (rmk_ok (by omega) (by decide))) hW rfl hl.1 rfl (Nat.le_of_ble_eq_true rfl) dX6_combine_33 ⟨Nat.le_of_ble_eq_true rfl, Nat.le_of_ble_eq_true rfl⟩) hL (fun r_12 u_10 H locs k_11 hW hL => ?_)
          obtain ⟨eu_10, xu_10⟩ := k_11
          rw [eu_10] at hW
          refine rIald Cx hW (k := 194) (by decide) rfl (by decide) (by omega) (by omega) dX6_combine_36 ?_
          have q_13 : (-2147483648) ≤ S.2.1 194 r_12 ∧ S.2.1 194 r_12 ≤ 2147483647 := hI.ai 194 r_12 (by decide)
          refine r_i (b := S.2.1 194 r_12) (((hL7_ 194 rfl).2.1 r_12).trans ((fu_1 194 rfl).2.1 r_12)) ?_
          refine r_if_eq (tgt := 95) hx hb ⟨(by omega), (by omega)⟩ dX6_combine_37 (by decide) (fun c_14 => ?_) (fun c_14 => ?_)
          · refine lv_iinc (v := iv (k + 1)) (lv' := [(3, .int (iv (k + 1))), (0, .ref (G.2.2.1 + 193)), (1, .int (iv j)), (2, .ref (G.2.2.1 + 202))]) hx hb dX6_combine_95 hl (k := 0) rfl ((Int32.ofInt_add _ _).symm) (by decide) rfl (fun ls hl => ?_)
            refine lv_goto (tgt := 7) hx hb dX6_combine_98 (by decide) ?_
            have q_15 : 0 ≤ S7.1 202 1 ∧ S7.1 202 1 ≤ 32 := hI7.fi 202 1 0 (by decide) rfl
            exact ih_7 S7 (k + 1) _ _ _ (by omega) hI7 hFm7 hL7_ (by omega) (by omega) (fun q => by have e := ht q; omega) hW hL (lv_sub hl [0, 1, 2, 3] rfl)
          · refine lv_aload_n hx hb dX6_combine_40 rfl (lv_at hl 1 rfl) ?_
            refine g_X6_21 Cx hW (k := 193) (by decide) rfl (v := .ref (G.2.2.1 + 196)) (rf_193_2 hI7) dX6_combine_41 ?_
            refine lv_aload_n hx hb dX6_combine_44 rfl (lv_at hl 1 rfl) ?_
            refine g_X6_17 Cx hW (k := 193) (by decide) rfl (v := .ref (G.2.2.1 + 195)) (rf_193_1 hI7) dX6_combine_45 ?_
            refine lv_iload_n hx hb dX6_combine_48 rfl (lv_at hl 0 rfl) ?_
            refine lv_bipush (v := iv 8) hx hb dX6_combine_49 (by decide) ?_
            refine r_imul hx hb dX6_combine_51 ?_
            refine sBv (sV (As := [.ref (G.2.2.1 + 195), .int (iv (k * 8))]) (rest := []) (k := 196) Cx (s_X0_load l G S7 (o := 196) (k := 195) (a := k * 8) (N := 328) hI7 rfl ⟨by decide, rfl, by decide, rfl, rfl, rfl⟩ (by omega)) (c_X6_75 Cx rfl rfl (rmk_ok (by omega) (by decide))) hW (by decide) rfl rfl rfl hl.1 rfl (Nat.le_of_ble_eq_true rfl) dX6_combine_52 ⟨Nat.le_of_ble_eq_true rfl, Nat.le_of_ble_eq_true rfl⟩) hL (fun u_16 H locs k_17 hW hL => ?_)
            obtain ⟨iu_16, fu_16, xu_16⟩ := k_17
            have F_18 := hFm7.trans (fu_16.to (pB_sub rfl rfl))
            have F_19 := hL7_.trans (fu_16.to (pB_sub rfl rfl))
            have yu_16 : u_16.1 196 1 ≤ 7 := xu_16.1
            refine lv_aload_n hx hb dX6_combine_55 rfl (lv_at hl 1 rfl) ?_
            refine g_X6_25 Cx hW (k := 193) (by decide) rfl (v := .ref (G.2.2.1 + 198)) (rf_193_3 iu_16) dX6_combine_56 ?_
            refine lv_aload_n hx hb dX6_combine_59 rfl (lv_at hl 1 rfl) ?_
            refine g_X6_13 Cx hW (k := 193) (by decide) rfl (v := .ref (G.2.2.1 + 194)) (rf_193_0 iu_16) dX6_combine_60 ?_
            refine lv_iload_n hx hb dX6_combine_63 rfl (lv_at hl 0 rfl) ?_
            refine lv_iload_n hx hb dX6_combine_64 rfl (lv_at hl 2 rfl) ?_
            refine sBi (sSt (As := [.int (iv k), .int (iv j)]) (rest := [.ref (G.2.2.1 + 194), .ref (G.2.2.1 + 198)]) Cx (s_X6_at l G u_16 (k := k) (j := j) (by omega) (by omega)) (c_X6_53 Cx rfl rfl (rmk_ok (by omega) (by decide))) hW rfl hl.1 rfl (Nat.le_of_ble_eq_true rfl) dX6_combine_65 ⟨Nat.le_of_ble_eq_true rfl, Nat.le_of_ble_eq_true rfl⟩) hL (fun r_22 u_20 H locs k_21 hW hL => ?_)
            obtain ⟨eu_20, xu_20⟩ := k_21
            rw [eu_20] at hW
            refine sBv (sV (As := [.ref (G.2.2.1 + 194), .int (iv r_22)]) (rest := []) (k := 198) Cx (s_X0_load l G u_16 (o := 198) (k := 194) (a := r_22) (N := 4264) iu_16 rfl ⟨by decide, rfl, by decide, rfl, rfl, rfl⟩ (by omega)) (c_X6_75 Cx rfl rfl (rmk_ok (by omega) (by decide))) hW (by decide) rfl rfl rfl hl.1 rfl (Nat.le_of_ble_eq_true rfl) dX6_combine_68 ⟨Nat.le_of_ble_eq_true rfl, Nat.le_of_ble_eq_true rfl⟩) hL (fun u_23 H locs k_24 hW hL => ?_)
            obtain ⟨iu_23, fu_23, xu_23⟩ := k_24
            have F_25 := F_18.trans (fu_23.to (pB_sub rfl rfl))
            have F_26 := F_19.trans (fu_23.to (pB_sub rfl rfl))
            have yu_23 : u_23.1 198 1 ≤ 7 := xu_23.1
            refine lv_aload_n hx hb dX6_combine_71 rfl (lv_at hl 1 rfl) ?_
            refine g_X6_28 Cx hW (k := 193) (by decide) rfl (v := .ref (G.2.2.1 + 200)) (rf_193_4 iu_23) dX6_combine_72 ?_
            refine lv_aload_n hx hb dX6_combine_75 rfl (lv_at hl 1 rfl) ?_
            refine g_X6_21 Cx hW (k := 193) (by decide) rfl (v := .ref (G.2.2.1 + 196)) (rf_193_2 iu_23) dX6_combine_76 ?_
            refine lv_aload_n hx hb dX6_combine_79 rfl (lv_at hl 1 rfl) ?_
            refine g_X6_25 Cx hW (k := 193) (by decide) rfl (v := .ref (G.2.2.1 + 198)) (rf_193_3 iu_23) dX6_combine_80 ?_
            have q_27 : 0 ≤ u_16.1 196 1 ∧ u_16.1 196 1 ≤ 32 := iu_16.fi 196 1 0 (by decide) rfl
            have lk_28 : u_23.1 196 1 = u_16.1 196 1 := (fu_23 196 rfl).1 1
            have q_29 : 0 ≤ u_23.1 198 1 ∧ u_23.1 198 1 ≤ 32 := iu_23.fi 198 1 0 (by decide) rfl
            refine sBv (sV (As := [.ref (G.2.2.1 + 196), .ref (G.2.2.1 + 198)]) (rest := []) (k := 200) Cx (s_X0_product l G u_23 (o := 200) (a := 196) (b := 198) iu_23 rfl rfl rfl (show (200 : Nat) ≠ 196 by decide) (show (200 : Nat) ≠ 198 by decide)) (c_X6_90 Cx rfl rfl (rmk_ok (by omega) (by decide))) hW (by decide) rfl rfl rfl hl.1 rfl (Nat.le_of_ble_eq_true rfl) dX6_combine_83 ⟨Nat.le_of_ble_eq_true rfl, Nat.le_of_ble_eq_true rfl⟩) hL (fun u_30 H locs k_31 hW hL => ?_)
            obtain ⟨iu_30, fu_30, xu_30⟩ := k_31
            have F_32 := F_25.trans (fu_30.to (pB_sub rfl rfl))
            have F_33 := F_26.trans (fu_30.to (pB_sub rfl rfl))
            refine lv_aload_n hx hb dX6_combine_86 rfl (lv_at hl 3 rfl) ?_
            refine lv_aload_n hx hb dX6_combine_87 rfl (lv_at hl 1 rfl) ?_
            refine g_X6_28 Cx hW (k := 193) (by decide) rfl (v := .ref (G.2.2.1 + 200)) (rf_193_4 iu_30) dX6_combine_88 ?_
            refine lv_iconst (v := iv 1) hx hb dX6_combine_91 (by decide) ?_
            have q_34 : 0 ≤ u_30.1 200 1 ∧ u_30.1 200 1 ≤ 32 := iu_30.fi 200 1 0 (by decide) rfl
            have q_35 : 0 ≤ S7.1 202 1 ∧ S7.1 202 1 ≤ 32 := hI7.fi 202 1 0 (by decide) rfl
            have lk_36 : u_30.1 202 1 = S7.1 202 1 := ((fu_30 202 rfl).1 1).trans (((fu_23 202 rfl).1 1).trans ((fu_16 202 rfl).1 1))
            have q_37 : (-1) ≤ S7.1 202 2 ∧ S7.1 202 2 ≤ 1 := hI7.fi 202 2 0 (by decide) rfl
            have lk_38 : u_30.1 202 2 = S7.1 202 2 := ((fu_30 202 rfl).1 2).trans (((fu_23 202 rfl).1 2).trans ((fu_16 202 rfl).1 2))
            have q_39 : (-1) ≤ u_30.1 200 2 ∧ u_30.1 200 2 ≤ 1 := iu_30.fi 200 2 0 (by decide) rfl
            refine sBv (sV (As := [.ref (G.2.2.1 + 200), .int (iv 1)]) (rest := []) (k := 202) Cx (t_X0_add_p l G u_30 (o := 202) (a := 200) (n := 14) (t := k - 1) iu_30 rfl rfl (show (202 : Nat) ≠ 200 by decide) (by omega) (fun q => by have e : u_30.2.1 203 14 = S7.2.1 203 14 := ((fu_30 203 rfl).2.1 14).trans (((fu_23 203 rfl).2.1 14).trans ((fu_16 203 rfl).2.1 14)); rw [e]; exact ht (by omega))) (c_X6_93 Cx rfl rfl (rmk_ok (by omega) (by decide))) hW (by decide) rfl rfl rfl hl.1 rfl (Nat.le_of_ble_eq_true rfl) dX6_combine_92 ⟨Nat.le_of_ble_eq_true rfl, Nat.le_of_ble_eq_true rfl⟩) hL (fun u_40 H locs k_41 hW hL => ?_)
            obtain ⟨iu_40, fu_40, xu_40⟩ := k_41
            have F_42 := F_32.trans (fu_40.to (pB_sub rfl rfl))
            have F_43 := F_33.trans (fu_40.to (pB_sub rfl rfl))
            refine lv_iinc (v := iv (k + 1)) (lv' := [(3, .int (iv (k + 1))), (0, .ref (G.2.2.1 + 193)), (1, .int (iv j)), (2, .ref (G.2.2.1 + 202))]) hx hb dX6_combine_95 hl (k := 0) rfl ((Int32.ofInt_add _ _).symm) (by decide) rfl (fun ls hl => ?_)
            refine lv_goto (tgt := 7) hx hb dX6_combine_98 (by decide) ?_
            have q_44 : 0 ≤ u_40.1 202 1 ∧ u_40.1 202 1 ≤ 32 := iu_40.fi 202 1 0 (by decide) rfl
            exact ih_7 u_40 (k + 1) _ _ _ (by omega) iu_40 F_42 F_43 (by omega) (by omega) (fun q => by have e : u_40.2.1 203 14 ≤ k - 1 + 1 := xu_40.2.1 q; omega) hW hL (lv_sub hl [0, 1, 2, 3] rfl)
  have q_45 : 0 ≤ u_1.1 202 1 ∧ u_1.1 202 1 ≤ 32 := iu_1.fi 202 1 0 (by decide) rfl
  exact loop_7 (_ + 1) u_1 1 _ _ _ (Nat.lt_succ_self _) iu_1 F_3 Fr.rf (by omega) (by omega) (fun q => absurd q (by omega)) hW hL (lv_sub hl [0, 1, 2, 3] rfl)

set_option maxRecDepth 100000 in
set_option maxHeartbeats 4000000 in
theorem s_X6_combine_193_215 (l : Launch) (G : sG) (S : sS) {j : Int} (hI : cX G S 0 0 0) (hj : 0 ≤ j ∧ j ≤ 12) : Met l yX6_combine (.code yX6_combine cX6_combine 4 none :: tb) (rmk 4 0 0) (sPc G 294 S [.ref (G.2.2.1 + 193), .int (iv j), .ref (G.2.2.1 + 215)]) (sQv G 294 (fun u => cX G u 0 0 0 ∧ Fr S u (pK 193 215) ∧ (u.1 215 1 ≤ 15 ∧ Hd (u.1 215 1 = 15 → u.2.1 216 14 ≤ 40)))) 0 0 (sF G) := by
  refine sEnter (by decide) (Nat.le_of_ble_eq_true rfl) ?_
  intro p e s m args below meth c Cx hr hlk hnm hW ls hl
  have Cx : sC G p m c cX6_combine 4 s args RX6 := Cx
  obtain ⟨hx, hb, hml, hown, hts⟩ := id Cx.1
  have hL : sL G [] := sL_nil
  have hl : lv_has ls 4 [(0, .ref (G.2.2.1 + 193)), (1, .int (iv j)), (2, .ref (G.2.2.1 + 215))] := hl
  have hW0 := hW
  refine lv_aload_n hx hb dX6_combine_0 rfl (lv_at hl 2 rfl) ?_
  refine lv_lconst (v := jv 0) hx hb dX6_combine_1 (by decide) ?_
  refine sBv (sV (As := [.long (jv 0)]) (rest := []) (k := 215) Cx (s_X0_put l G S (o := 215) (v := 0) hI rfl (by omega)) (c_X6_86 Cx rfl rfl (rmk_ok (by omega) (by decide))) hW (by decide) rfl rfl rfl hl.1 rfl (Nat.le_of_ble_eq_true rfl) dX6_combine_2 ⟨Nat.le_of_ble_eq_true rfl, Nat.le_of_ble_eq_true rfl⟩) hL (fun u_1 H locs k_2 hW hL => ?_)
  obtain ⟨iu_1, fu_1, xu_1⟩ := k_2
  have F_3 := (Fr.rf : Fr S S (pK 193 215)).trans (fu_1.to (pB_sub rfl rfl))
  refine lv_iconst (v := iv 1) hx hb dX6_combine_5 (by decide) ?_
  refine lv_istore_n (lv' := [(3, .int (iv 1)), (0, .ref (G.2.2.1 + 193)), (1, .int (iv j)), (2, .ref (G.2.2.1 + 215))]) hx hb dX6_combine_6 rfl hl (by decide) rfl (fun ls hl => ?_)
  have loop_7 : ∀ (fuel : Nat) (S7 : sS) (k : Int) (H : Heap) (locs : List Loc) (ls : Array Slot), (41 - k).toNat < fuel → (cX G S7 0 0 0) → (Fr S S7 (pK 193 215)) → (Fr u_1 S7 (pK 193 215)) → (1 ≤ k ∧ k ≤ 41) → (S7.1 215 1 ≤ 15) → (Hd (S7.1 215 1 = 15 → S7.2.1 216 14 ≤ k - 1)) → sW G 294 S7 H → sL G locs → lv_has ls 4 [(3, .int (iv k)), (0, .ref (G.2.2.1 + 193)), (1, .int (iv j)), (2, .ref (G.2.2.1 + 215))] → W p l e (rmk 4 0 0) s m args below meth c H locs 0 0 (MQ below (sQv G 294 (fun u => cX G u 0 0 0 ∧ Fr S u (pK 193 215) ∧ (u.1 215 1 ≤ 15 ∧ Hd (u.1 215 1 = 15 → u.2.1 216 14 ≤ 40)))) args s 0 0 (sF G)) (F0 m 7 ls []) := by
    intro fuel
    induction fuel with
    | zero => intro S7 k H locs ls hmeas hI7 hFm7 hL7_ hk hc ht hW hL hl; exact absurd hmeas (Nat.not_lt_zero _)
    | succ fuel ih_7 =>
      intro S7 k H locs ls hmeas hI7 hFm7 hL7_ hk hc ht hW hL hl
      refine lv_iload_n hx hb dX6_combine_7 rfl (lv_at hl 0 rfl) ?_
      refine lv_aload_n hx hb dX6_combine_8 rfl (lv_at hl 1 rfl) ?_
      have q_4 : 0 ≤ S.1 193 9 ∧ S.1 193 9 ≤ 40 := hI.fi 193 9 6 (by decide) rfl
      refine g_X6_50 Cx hW (k := 193) (by decide) rfl (v := S.1 193 9) (((hL7_ 193 rfl).1 9).trans ((fu_1 193 rfl).1 9)) dX6_combine_9 ?_
      refine r_icmp_gt (tgt := 101) hx hb ⟨(by omega), (by omega)⟩ ⟨(by omega), (by omega)⟩ dX6_combine_12 (by decide) (fun c_5 => ?_) (fun c_5 => ?_)
      · have q_6 : 0 ≤ S7.1 215 1 ∧ S7.1 215 1 ≤ 32 := hI7.fi 215 1 0 (by decide) rfl
        exact sVret Cx hr hlk hW hL ⟨hI7, hFm7, ⟨by omega, fun q => by have e := ht q; omega⟩⟩ dX6_combine_101
      · refine lv_aload_n hx hb dX6_combine_15 rfl (lv_at hl 1 rfl) ?_
        refine g_X6_17 Cx hW (k := 193) (by decide) rfl (v := .ref (G.2.2.1 + 195)) (rf_193_1 hI7) dX6_combine_16 ?_
        refine lv_iload_n hx hb dX6_combine_19 rfl (lv_at hl 0 rfl) ?_
        refine lv_bipush (v := iv 8) hx hb dX6_combine_20 (by decide) ?_
        refine r_imul hx hb dX6_combine_22 ?_
        refine rIald Cx hW (k := 195) (by decide) rfl (by decide) (by omega) (by omega) dX6_combine_23 ?_
        have q_7 : (-2147483648) ≤ S.2.1 195 (k * 8) ∧ S.2.1 195 (k * 8) ≤ 2147483647 := hI.ai 195 (k * 8) (by decide)
        refine r_i (b := S.2.1 195 (k * 8)) (((hL7_ 195 rfl).2.1 (k * 8)).trans ((fu_1 195 rfl).2.1 (k * 8))) ?_
        refine r_if_eq (tgt := 95) hx hb ⟨(by omega), (by omega)⟩ dX6_combine_24 (by decide) (fun c_8 => ?_) (fun c_8 => ?_)
        · refine lv_iinc (v := iv (k + 1)) (lv' := [(3, .int (iv (k + 1))), (0, .ref (G.2.2.1 + 193)), (1, .int (iv j)), (2, .ref (G.2.2.1 + 215))]) hx hb dX6_combine_95 hl (k := 0) rfl ((Int32.ofInt_add _ _).symm) (by decide) rfl (fun ls hl => ?_)
          refine lv_goto (tgt := 7) hx hb dX6_combine_98 (by decide) ?_
          have q_9 : 0 ≤ S7.1 215 1 ∧ S7.1 215 1 ≤ 32 := hI7.fi 215 1 0 (by decide) rfl
          exact ih_7 S7 (k + 1) _ _ _ (by omega) hI7 hFm7 hL7_ (by omega) (by omega) (fun q => by have e := ht q; omega) hW hL (lv_sub hl [0, 1, 2, 3] rfl)
        · refine lv_aload_n hx hb dX6_combine_27 rfl (lv_at hl 1 rfl) ?_
          refine g_X6_13 Cx hW (k := 193) (by decide) rfl (v := .ref (G.2.2.1 + 194)) (rf_193_0 hI7) dX6_combine_28 ?_
          refine lv_iload_n hx hb dX6_combine_31 rfl (lv_at hl 0 rfl) ?_
          refine lv_iload_n hx hb dX6_combine_32 rfl (lv_at hl 2 rfl) ?_
          refine sBi (sSt (As := [.int (iv k), .int (iv j)]) (rest := [.ref (G.2.2.1 + 194)]) Cx (s_X6_at l G S7 (k := k) (j := j) (by omega) (by omega)) (c_X6_53 Cx rfl rfl (rmk_ok (by omega) (by decide))) hW rfl hl.1 rfl (Nat.le_of_ble_eq_true rfl) dX6_combine_33 ⟨Nat.le_of_ble_eq_true rfl, Nat.le_of_ble_eq_true rfl⟩) hL (fun r_12 u_10 H locs k_11 hW hL => ?_)
          obtain ⟨eu_10, xu_10⟩ := k_11
          rw [eu_10] at hW
          refine rIald Cx hW (k := 194) (by decide) rfl (by decide) (by omega) (by omega) dX6_combine_36 ?_
          have q_13 : (-2147483648) ≤ S.2.1 194 r_12 ∧ S.2.1 194 r_12 ≤ 2147483647 := hI.ai 194 r_12 (by decide)
          refine r_i (b := S.2.1 194 r_12) (((hL7_ 194 rfl).2.1 r_12).trans ((fu_1 194 rfl).2.1 r_12)) ?_
          refine r_if_eq (tgt := 95) hx hb ⟨(by omega), (by omega)⟩ dX6_combine_37 (by decide) (fun c_14 => ?_) (fun c_14 => ?_)
          · refine lv_iinc (v := iv (k + 1)) (lv' := [(3, .int (iv (k + 1))), (0, .ref (G.2.2.1 + 193)), (1, .int (iv j)), (2, .ref (G.2.2.1 + 215))]) hx hb dX6_combine_95 hl (k := 0) rfl ((Int32.ofInt_add _ _).symm) (by decide) rfl (fun ls hl => ?_)
            refine lv_goto (tgt := 7) hx hb dX6_combine_98 (by decide) ?_
            have q_15 : 0 ≤ S7.1 215 1 ∧ S7.1 215 1 ≤ 32 := hI7.fi 215 1 0 (by decide) rfl
            exact ih_7 S7 (k + 1) _ _ _ (by omega) hI7 hFm7 hL7_ (by omega) (by omega) (fun q => by have e := ht q; omega) hW hL (lv_sub hl [0, 1, 2, 3] rfl)
          · refine lv_aload_n hx hb dX6_combine_40 rfl (lv_at hl 1 rfl) ?_
            refine g_X6_21 Cx hW (k := 193) (by decide) rfl (v := .ref (G.2.2.1 + 196)) (rf_193_2 hI7) dX6_combine_41 ?_
            refine lv_aload_n hx hb dX6_combine_44 rfl (lv_at hl 1 rfl) ?_
            refine g_X6_17 Cx hW (k := 193) (by decide) rfl (v := .ref (G.2.2.1 + 195)) (rf_193_1 hI7) dX6_combine_45 ?_
            refine lv_iload_n hx hb dX6_combine_48 rfl (lv_at hl 0 rfl) ?_
            refine lv_bipush (v := iv 8) hx hb dX6_combine_49 (by decide) ?_
            refine r_imul hx hb dX6_combine_51 ?_
            refine sBv (sV (As := [.ref (G.2.2.1 + 195), .int (iv (k * 8))]) (rest := []) (k := 196) Cx (s_X0_load l G S7 (o := 196) (k := 195) (a := k * 8) (N := 328) hI7 rfl ⟨by decide, rfl, by decide, rfl, rfl, rfl⟩ (by omega)) (c_X6_75 Cx rfl rfl (rmk_ok (by omega) (by decide))) hW (by decide) rfl rfl rfl hl.1 rfl (Nat.le_of_ble_eq_true rfl) dX6_combine_52 ⟨Nat.le_of_ble_eq_true rfl, Nat.le_of_ble_eq_true rfl⟩) hL (fun u_16 H locs k_17 hW hL => ?_)
            obtain ⟨iu_16, fu_16, xu_16⟩ := k_17
            have F_18 := hFm7.trans (fu_16.to (pB_sub rfl rfl))
            have F_19 := hL7_.trans (fu_16.to (pB_sub rfl rfl))
            have yu_16 : u_16.1 196 1 ≤ 7 := xu_16.1
            refine lv_aload_n hx hb dX6_combine_55 rfl (lv_at hl 1 rfl) ?_
            refine g_X6_25 Cx hW (k := 193) (by decide) rfl (v := .ref (G.2.2.1 + 198)) (rf_193_3 iu_16) dX6_combine_56 ?_
            refine lv_aload_n hx hb dX6_combine_59 rfl (lv_at hl 1 rfl) ?_
            refine g_X6_13 Cx hW (k := 193) (by decide) rfl (v := .ref (G.2.2.1 + 194)) (rf_193_0 iu_16) dX6_combine_60 ?_
            refine lv_iload_n hx hb dX6_combine_63 rfl (lv_at hl 0 rfl) ?_
            refine lv_iload_n hx hb dX6_combine_64 rfl (lv_at hl 2 rfl) ?_
            refine sBi (sSt (As := [.int (iv k), .int (iv j)]) (rest := [.ref (G.2.2.1 + 194), .ref (G.2.2.1 + 198)]) Cx (s_X6_at l G u_16 (k := k) (j := j) (by omega) (by omega)) (c_X6_53 Cx rfl rfl (rmk_ok (by omega) (by decide))) hW rfl hl.1 rfl (Nat.le_of_ble_eq_true rfl) dX6_combine_65 ⟨Nat.le_of_ble_eq_true rfl, Nat.le_of_ble_eq_true rfl⟩) hL (fun r_22 u_20 H locs k_21 hW hL => ?_)
            obtain ⟨eu_20, xu_20⟩ := k_21
            rw [eu_20] at hW
            refine sBv (sV (As := [.ref (G.2.2.1 + 194), .int (iv r_22)]) (rest := []) (k := 198) Cx (s_X0_load l G u_16 (o := 198) (k := 194) (a := r_22) (N := 4264) iu_16 rfl ⟨by decide, rfl, by decide, rfl, rfl, rfl⟩ (by omega)) (c_X6_75 Cx rfl rfl (rmk_ok (by omega) (by decide))) hW (by decide) rfl rfl rfl hl.1 rfl (Nat.le_of_ble_eq_true rfl) dX6_combine_68 ⟨Nat.le_of_ble_eq_true rfl, Nat.le_of_ble_eq_true rfl⟩) hL (fun u_23 H locs k_24 hW hL => ?_)
            obtain ⟨iu_23, fu_23, xu_23⟩ := k_24
            have F_25 := F_18.trans (fu_23.to (pB_sub rfl rfl))
            have F_26 := F_19.trans (fu_23.to (pB_sub rfl rfl))
            have yu_23 : u_23.1 198 1 ≤ 7 := xu_23.1
            refine lv_aload_n hx hb dX6_combine_71 rfl (lv_at hl 1 rfl) ?_
            refine g_X6_28 Cx hW (k := 193) (by decide) rfl (v := .ref (G.2.2.1 + 200)) (rf_193_4 iu_23) dX6_combine_72 ?_
            refine lv_aload_n hx hb dX6_combine_75 rfl (lv_at hl 1 rfl) ?_
            refine g_X6_21 Cx hW (k := 193) (by decide) rfl (v := .ref (G.2.2.1 + 196)) (rf_193_2 iu_23) dX6_combine_76 ?_
            refine lv_aload_n hx hb dX6_combine_79 rfl (lv_at hl 1 rfl) ?_
            refine g_X6_25 Cx hW (k := 193) (by decide) rfl (v := .ref (G.2.2.1 + 198)) (rf_193_3 iu_23) dX6_combine_80 ?_
            have q_27 : 0 ≤ u_16.1 196 1 ∧ u_16.1 196 1 ≤ 32 := iu_16.fi 196 1 0 (by decide) rfl
            have lk_28 : u_23.1 196 1 = u_16.1 196 1 := (fu_23 196 rfl).1 1
            have q_29 : 0 ≤ u_23.1 198 1 ∧ u_23.1 198 1 ≤ 32 := iu_23.fi 198 1 0 (by decide) rfl
            refine sBv (sV (As := [.ref (G.2.2.1 + 196), .ref (G.2.2.1 + 198)]) (rest := []) (k := 200) Cx (s_X0_product l G u_23 (o := 200) (a := 196) (b := 198) iu_23 rfl rfl rfl (show (200 : Nat) ≠ 196 by decide) (show (200 : Nat) ≠ 198 by decide)) (c_X6_90 Cx rfl rfl (rmk_ok (by omega) (by decide))) hW (by decide) rfl rfl rfl hl.1 rfl (Nat.le_of_ble_eq_true rfl) dX6_combine_83 ⟨Nat.le_of_ble_eq_true rfl, Nat.le_of_ble_eq_true rfl⟩) hL (fun u_30 H locs k_31 hW hL => ?_)
            obtain ⟨iu_30, fu_30, xu_30⟩ := k_31
            have F_32 := F_25.trans (fu_30.to (pB_sub rfl rfl))
            have F_33 := F_26.trans (fu_30.to (pB_sub rfl rfl))
            refine lv_aload_n hx hb dX6_combine_86 rfl (lv_at hl 3 rfl) ?_
            refine lv_aload_n hx hb dX6_combine_87 rfl (lv_at hl 1 rfl) ?_
            refine g_X6_28 Cx hW (k := 193) (by decide) rfl (v := .ref (G.2.2.1 + 200)) (rf_193_4 iu_30) dX6_combine_88 ?_
            refine lv_iconst (v := iv 1) hx hb dX6_combine_91 (by decide) ?_
            have q_34 : 0 ≤ u_30.1 200 1 ∧ u_30.1 200 1 ≤ 32 := iu_30.fi 200 1 0 (by decide) rfl
            have q_35 : 0 ≤ S7.1 215 1 ∧ S7.1 215 1 ≤ 32 := hI7.fi 215 1 0 (by decide) rfl
            have lk_36 : u_30.1 215 1 = S7.1 215 1 := ((fu_30 215 rfl).1 1).trans (((fu_23 215 rfl).1 1).trans ((fu_16 215 rfl).1 1))
            have q_37 : (-1) ≤ S7.1 215 2 ∧ S7.1 215 2 ≤ 1 := hI7.fi 215 2 0 (by decide) rfl
            have lk_38 : u_30.1 215 2 = S7.1 215 2 := ((fu_30 215 rfl).1 2).trans (((fu_23 215 rfl).1 2).trans ((fu_16 215 rfl).1 2))
            have q_39 : (-1) ≤ u_30.1 200 2 ∧ u_30.1 200 2 ≤ 1 := iu_30.fi 200 2 0 (by decide) rfl
            refine sBv (sV (As := [.ref (G.2.2.1 + 200), .int (iv 1)]) (rest := []) (k := 215) Cx (t_X0_add_p l G u_30 (o := 215) (a := 200) (n := 14) (t := k - 1) iu_30 rfl rfl (show (215 : Nat) ≠ 200 by decide) (by omega) (fun q => by have e : u_30.2.1 216 14 = S7.2.1 216 14 := ((fu_30 216 rfl).2.1 14).trans (((fu_23 216 rfl).2.1 14).trans ((fu_16 216 rfl).2.1 14)); rw [e]; exact ht (by omega))) (c_X6_93 Cx rfl rfl (rmk_ok (by omega) (by decide))) hW (by decide) rfl rfl rfl hl.1 rfl (Nat.le_of_ble_eq_true rfl) dX6_combine_92 ⟨Nat.le_of_ble_eq_true rfl, Nat.le_of_ble_eq_true rfl⟩) hL (fun u_40 H locs k_41 hW hL => ?_)
            obtain ⟨iu_40, fu_40, xu_40⟩ := k_41
            have F_42 := F_32.trans (fu_40.to (pB_sub rfl rfl))
            have F_43 := F_33.trans (fu_40.to (pB_sub rfl rfl))
            refine lv_iinc (v := iv (k + 1)) (lv' := [(3, .int (iv (k + 1))), (0, .ref (G.2.2.1 + 193)), (1, .int (iv j)), (2, .ref (G.2.2.1 + 215))]) hx hb dX6_combine_95 hl (k := 0) rfl ((Int32.ofInt_add _ _).symm) (by decide) rfl (fun ls hl => ?_)
            refine lv_goto (tgt := 7) hx hb dX6_combine_98 (by decide) ?_
            have q_44 : 0 ≤ u_40.1 215 1 ∧ u_40.1 215 1 ≤ 32 := iu_40.fi 215 1 0 (by decide) rfl
            exact ih_7 u_40 (k + 1) _ _ _ (by omega) iu_40 F_42 F_43 (by omega) (by omega) (fun q => by have e : u_40.2.1 216 14 ≤ k - 1 + 1 := xu_40.2.1 q; omega) hW hL (lv_sub hl [0, 1, 2, 3] rfl)
  have q_45 : 0 ≤ u_1.1 215 1 ∧ u_1.1 215 1 ≤ 32 := iu_1.fi 215 1 0 (by decide) rfl
  exact loop_7 (_ + 1) u_1 1 _ _ _ (Nat.lt_succ_self _) iu_1 F_3 Fr.rf (by omega) (by omega) (fun q => absurd q (by omega)) hW hL (lv_sub hl [0, 1, 2, 3] rfl)
