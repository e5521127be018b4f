def tn (j : Int) : Int := if j ≤ 0 then 1 else if j = 1 then 10 else if j = 2 then 100 else if j = 3 then 1000 else if j = 4 then 10000 else if j = 5 then 100000 else if j = 6 then 1000000 else if j = 7 then 10000000 else if j = 8 then 100000000 else 1000000000
theorem tn_0 (j : Int) : 0 < tn j := by unfold tn; repeat' split <;> omega
theorem tn_9 {j l : Int} (h : l < tn j) (_ : j ≤ 9) : l ≤ 999999999 := by unfold tn at h; repeat' split at h <;> omega
theorem tn_st {j l : Int} (h : l < tn j) (h8 : j ≤ 8) : l ≤ 99999999 ∧ ∀ d : Int, 0 ≤ d → d ≤ 9 → 0 ≤ j → 10 * l + d < tn (j + 1) := by
  refine ⟨by unfold tn at h; repeat' split at h <;> omega, fun d d0 d1 j0 => ?_⟩
  rcases (by omega : j = 0 ∨ j = 1 ∨ j = 2 ∨ j = 3 ∨ j = 4 ∨ j = 5 ∨ j = 6 ∨ j = 7 ∨ j = 8) with q | q | q | q | q | q | q | q | q <;> subst q <;> simp [tn] at h ⊢ <;> omega
set_option maxRecDepth 100000 in
set_option maxHeartbeats 4000000 in
theorem s_X10_word (l : Launch) (G : sG) (S : sS) {o N si : Nat} (hI : cX G S 0 0 0) (ht : txt o N) (hsi : si < 38) : Met l yX10_word (.code yX10_word cX10_word 3 none :: tb) (rmk 5 0 0) (sPc G 294 S [.ref (G.2.2.1 + o), .ref (G.1.2 100 si)]) (sQv G 294 (fun u => cX G u 0 0 0 ∧ Fr S u (pB o))) 0 0 (sF G) := by
  refine sEnter (by decide) (Nat.le_of_ble_eq_true rfl) ?_
  intro p e s m args below meth c Cx hr hlk hnm hW ls hl
  have Cx : sC G p m c cX10_word 3 s args RX10 := Cx
  obtain ⟨hx, hb, hml, hown, hts⟩ := id Cx.1
  have hL : sL G [] := sL_nil
  have hl : lv_has ls 3 [(0, .ref (G.2.2.1 + o)), (1, .ref (G.1.2 100 si))] := hl
  have hW0 := hW
  have hN3 := ht.2.2.2.2.2
  have hnr := strN_r si hsi
  have join_13 : ∀ (S13 : sS)  (H : Heap) (locs : List Loc) (ls : Array Slot), (cX G S13 0 0 0) → (Fr S S13 (pB o)) → (Fr S S13 (pB o)) → sW G 294 S13 H → sL G locs → lv_has ls 3 [(0, .ref (G.2.2.1 + o)), (1, .ref (G.1.2 100 si))] → W p l e (rmk 5 0 0) s m args below meth c H locs 0 0 (MQ below (sQv G 294 (fun u => cX G u 0 0 0 ∧ Fr S u (pB o))) args s 0 0 (sF G)) (F0 m 13 ls []) := by
    intro S13  H locs ls hI13 hFm13 hL13_ hW hL hl
    refine lv_iconst (v := iv 0) hx hb dX10_word_13 (by decide) ?_
    refine lv_istore_n (lv' := [(2, .int (iv 0)), (0, .ref (G.2.2.1 + o)), (1, .ref (G.1.2 100 si))]) hx hb dX10_word_14 rfl hl (by decide) rfl (fun ls hl => ?_)
    have loop_15 : ∀ (fuel : Nat) (S15 : sS) (i : Int) (H : Heap) (locs : List Loc) (ls : Array Slot), (71 - i).toNat < fuel → (cX G S15 0 0 0) → (Fr S S15 (pB o)) → (Fr S S15 (pB o)) → (Fr S13 S15 (pB o)) → (0 ≤ i ∧ i ≤ 70) → sW G 294 S15 H → sL G locs → lv_has ls 3 [(2, .int (iv i)), (0, .ref (G.2.2.1 + o)), (1, .ref (G.1.2 100 si))] → W p l e (rmk 5 0 0) s m args below meth c H locs 0 0 (MQ below (sQv G 294 (fun u => cX G u 0 0 0 ∧ Fr S u (pB o))) args s 0 0 (sF G)) (F0 m 15 ls []) := by
      intro fuel
      induction fuel with
      | zero => intro S15 i H locs ls hmeas hI15 hFm15 hFL1315 hL15_ hi hW hL hl; exact absurd hmeas (Nat.not_lt_zero _)
      | succ fuel ih_15 =>
        intro S15 i H locs ls hmeas hI15 hFm15 hFL1315 hL15_ hi hW hL hl
        refine lv_iload_n hx hb dX10_word_15 rfl (lv_at hl 0 rfl) ?_
        refine lv_aload_n hx hb dX10_word_16 rfl (lv_at hl 2 rfl) ?_
        refine sBi (sVz (As := []) (rest := [.int (iv i)]) (a := G.1.2 100 si) Cx (s_J0_length_8abf5 l G S15 (si := si) hsi) (c_X10_33 Cx rfl rfl (rmk_ok (by omega) (by decide))) hW (zRecv Cx hW0 hW hsi) rfl hl.1 rfl (Nat.le_of_ble_eq_true rfl) dX10_word_17 ⟨Nat.le_of_ble_eq_true rfl, Nat.le_of_ble_eq_true rfl⟩) hL (fun r_3 u_1 H locs k_2 hW hL => ?_)
        obtain ⟨eu_1, xu_1⟩ := k_2
        rw [eu_1] at hW
        refine r_icmp_ge (tgt := 38) hx hb ⟨(by omega), (by omega)⟩ ⟨(by omega), (by omega)⟩ dX10_word_20 (by decide) (fun c_4 => ?_) (fun c_4 => ?_)
        · exact sVret Cx hr hlk hW hL ⟨hI15, hFm15⟩ dX10_word_38
        · refine lv_aload_n hx hb dX10_word_23 rfl (lv_at hl 1 rfl) ?_
          refine lv_aload_n hx hb dX10_word_24 rfl (lv_at hl 2 rfl) ?_
          refine lv_iload_n hx hb dX10_word_25 rfl (lv_at hl 0 rfl) ?_
          refine sBi (sVz (As := [.int (iv i)]) (rest := [.ref (G.2.2.1 + o)]) (a := G.1.2 100 si) Cx (s_J0_charAt_5068e l G S15 (si := si) (k := i) hsi (by omega)) (c_X10_38 Cx rfl rfl (rmk_ok (by omega) (by decide))) hW (zRecv Cx hW0 hW hsi) rfl hl.1 rfl (Nat.le_of_ble_eq_true rfl) dX10_word_26 ⟨Nat.le_of_ble_eq_true rfl, Nat.le_of_ble_eq_true rfl⟩) hL (fun r_7 u_5 H locs k_6 hW hL => ?_)
          obtain ⟨eu_5, xu_5⟩ := k_6
          rw [eu_5] at hW
          have q_8 : 0 ≤ S15.1 o 1 ∧ S15.1 o 1 ≤ (N : Int) := txt_len ht hI15
          refine sBv (sV (As := [.int (iv r_7)]) (rest := []) (k := o) Cx (s_X10_put l G S15 (o := o) (k := r_7) (N := N) hI15 ht (by omega)) (c_X10_29 Cx rfl rfl (rmk_ok (by omega) (by decide))) hW (Nat.lt_trans ht.1 (by decide)) ht.2.1 rfl rfl hl.1 rfl (Nat.le_of_ble_eq_true rfl) dX10_word_29 ⟨Nat.le_of_ble_eq_true rfl, Nat.le_of_ble_eq_true rfl⟩) hL (fun u_9 H locs k_10 hW hL => ?_)
          obtain ⟨iu_9, fu_9, xu_9⟩ := k_10
          have F_11 := hFm15.trans fu_9
          have F_12 := hFL1315.trans fu_9
          have F_13 := hL15_.trans fu_9
          refine lv_iinc (v := iv (i + 1)) (lv' := [(2, .int (iv (i + 1))), (0, .ref (G.2.2.1 + o)), (1, .ref (G.1.2 100 si))]) hx hb dX10_word_32 hl (k := 0) rfl ((Int32.ofInt_add _ _).symm) (by decide) rfl (fun ls hl => ?_)
          refine lv_goto (tgt := 15) hx hb dX10_word_35 (by decide) ?_
          exact ih_15 u_9 (i + 1) _ _ _ (by omega) iu_9 F_11 F_12 F_13 (by omega) hW hL (lv_sub hl [0, 1, 2] rfl)
    exact loop_15 (_ + 1) S13 0 _ _ _ (Nat.lt_succ_self _) hI13 hFm13 hL13_ Fr.rf (by omega) hW hL (lv_sub hl [0, 1, 2] rfl)
  refine lv_aload_n hx hb dX10_word_0 rfl (lv_at hl 0 rfl) ?_
  have q_14 : 0 ≤ S.1 o 1 ∧ S.1 o 1 ≤ (N : Int) := txt_len ht hI
  refine g_X10_21 Cx hW (k := o) (Nat.lt_trans ht.1 (by decide)) ht.2.1 (v := S.1 o 1) rfl dX10_word_1 ?_
  refine r_if_le (tgt := 13) hx hb ⟨(by omega), (by omega)⟩ dX10_word_4 (by decide) (fun c_15 => ?_) (fun c_15 => ?_)
  · exact join_13 S  _ _ _ hI (Fr.rf : Fr S S (pB o)) (Fr.rf : Fr S S (pB o)) hW hL (lv_sub hl [0, 1] rfl)
  · refine lv_aload_n hx hb dX10_word_7 rfl (lv_at hl 0 rfl) ?_
    refine lv_bipush (v := iv 32) hx hb dX10_word_8 (by decide) ?_
    refine sBv (sV (As := [.int (iv 32)]) (rest := []) (k := o) Cx (s_X10_put l G S (o := o) (k := 32) (N := N) hI ht (by omega)) (c_X10_29 Cx rfl rfl (rmk_ok (by omega) (by decide))) hW (Nat.lt_trans ht.1 (by decide)) ht.2.1 rfl rfl hl.1 rfl (Nat.le_of_ble_eq_true rfl) dX10_word_10 ⟨Nat.le_of_ble_eq_true rfl, Nat.le_of_ble_eq_true rfl⟩) hL (fun u_16 H locs k_17 hW hL => ?_)
    obtain ⟨iu_16, fu_16, xu_16⟩ := k_17
    have F_18 := (Fr.rf : Fr S S (pB o)).trans fu_16
    have F_19 := (Fr.rf : Fr S S (pB o)).trans fu_16
    exact join_13 u_16  _ _ _ iu_16 F_18 F_19 hW hL (lv_sub hl [0, 1] rfl)

set_option maxRecDepth 100000 in
set_option maxHeartbeats 4000000 in
theorem s_X10_byteAt_z (l : Launch) (G : sG) (S : sS) {o N z : Nat} {k : Int} (hI : cX G S z 0 0) (ht : txt o N) (hk : -2147483648 ≤ k ∧ k ≤ 2147483647) : Met l yX10_byteAt (.code yX10_byteAt cX10_byteAt 2 (some .int) :: tb) (rmk 1 0 0) (sPc G 294 S [.ref (G.2.2.1 + o), .int (iv k)]) (sQi G 294 (fun r u => u = S ∧ (r = bt S o k ∧ -1 ≤ r ∧ r ≤ 255 ∧ (0 ≤ k → k < S.1 o 1 → 0 ≤ r)))) 0 0 (sF G) := by
  refine sEnter (by decide) (Nat.le_of_ble_eq_true rfl) ?_
  intro p e s m args below meth c Cx hr hlk hnm hW ls hl
  have Cx : sC G p m c cX10_byteAt 2 s args RX10 := Cx
  obtain ⟨hx, hb, hml, hown, hts⟩ := id Cx.1
  have hL : sL G [] := sL_nil
  have hl : lv_has ls 2 [(0, .ref (G.2.2.1 + o)), (1, .int (iv k))] := hl
  have hW0 := hW
  have hN3 := ht.2.2.2.2.2
  refine lv_iload_n hx hb dX10_byteAt_0 rfl (lv_at hl 1 rfl) ?_
  refine r_if_lt (tgt := 12) hx hb ⟨(by omega), (by omega)⟩ dX10_byteAt_1 (by decide) (fun c_1 => ?_) (fun c_1 => ?_)
  · refine lv_iconst (v := iv (-1)) hx hb dX10_byteAt_12 (by decide) ?_
    refine lv_goto (tgt := 26) hx hb dX10_byteAt_13 (by decide) ?_
    exact sIret Cx hr hlk hW hL ⟨rfl, ⟨(bt_out (by omega)).symm, by omega, by omega, by omega⟩⟩ dX10_byteAt_26
  · refine lv_iload_n hx hb dX10_byteAt_4 rfl (lv_at hl 1 rfl) ?_
    refine lv_aload_n hx hb dX10_byteAt_5 rfl (lv_at hl 0 rfl) ?_
    have q_2 : 0 ≤ S.1 o 1 ∧ S.1 o 1 ≤ (N : Int) := txt_len ht hI
    refine g_X10_21 Cx hW (k := o) (Nat.lt_trans ht.1 (by decide)) ht.2.1 (v := S.1 o 1) rfl dX10_byteAt_6 ?_
    refine r_icmp_lt (tgt := 16) hx hb ⟨(by omega), (by omega)⟩ ⟨(by omega), (by omega)⟩ dX10_byteAt_9 (by decide) (fun c_3 => ?_) (fun c_3 => ?_)
    · refine lv_aload_n hx hb dX10_byteAt_16 rfl (lv_at hl 0 rfl) ?_
      refine g_X10_15 Cx hW (k := o) (Nat.lt_trans ht.1 (by decide)) ht.2.1 (v := .ref (G.2.2.1 + (o + 1))) (hI.rq.2.1 o ht.1 ht.2.1) dX10_byteAt_17 ?_
      refine lv_iload_n hx hb dX10_byteAt_20 rfl (lv_at hl 1 rfl) ?_
      refine rBald Cx hW (k := o + 1) (txt_l1 ht) ht.2.2.1 (by omega) (by omega) (by omega) dX10_byteAt_21 ?_
      have q_4 : (-128) ≤ S.2.1 (o + 1) k ∧ S.2.1 (o + 1) k ≤ 127 := txt_r ht hI k 
      refine r_i (b := S.2.1 (o + 1) k) rfl ?_
      refine lv_sipush (v := iv 255) hx hb dX10_byteAt_22 (by decide) ?_
      refine r_and255e hx hb ⟨(by omega), (by omega)⟩ dX10_byteAt_25 (fun z_5 hz_5 kz_5 ez_5 => ?_)
      exact sIret Cx hr hlk hW hL ⟨rfl, ⟨by rw [bt_in (by omega) (by omega)]; assumption, by omega, by omega, by omega⟩⟩ dX10_byteAt_26
    · refine lv_iconst (v := iv (-1)) hx hb dX10_byteAt_12 (by decide) ?_
      refine lv_goto (tgt := 26) hx hb dX10_byteAt_13 (by decide) ?_
      exact sIret Cx hr hlk hW hL ⟨rfl, ⟨(bt_out (by omega)).symm, by omega, by omega, by omega⟩⟩ dX10_byteAt_26
