def tn (j : Int) : Int := if j ≤ 0 then 1 else if j = 1 then 10 else if j = 2 then 100 else if j = 3 then 1000 else if j = 4 then 10000 else if j = 5 then 100000 else if j = 6 then 1000000 else if j = 7 then 10000000 else if j = 8 then 100000000 else 1000000000
theorem tn_0 (j : Int) : 0 < tn j := by unfold tn; repeat' split <;> omega
theorem tn_9 {j l : Int} (h : l < tn j) (_ : j ≤ 9) : l ≤ 999999999 := by unfold tn at h; repeat' split at h <;> omega
theorem tn_st {j l : Int} (h : l < tn j) (h8 : j ≤ 8) : l ≤ 99999999 ∧ ∀ d : Int, 0 ≤ d → d ≤ 9 → 0 ≤ j → 10 * l + d < tn (j + 1) := by
  refine ⟨by unfold tn at h; repeat' split at h <;> omega, fun d d0 d1 j0 => ?_⟩
  rcases (by omega : j = 0 ∨ j = 1 ∨ j = 2 ∨ j = 3 ∨ j = 4 ∨ j = 5 ∨ j = 6 ∨ j = 7 ∨ j = 8) with q | q | q | q | q | q | q | q | q <;> subst q <;> simp [tn] at h ⊢ <;> omega
set_option maxRecDepth 100000 in
set_option maxHeartbeats 4000000 in
theorem s_X10_word (l : Launch) (G : sG) (S : sS) {o N si : Nat} (hI : cX G S 0 0 0) (ht : txt o N) (hsi : si < 38) : Met l yX10_word (.code yX10_word cX10_word 3 none :: tb) (rmk 5 0 0) (sPc G 294 S [.ref (G.2.2.1 + o), .ref (G.1.2 100 si)]) (sQv G 294 (fun u => cX G u 0 0 0 ∧ Fr S u (pB o))) 0 0 (sF G) := by
  refine sEnter (by decide) (Nat.le_of_ble_eq_true rfl) ?_
  intro p e s m args below meth c Cx hr hlk hnm hW ls hl
  have Cx : sC G p m c cX10_word 3 s args RX10 := Cx
  obtain ⟨hx, hb, hml, hown, hts⟩ := id Cx.1
  have hL : sL G [] := sL_nil
  have hl : lv_has ls 3 [(0, .ref (G.2.2.1 + o)), (1, .ref (G.1.2 100 si))] := hl
  have hW0 := hW
  have hN3 := ht.2.2.2.2.2
  have hnr := strN_r si hsi
  have join_13 : ∀ (S13 : sS)  (H : Heap) (locs : List Loc) (ls : Array Slot), (cX G S13 0 0 0) → (Fr S S13 (pB o)) → (Fr S S13 (pB o)) → sW G 294 S13 H → sL G locs → lv_has ls 3 [(0, .ref (G.2.2.1 + o)), (1, .ref (G.1.2 100 si))] → W p l e (rmk 5 0 0) s m args below meth c H locs 0 0 (MQ below (sQv G 294 (fun u => cX G u 0 0 0 ∧ Fr S u (pB o))) args s 0 0 (sF G)) (F0 m 13 ls []) := by
    intro S13  H locs ls hI13 hFm13 hL13_ hW hL hl
    refine lv_iconst (v := iv 0) hx hb dX10_word_13 (by decide) ?_
    refine lv_istore_n (lv' := [(2, .int (iv 0)), (0, .ref (G.2.2.1 + o)), (1, .ref (G.1.2 100 si))]) hx hb dX10_word_14 rfl hl (by decide) rfl (fun ls hl => ?_)
    have loop_15 : ∀ (fuel : Nat) (S15 : sS) (i : Int) (H : Heap) (locs : List Loc) (ls : Array Slot), (71 - i).toNat < fuel → (cX G S15 0 0 0) → (Fr S S15 (pB o)) → (Fr S S15 (pB o)) → (Fr S13 S15 (pB o)) → (0 ≤ i ∧ i ≤ 70) → sW G 294 S15 H → sL G locs → lv_has ls 3 [(2, .int (iv i)), (0, .ref (G.2.2.1 + o)), (1, .ref (G.1.2 100 si))] → W p l e (rmk 5 0 0) s m args below meth c H locs 0 0 (MQ below (sQv G 294 (fun u => cX G u 0 0 0 ∧ Fr S u (pB o))) args s 0 0 (sF G)) (F0 m 15 ls []) := by
      intro fuel
      induction fuel with
      | zero => intro S15 i H locs ls hmeas hI15 hFm15 hFL1315 hL15_ hi hW hL hl; exact absurd hmeas (Nat.not_lt_zero _)
      | succ fuel ih_15 =>
        intro S15 i H locs ls hmeas hI15 hFm15 hFL1315 hL15_ hi hW hL hl
        refine lv_iload_n hx hb dX10_word_15 rfl (lv_at hl 0 rfl) ?_
        refine lv_aload_n hx hb dX10_word_16 rfl (lv_at hl 2 rfl) ?_
        refine sBi (sVz (As := []) (rest := [.int (iv i)]) (a := G.1.2 100 si) Cx (s_J0_length_8abf5 l G S15 (si := si) hsi) (c_X10_33 Cx rfl rfl (rmk_ok (by omega) (by decide))) hW (zRecv Cx hW0 hW hsi) rfl hl.1 rfl (Nat.le_of_ble_eq_true rfl) dX10_word_17 ⟨Nat.le_of_ble_eq_true rfl, Nat.le_of_ble_eq_true rfl⟩) hL (fun r_3 u_1 H locs k_2 hW hL => ?_)
        obtain ⟨eu_1, xu_1⟩ := k_2
        rw [eu_1] at hW
        refine r_icmp_ge (tgt := 38) hx hb ⟨(by omega), (by omega)⟩ ⟨(by omega), (by omega)⟩ dX10_word_20 (by decide) (fun c_4 => ?_) (fun c_4 => ?_)
        · exact sVret Cx hr hlk hW hL ⟨hI15, hFm15⟩ dX10_word_38
        · refine lv_aload_n hx hb dX10_word_23 rfl (lv_at hl 1 rfl) ?_
          refine lv_aload_n hx hb dX10_word_24 rfl (lv_at hl 2 rfl) ?_
          refine lv_iload_n hx hb dX10_word_25 rfl (lv_at hl 0 rfl) ?_
          refine sBi (sVz (As := [.int (iv i)]) (rest := [.ref (G.2.2.1 + o)]) (a := G.1.2 100 si) Cx (s_J0_charAt_5068e l G S15 (si := si) (k := i) hsi (by omega)) (c_X10_38 Cx rfl rfl (rmk_ok (by omega) (by decide))) hW (zRecv Cx hW0 hW hsi) rfl hl.1 rfl (Nat.le_of_ble_eq_true rfl) dX10_word_26 ⟨Nat.le_of_ble_eq_true rfl, Nat.le_of_ble_eq_true rfl⟩) hL (fun r_7 u_5 H locs k_6 hW hL => ?_)
          obtain ⟨eu_5, xu_5⟩ := k_6
          rw [eu_5] at hW
          have q_8 : 0 ≤ S15.1 o 1 ∧ S15.1 o 1 ≤ (N : Int) := txt_len ht hI15
          refine sBv (sV (As := [.int (iv r_7)]) (rest := []) (k := o) Cx (s_X10_put l G S15 (o := o) (k := r_7) (N := N) hI15 ht (by omega)) (c_X10_29 Cx rfl rfl (rmk_ok (by omega) (by decide))) hW (Nat.lt_trans ht.1 (by decide)) ht.2.1 rfl rfl hl.1 rfl (Nat.le_of_ble_eq_true rfl) dX10_word_29 ⟨Nat.le_of_ble_eq_true rfl, Nat.le_of_ble_eq_true rfl⟩) hL (fun u_9 H locs k_10 hW hL => ?_)
          obtain ⟨iu_9, fu_9, xu_9⟩ := k_10
          have F_11 := hFm15.trans fu_9
          have F_12 := hFL1315.trans fu_9
          have F_13 := hL15_.trans fu_9
          refine lv_iinc (v := iv (i + 1)) (lv' := [(2, .int (iv (i + 1))), (0, .ref (G.2.2.1 + o)), (1, .ref (G.1.2 100 si))]) hx hb dX10_word_32 hl (k := 0) rfl ((Int32.ofInt_add _ _).symm) (by decide) rfl (fun ls hl => ?_)
          refine lv_goto (tgt := 15) hx hb dX10_word_35 (by decide) ?_
          exact ih_15 u_9 (i + 1) _ _ _ (by omega) iu_9 F_11 F_12 F_13 (by omega) hW hL (lv_sub hl [0, 1, 2] rfl)
    exact loop_15 (_ + 1) S13 0 _ _ _ (Nat.lt_succ_self _) hI13 hFm13 hL13_ Fr.rf (by omega) hW hL (lv_sub hl [0, 1, 2] rfl)
  refine lv_aload_n hx hb dX10_word_0 rfl (lv_at hl 0 rfl) ?_
  have q_14 : 0 ≤ S.1 o 1 ∧ S.1 o 1 ≤ (N : Int) := txt_len ht hI
  refine g_X10_21 Cx hW (k := o) (Nat.lt_trans ht.1 (by decide)) ht.2.1 (v := S.1 o 1) rfl dX10_word_1 ?_
  refine r_if_le (tgt := 13) hx hb ⟨(by omega), (by omega)⟩ dX10_word_4 (by decide) (fun c_15 => ?_) (fun c_15 => ?_)
  · exact join_13 S  _ _ _ hI (Fr.rf : Fr S S (pB o)) (Fr.rf : Fr S S (pB o)) hW hL (lv_sub hl [0, 1] rfl)
  · refine lv_aload_n hx hb dX10_word_7 rfl (lv_at hl 0 rfl) ?_
    refine lv_bipush (v := iv 32) hx hb dX10_word_8 (by decide) ?_
    refine sBv (sV (As := [.int (iv 32)]) (rest := []) (k := o) Cx (s_X10_put l G S (o := o) (k := 32) (N := N) hI ht (by omega)) (c_X10_29 Cx rfl rfl (rmk_ok (by omega) (by decide))) hW (Nat.lt_trans ht.1 (by decide)) ht.2.1 rfl rfl hl.1 rfl (Nat.le_of_ble_eq_true rfl) dX10_word_10 ⟨Nat.le_of_ble_eq_true rfl, Nat.le_of_ble_eq_true rfl⟩) hL (fun u_16 H locs k_17 hW hL => ?_)
    obtain ⟨iu_16, fu_16, xu_16⟩ := k_17
    have F_18 := (Fr.rf : Fr S S (pB o)).trans fu_16
    have F_19 := (Fr.rf : Fr S S (pB o)).trans fu_16
    exact join_13 u_16  _ _ _ iu_16 F_18 F_19 hW hL (lv_sub hl [0, 1] rfl)

set_option maxRecDepth 100000 in
set_option maxHeartbeats 4000000 in
theorem s_X10_byteAt_z (l : Launch) (G : sG) (S : sS) {o N z : Nat} {k : Int} (hI : cX G S z 0 0) (ht : txt o N) (hk : -2147483648 ≤ k ∧ k ≤ 2147483647) : Met l yX10_byteAt (.code yX10_byteAt cX10_byteAt 2 (some .int) :: tb) (rmk 1 0 0) (sPc G 294 S [.ref (G.2.2.1 + o), .int (iv k)]) (sQi G 294 (fun r u => u = S ∧ (r = bt S o k ∧ -1 ≤ r ∧ r ≤ 255 ∧ (0 ≤ k → k < S.1 o 1 → 0 ≤ r)))) 0 0 (sF G) := by
  refine sEnter (by decide) (Nat.le_of_ble_eq_true rfl) ?_
  intro p e s m args below meth c Cx hr hlk hnm hW ls hl
  have Cx : sC G p m c cX10_byteAt 2 s args RX10 := Cx
  obtain ⟨hx, hb, hml, hown, hts⟩ := id Cx.1
  have hL : sL G [] := sL_nil
  have hl : lv_has ls 2 [(0, .ref (G.2.2.1 + o)), (1, .int (iv k))] := hl
  have hW0 := hW
  have hN3 := ht.2.2.2.2.2
  refine lv_iload_n hx hb dX10_byteAt_0 rfl (lv_at hl 1 rfl) ?_
  refine r_if_lt (tgt := 12) hx hb ⟨(by omega), (by omega)⟩ dX10_byteAt_1 (by decide) (fun c_1 => ?_) (fun c_1 => ?_)
  · refine lv_iconst (v := iv (-1)) hx hb dX10_byteAt_12 (by decide) ?_
    refine lv_goto (tgt := 26) hx hb dX10_byteAt_13 (by decide) ?_
    exact sIret Cx hr hlk hW hL ⟨rfl, ⟨(bt_out (by omega)).symm, by omega, by omega, by omega⟩⟩ dX10_byteAt_26
  · refine lv_iload_n hx hb dX10_byteAt_4 rfl (lv_at hl 1 rfl) ?_
    refine lv_aload_n hx hb dX10_byteAt_5 rfl (lv_at hl 0 rfl) ?_
    have q_2 : 0 ≤ S.1 o 1 ∧ S.1 o 1 ≤ (N : Int) := txt_len ht hI
    refine g_X10_21 Cx hW (k := o) (Nat.lt_trans ht.1 (by decide)) ht.2.1 (v := S.1 o 1) rfl dX10_byteAt_6 ?_
    refine r_icmp_lt (tgt := 16) hx hb ⟨(by omega), (by omega)⟩ ⟨(by omega), (by omega)⟩ dX10_byteAt_9 (by decide) (fun c_3 => ?_) (fun c_3 => ?_)
    · refine lv_aload_n hx hb dX10_byteAt_16 rfl (lv_at hl 0 rfl) ?_
      refine g_X10_15 Cx hW (k := o) (Nat.lt_trans ht.1 (by decide)) ht.2.1 (v := .ref (G.2.2.1 + (o + 1))) (hI.rq.2.1 o ht.1 ht.2.1) dX10_byteAt_17 ?_
      refine lv_iload_n hx hb dX10_byteAt_20 rfl (lv_at hl 1 rfl) ?_
      refine rBald Cx hW (k := o + 1) (txt_l1 ht) ht.2.2.1 (by omega) (by omega) (by omega) dX10_byteAt_21 ?_
      have q_4 : (-128) ≤ S.2.1 (o + 1) k ∧ S.2.1 (o + 1) k ≤ 127 := txt_r ht hI k 
      refine r_i (b := S.2.1 (o + 1) k) rfl ?_
      refine lv_sipush (v := iv 255) hx hb dX10_byteAt_22 (by decide) ?_
      refine r_and255e hx hb ⟨(by omega), (by omega)⟩ dX10_byteAt_25 (fun z_5 hz_5 kz_5 ez_5 => ?_)
      exact sIret Cx hr hlk hW hL ⟨rfl, ⟨by rw [bt_in (by omega) (by omega)]; assumption, by omega, by omega, by omega⟩⟩ dX10_byteAt_26
    · refine lv_iconst (v := iv (-1)) hx hb dX10_byteAt_12 (by decide) ?_
      refine lv_goto (tgt := 26) hx hb dX10_byteAt_13 (by decide) ?_
      exact sIret Cx hr hlk hW hL ⟨rfl, ⟨(bt_out (by omega)).symm, by omega, by omega, by omega⟩⟩ dX10_byteAt_26

set_option maxRecDepth 100000 in
set_option maxHeartbeats 4000000 in
theorem s_X0_read (l : Launch) (G : sG) (S : sS) {o t N : Nat} {f b : Int} (hI : cX G S 0 0 0) (ho : tau o = .inl 0) (ht : txt t N) (hfb : 0 ≤ f ∧ f ≤ b ∧ b ≤ 1000000000) (hdg : ∀ k, f ≤ k → k < b → 48 ≤ bt S t k ∧ bt S t k ≤ 57) : Met l yX0_read (.code yX0_read cX0_read 8 none :: tb) (rmk 2 0 0) (sPc G 294 S [.ref (G.2.2.1 + o), .ref (G.2.2.1 + t), .int (iv f), .int (iv b)]) (sQv G 294 (fun u => cX G u 0 0 0 ∧ Fr S u (pB o) ∧ (9 * u.1 o 1 ≤ b - f + 8 ∧ 0 ≤ u.1 o 2))) 0 0 (sF G) := by
  refine sEnter (by decide) (Nat.le_of_ble_eq_true rfl) ?_
  intro p e s m args below meth c Cx hr hlk hnm hW ls hl
  have Cx : sC G p m c cX0_read 8 s args RX0 := Cx
  obtain ⟨hx, hb, hml, hown, hts⟩ := id Cx.1
  have hL : sL G [] := sL_nil
  have hl : lv_has ls 8 [(0, .ref (G.2.2.1 + o)), (1, .ref (G.2.2.1 + t)), (2, .int (iv f)), (3, .int (iv b))] := hl
  have hW0 := hW
  have hN3 := ht.2.2.2.2.2
  have j_1 := hI.exB o
  refine lv_aload_n hx hb dX0_read_0 rfl (lv_at hl 0 rfl) ?_
  refine lv_iload_n hx hb dX0_read_1 rfl (lv_at hl 3 rfl) ?_
  refine lv_iload_n hx hb dX0_read_2 rfl (lv_at hl 2 rfl) ?_
  refine r_isub hx hb dX0_read_3 ?_
  refine lv_bipush (v := iv 8) hx hb dX0_read_4 (by decide) ?_
  refine r_iadd hx hb dX0_read_6 ?_
  refine lv_bipush (v := iv 9) hx hb dX0_read_7 (by decide) ?_
  refine r_idiv hx hb ⟨(by omega), (by omega)⟩ ⟨(by omega), (by omega)⟩ (by omega) dX0_read_9 ?_
  obtain ⟨z_2, ez_2⟩ : ∃ z : Int, z = ((b - f) + 8).tdiv 9 := ⟨_, rfl⟩
  have hz_2 := tdivL (a := (b - f) + 8) (b := 9) (by omega)
  rw [← ez_2] at hz_2
  refine r_i (b := z_2) ez_2.symm ?_
  clear ez_2
  refine lv_bipush (v := iv 32) hx hb dX0_read_10 (by decide) ?_
  refine r_min hx hb (hml.trans hl.1.symm) hown (hts _ w_1158) (hts _ w_777) (hts _ w_206) (hts _ w_778) (rmk_f (by omega)) (rmk_l (by omega) (Nat.le_of_ble_eq_true rfl)) (Nat.le_of_ble_eq_true rfl) (Nat.le_of_ble_eq_true rfl) ⟨(by omega), (by omega)⟩ ⟨(by omega), (by omega)⟩ dX0_read_12 (fun z_3 hz_3 => ?_)
  refine p_X0_24 Cx hW hL (k := o) (big_l ho) ho dX0_read_15 (fun H locs hW hL => ?_)
  have F_4 : Fr S (uF S o 1 z_3) (pB o) := (Fr.rf : Fr S S (pB o)).F pB_0
  have i_5 : cX G (uF S o 1 z_3) o 0 0 := j_1.cnt (exq_s ho) ho ⟨by omega, by omega⟩
  refine lv_iconst (v := iv 0) hx hb dX0_read_18 (by decide) ?_
  refine lv_istore (lv' := [(4, .int (iv 0)), (0, .ref (G.2.2.1 + o)), (1, .ref (G.2.2.1 + t)), (2, .int (iv f)), (3, .int (iv b))]) hx hb dX0_read_19 hl (by decide) rfl (fun ls hl => ?_)
  have loop_21 : ∀ (fuel : Nat) (S21 : sS) (i : Int) (H : Heap) (locs : List Loc) (ls : Array Slot), (33 - i).toNat < fuel → (cX G S21 o 0 0) → (Fr S S21 (pB o)) → (Fr ((uF S o 1 z_3)) S21 (pB o)) → (0 ≤ i ∧ i ≤ 32) → (9 * S21.1 o 1 ≤ b - f + 8) → sW G 294 S21 H → sL G locs → lv_has ls 8 [(4, .int (iv i)), (0, .ref (G.2.2.1 + o)), (1, .ref (G.2.2.1 + t)), (2, .int (iv f)), (3, .int (iv b))] → W p l e (rmk 2 0 0) s m args below meth c H locs 0 0 (MQ below (sQv G 294 (fun u => cX G u 0 0 0 ∧ Fr S u (pB o) ∧ (9 * u.1 o 1 ≤ b - f + 8 ∧ 0 ≤ u.1 o 2))) args s 0 0 (sF G)) (F0 m 21 ls []) := by
    intro fuel
    induction fuel with
    | zero => intro S21 i H locs ls hmeas hI21 hFm21 hL21_ hi hc hW hL hl; exact absurd hmeas (Nat.not_lt_zero _)
    | succ fuel ih_21 =>
      intro S21 i H locs ls hmeas hI21 hFm21 hL21_ hi hc hW hL hl
      refine lv_iload hx hb dX0_read_21 (lv_at hl 0 rfl) ?_
      refine lv_aload_n hx hb dX0_read_23 rfl (lv_at hl 1 rfl) ?_
      have q_6 : 0 ≤ S21.1 o 1 ∧ S21.1 o 1 ≤ 32 := hI21.fi o 1 0 (big_lt ho) ho
      refine g_X0_24 Cx hW (k := o) (big_l ho) ho (v := S21.1 o 1) rfl dX0_read_24 ?_
      refine r_icmp_ge (tgt := 98) hx hb ⟨(by omega), (by omega)⟩ ⟨(by omega), (by omega)⟩ dX0_read_27 (by decide) (fun c_7 => ?_) (fun c_7 => ?_)
      · refine lv_aload_n hx hb dX0_read_98 rfl (lv_at hl 1 rfl) ?_
        refine lv_iconst (v := iv 1) hx hb dX0_read_99 (by decide) ?_
        refine p_X0_34 Cx hW hL (k := o) (big_l ho) ho dX0_read_100 (fun H locs hW hL => ?_)
        have F_8 : Fr S (uF S21 o 2 1) (pB o) := hFm21.F pB_0
        have F_9 : Fr ((uF S o 1 z_3)) (uF S21 o 2 1) (pB o) := hL21_.F pB_0
        have i_10 : cX G (uF S21 o 2 1) o 0 0 := hI21.F ho rfl (show (-1) ≤ 1 ∧ 1 ≤ 1 from ⟨by omega, by omega⟩)
        refine lv_aload_n hx hb dX0_read_103 rfl (lv_at hl 1 rfl) ?_
        have lk_11 : (uF S21 o 2 1).1 o 1 = S21.1 o 1 := uF_ne (fun h => absurd h.2 (by decide))
        have lk_12 : (uF S21 o 2 1).1 o 2 = 1 := uF_on
        refine sBv (sV (As := []) (rest := []) (k := o) Cx (s_X0_trim l G (uF S21 o 2 1) (o := o) i_10 ho) (c_X0_59 Cx rfl rfl (rmk_ok (by omega) (by decide))) hW (big_l ho) ho rfl rfl hl.1 rfl (Nat.le_of_ble_eq_true rfl) dX0_read_104 ⟨Nat.le_of_ble_eq_true rfl, Nat.le_of_ble_eq_true rfl⟩) hL (fun u_13 H locs k_14 hW hL => ?_)
        obtain ⟨iu_13, fu_13, xu_13⟩ := k_14
        have F_15 := F_8.trans fu_13
        have F_16 := F_9.trans fu_13
        have q_17 : 0 ≤ u_13.1 o 1 ∧ u_13.1 o 1 ≤ 32 := iu_13.fi o 1 0 (big_lt ho) ho
        have q_18 : (-1) ≤ u_13.1 o 2 ∧ u_13.1 o 2 ≤ 1 := iu_13.fi o 2 0 (big_lt ho) ho
        exact sVret Cx hr hlk hW hL ⟨iu_13, F_15, (by omega)⟩ dX0_read_107
      · refine lv_iconst (v := iv 0) hx hb dX0_read_30 (by decide) ?_
        refine lv_istore (lv' := [(5, .int (iv 0)), (4, .int (iv i)), (0, .ref (G.2.2.1 + o)), (1, .ref (G.2.2.1 + t)), (2, .int (iv f)), (3, .int (iv b))]) hx hb dX0_read_31 hl (by decide) rfl (fun ls hl => ?_)
        refine lv_iload_n hx hb dX0_read_33 rfl (lv_at hl 5 rfl) ?_
        refine lv_bipush (v := iv 9) hx hb dX0_read_34 (by decide) ?_
        refine lv_iload hx hb dX0_read_36 (lv_at hl 1 rfl) ?_
        refine r_imul hx hb dX0_read_38 ?_
        refine r_isub hx hb dX0_read_39 ?_
        refine lv_istore (lv' := [(6, .int (iv (b - (9 * i)))), (5, .int (iv 0)), (4, .int (iv i)), (0, .ref (G.2.2.1 + o)), (1, .ref (G.2.2.1 + t)), (2, .int (iv f)), (3, .int (iv b))]) hx hb dX0_read_40 hl (by decide) rfl (fun ls hl => ?_)
        refine lv_iload_n hx hb dX0_read_42 rfl (lv_at hl 5 rfl) ?_
        refine lv_iload hx hb dX0_read_43 (lv_at hl 0 rfl) ?_
        refine lv_bipush (v := iv 9) hx hb dX0_read_45 (by decide) ?_
        refine r_isub hx hb dX0_read_47 ?_
        refine r_max hx hb (hml.trans hl.1.symm) hown (hts _ w_1292) (hts _ w_242) (hts _ w_206) (hts _ w_243) (rmk_f (by omega)) (rmk_l (by omega) (Nat.le_of_ble_eq_true rfl)) (Nat.le_of_ble_eq_true rfl) (Nat.le_of_ble_eq_true rfl) ⟨(by omega), (by omega)⟩ ⟨(by omega), (by omega)⟩ dX0_read_48 (fun z_19 hz_19 => ?_)
        refine lv_istore (lv' := [(7, .int (iv z_19)), (6, .int (iv (b - (9 * i)))), (5, .int (iv 0)), (4, .int (iv i)), (0, .ref (G.2.2.1 + o)), (1, .ref (G.2.2.1 + t)), (2, .int (iv f)), (3, .int (iv b))]) hx hb dX0_read_51 hl (by decide) rfl (fun ls hl => ?_)
        have loop_53 : ∀ (fuel : Nat) (S53 : sS) (k : Int) (lm : Int) (H : Heap) (locs : List Loc) (ls : Array Slot), (b - 9 * i - k).toNat < fuel → (cX G S53 o 0 0) → (Fr S S53 (pB o)) → (Fr ((uF S o 1 z_3)) S53 (pB o)) → (Fr S21 S53 (pB o)) → (f ≤ k ∧ b - 9 * i - 9 ≤ k ∧ k ≤ b - 9 * i) → (0 ≤ lm ∧ lm < tn (k - (b - 9 * i - 9))) → (9 * S53.1 o 1 ≤ b - f + 8) → sW G 294 S53 H → sL G locs → lv_has ls 8 [(7, .int (iv k)), (6, .int (iv (b - (9 * i)))), (5, .int (iv lm)), (4, .int (iv i)), (0, .ref (G.2.2.1 + o)), (1, .ref (G.2.2.1 + t)), (2, .int (iv f)), (3, .int (iv b))] → W p l e (rmk 2 0 0) s m args below meth c H locs 0 0 (MQ below (sQv G 294 (fun u => cX G u 0 0 0 ∧ Fr S u (pB o) ∧ (9 * u.1 o 1 ≤ b - f + 8 ∧ 0 ≤ u.1 o 2))) args s 0 0 (sF G)) (F0 m 53 ls []) := by
          intro fuel
          induction fuel with
          | zero => intro S53 k lm H locs ls hmeas hI53 hFm53 hFL2153 hL53_ hk hm hc2 hW hL hl; exact absurd hmeas (Nat.not_lt_zero _)
          | succ fuel ih_53 =>
            intro S53 k lm H locs ls hmeas hI53 hFm53 hFL2153 hL53_ hk hm hc2 hW hL hl
            refine lv_iload hx hb dX0_read_53 (lv_at hl 0 rfl) ?_
            refine lv_iload hx hb dX0_read_55 (lv_at hl 1 rfl) ?_
            refine r_icmp_ge (tgt := 83) hx hb ⟨(by omega), (by omega)⟩ ⟨(by omega), (by omega)⟩ dX0_read_57 (by decide) (fun c_20 => ?_) (fun c_20 => ?_)
            · have hlm := tn_9 hm.2 (by omega)
              refine lv_aload_n hx hb dX0_read_83 rfl (lv_at hl 4 rfl) ?_
              refine g_X0_9 Cx hW (k := o) (big_l ho) ho (v := .ref (G.2.2.1 + (o + 1))) (hI53.rq.1 o ho) dX0_read_84 ?_
              refine lv_iload hx hb dX0_read_87 (lv_at hl 3 rfl) ?_
              refine lv_iload hx hb dX0_read_89 (lv_at hl 2 rfl) ?_
              refine rIast Cx hW hL (k := o + 1) (big_l1 ho) (big_row ho).1 (by decide) (by omega) (by omega) dX0_read_91 (fun H locs hW hL => ?_)
              have F_21 : Fr S (uA S53 (o + 1) i lm) (pB o) := hFm53.A pB_1
              have F_22 : Fr ((uF S o 1 z_3)) (uA S53 (o + 1) i lm) (pB o) := hFL2153.A pB_1
              have F_23 : Fr S21 (uA S53 (o + 1) i lm) (pB o) := hL53_.A pB_1
              have i_24 : cX G (uA S53 (o + 1) i lm) o 0 0 := hI53.limb (Or.inl (exq_s ho)) ho ⟨(by omega), (by omega)⟩
              refine lv_iinc (v := iv (i + 1)) (lv' := [(4, .int (iv (i + 1))), (7, .int (iv k)), (6, .int (iv (b - (9 * i)))), (5, .int (iv lm)), (0, .ref (G.2.2.1 + o)), (1, .ref (G.2.2.1 + t)), (2, .int (iv f)), (3, .int (iv b))]) hx hb dX0_read_92 hl (k := 3) rfl ((Int32.ofInt_add _ _).symm) (by decide) rfl (fun ls hl => ?_)
              refine lv_goto (tgt := 21) hx hb dX0_read_95 (by decide) ?_
              have q_25 : 0 ≤ S53.1 o 1 ∧ S53.1 o 1 ≤ 32 := hI53.fi o 1 0 (big_lt ho) ho
              have lk_26 : (uA S53 (o + 1) i lm).1 o 1 = S53.1 o 1 := uA_f
              exact ih_21 (uA S53 (o + 1) i lm) (i + 1) _ _ _ (by omega) i_24 F_21 F_22 (by omega) (by omega) hW hL (lv_sub hl [0, 4, 5, 6, 7] rfl)
            · have hst := tn_st hm.2 (by omega)
              refine lv_bipush (v := iv 10) hx hb dX0_read_60 (by decide) ?_
              refine lv_iload hx hb dX0_read_62 (lv_at hl 2 rfl) ?_
              refine r_imul hx hb dX0_read_64 ?_
              refine lv_aload_n hx hb dX0_read_65 rfl (lv_at hl 5 rfl) ?_
              refine lv_iload hx hb dX0_read_66 (lv_at hl 0 rfl) ?_
              have q_27 : 0 ≤ S.1 t 1 ∧ S.1 t 1 ≤ (N : Int) := txt_len ht j_1
              have lk_28 : S53.1 t 1 = S.1 t 1 := ((hL53_ t (pB_no (tau_ne ht.2.1 ho (fun h => by cases h)) (tau_ne ht.2.1 (big_row ho).1 (fun h => by cases h)))).1 1).trans (((hL21_ t (pB_no (tau_ne ht.2.1 ho (fun h => by cases h)) (tau_ne ht.2.1 (big_row ho).1 (fun h => by cases h)))).1 1).trans (uF_ne (fun h => absurd h.1 (tau_ne ht.2.1 ho (fun h => by cases h)))))
              refine sBi (sV (As := [.int (iv k)]) (rest := [.int (iv (10 * lm))]) (k := t) Cx (s_X10_byteAt_z l G S53 (o := t) (k := k) (N := N) (z := o) hI53 ht (by omega)) (c_X0_54 Cx rfl rfl (rmk_ok (by omega) (by decide))) hW (Nat.lt_trans ht.1 (by decide)) ht.2.1 rfl rfl hl.1 rfl (Nat.le_of_ble_eq_true rfl) dX0_read_68 ⟨Nat.le_of_ble_eq_true rfl, Nat.le_of_ble_eq_true rfl⟩) hL (fun r_31 u_29 H locs k_30 hW hL => ?_)
              obtain ⟨eu_29, xu_29⟩ := k_30
              rw [eu_29] at hW
              have du_29 := hdg _ (by omega : f ≤ k) (by omega : k < b)
              rw [← bt_fr (o := t) (k := k) hFm53 (pB_no (tau_ne ht.2.1 ho (fun h => by cases h)) (tau_ne ht.2.1 (big_row ho).1 (fun h => by cases h))) (pB_no (tau_ne ht.2.2.1 ho (fun h => by cases h)) (tau_ne ht.2.2.1 (big_row ho).1 (fun h => by cases h)))] at du_29
              refine r_iadd hx hb dX0_read_71 ?_
              refine lv_bipush (v := iv 48) hx hb dX0_read_72 (by decide) ?_
              refine r_isub hx hb dX0_read_74 ?_
              refine lv_istore (lv' := [(5, .int (iv (((10 * lm) + r_31) - 48))), (7, .int (iv k)), (6, .int (iv (b - (9 * i)))), (4, .int (iv i)), (0, .ref (G.2.2.1 + o)), (1, .ref (G.2.2.1 + t)), (2, .int (iv f)), (3, .int (iv b))]) hx hb dX0_read_75 hl (by decide) rfl (fun ls hl => ?_)
              have hsu := hst.2 (r_31 - 48) (by omega) (by omega) (by omega)
              rw [show k - (b - 9 * i - 9) + 1 = k + 1 - (b - 9 * i - 9) by omega] at hsu
              refine lv_iinc (v := iv (k + 1)) (lv' := [(7, .int (iv (k + 1))), (5, .int (iv (((10 * lm) + r_31) - 48))), (6, .int (iv (b - (9 * i)))), (4, .int (iv i)), (0, .ref (G.2.2.1 + o)), (1, .ref (G.2.2.1 + t)), (2, .int (iv f)), (3, .int (iv b))]) hx hb dX0_read_77 hl (k := 1) rfl ((Int32.ofInt_add _ _).symm) (by decide) rfl (fun ls hl => ?_)
              refine lv_goto (tgt := 53) hx hb dX0_read_80 (by decide) ?_
              have q_32 : 0 ≤ S53.1 o 1 ∧ S53.1 o 1 ≤ 32 := hI53.fi o 1 0 (big_lt ho) ho
              exact ih_53 S53 (k + 1) (((10 * lm) + r_31) - 48) _ _ _ (by omega) hI53 hFm53 hFL2153 hL53_ (by omega) (by omega) (by omega) hW hL (lv_sub hl [0, 2, 1, 3, 4, 5, 6, 7] rfl)
        exact loop_53 (_ + 1) S21 z_19 0 _ _ _ (Nat.lt_succ_self _) hI21 hFm21 hL21_ Fr.rf (by omega) ⟨(by omega), tn_0 _⟩ (by omega) hW hL (lv_sub hl [0, 1, 2, 3, 4, 5, 6, 7] rfl)
  have lk_33 : (uF S o 1 z_3).1 o 1 = z_3 := uF_on
  exact loop_21 (_ + 1) (uF S o 1 z_3) 0 _ _ _ (Nat.lt_succ_self _) i_5 F_4 Fr.rf (by omega) (by omega) hW hL (lv_sub hl [0, 1, 2, 3, 4] rfl)
