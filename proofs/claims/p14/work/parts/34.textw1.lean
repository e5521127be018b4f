def tn (j : Int) : Int := if j ≤ 0 then 1 else if j = 1 then 10 else if j = 2 then 100 else if j = 3 then 1000 else if j = 4 then 10000 else if j = 5 then 100000 else if j = 6 then 1000000 else if j = 7 then 10000000 else if j = 8 then 100000000 else 1000000000
theorem tn_0 (j : Int) : 0 < tn j := by unfold tn; repeat' split <;> omega
theorem tn_9 {j l : Int} (h : l < tn j) (_ : j ≤ 9) : l ≤ 999999999 := by unfold tn at h; repeat' split at h <;> omega
theorem tn_st {j l : Int} (h : l < tn j) (h8 : j ≤ 8) : l ≤ 99999999 ∧ ∀ d : Int, 0 ≤ d → d ≤ 9 → 0 ≤ j → 10 * l + d < tn (j + 1) := by
  refine ⟨by unfold tn at h; repeat' split at h <;> omega, fun d d0 d1 j0 => ?_⟩
  rcases (by omega : j = 0 ∨ j = 1 ∨ j = 2 ∨ j = 3 ∨ j = 4 ∨ j = 5 ∨ j = 6 ∨ j = 7 ∨ j = 8) with q | q | q | q | q | q | q | q | q <;> subst q <;> simp [tn] at h ⊢ <;> omega
set_option maxRecDepth 100000 in
set_option maxHeartbeats 4000000 in
theorem s_X10_byteAt_z (l : Launch) (G : sG) (S : sS) {o N z : Nat} {k : Int} (hI : cX G S z 0 0) (ht : txt o N) (hk : -2147483648 ≤ k ∧ k ≤ 2147483647) : Met l yX10_byteAt (.code yX10_byteAt cX10_byteAt 2 (some .int) :: tb) (rmk 1 0 0) (sPc G 294 S [.ref (G.2.2.1 + o), .int (iv k)]) (sQi G 294 (fun r u => u = S ∧ (r = bt S o k ∧ -1 ≤ r ∧ r ≤ 255 ∧ (0 ≤ k → k < S.1 o 1 → 0 ≤ r)))) 0 0 (sF G) := by
  refine sEnter (by decide) (Nat.le_of_ble_eq_true rfl) ?_
  intro p e s m args below meth c Cx hr hlk hnm hW ls hl
  have Cx : sC G p m c cX10_byteAt 2 s args RX10 := Cx
  obtain ⟨hx, hb, hml, hown, hts⟩ := id Cx.1
  have hL : sL G [] := sL_nil
  have hl : lv_has ls 2 [(0, .ref (G.2.2.1 + o)), (1, .int (iv k))] := hl
  have hW0 := hW
  have hN3 := ht.2.2.2.2.2
  refine lv_iload_n hx hb dX10_byteAt_0 rfl (lv_at hl 1 rfl) ?_
  refine r_if_lt (tgt := 12) hx hb ⟨(by omega), (by omega)⟩ dX10_byteAt_1 (by decide) (fun c_1 => ?_) (fun c_1 => ?_)
  · refine lv_iconst (v := iv (-1)) hx hb dX10_byteAt_12 (by decide) ?_
    refine lv_goto (tgt := 26) hx hb dX10_byteAt_13 (by decide) ?_
    exact sIret Cx hr hlk hW hL ⟨rfl, ⟨(bt_out (by omega)).symm, by omega, by omega, by omega⟩⟩ dX10_byteAt_26
  · refine lv_iload_n hx hb dX10_byteAt_4 rfl (lv_at hl 1 rfl) ?_
    refine lv_aload_n hx hb dX10_byteAt_5 rfl (lv_at hl 0 rfl) ?_
    have q_2 : 0 ≤ S.1 o 1 ∧ S.1 o 1 ≤ (N : Int) := txt_len ht hI
    refine g_X10_21 Cx hW (k := o) (Nat.lt_trans ht.1 (by decide)) ht.2.1 (v := S.1 o 1) rfl dX10_byteAt_6 ?_
    refine r_icmp_lt (tgt := 16) hx hb ⟨(by omega), (by omega)⟩ ⟨(by omega), (by omega)⟩ dX10_byteAt_9 (by decide) (fun c_3 => ?_) (fun c_3 => ?_)
    · refine lv_aload_n hx hb dX10_byteAt_16 rfl (lv_at hl 0 rfl) ?_
      refine g_X10_15 Cx hW (k := o) (Nat.lt_trans ht.1 (by decide)) ht.2.1 (v := .ref (G.2.2.1 + (o + 1))) (hI.rq.2.1 o ht.1 ht.2.1) dX10_byteAt_17 ?_
      refine lv_iload_n hx hb dX10_byteAt_20 rfl (lv_at hl 1 rfl) ?_
      refine rBald Cx hW (k := o + 1) (txt_l1 ht) ht.2.2.1 (by omega) (by omega) (by omega) dX10_byteAt_21 ?_
      have q_4 : (-128) ≤ S.2.1 (o + 1) k ∧ S.2.1 (o + 1) k ≤ 127 := txt_r ht hI k 
      refine r_i (b := S.2.1 (o + 1) k) rfl ?_
      refine lv_sipush (v := iv 255) hx hb dX10_byteAt_22 (by decide) ?_
      refine r_and255e hx hb ⟨(by omega), (by omega)⟩ dX10_byteAt_25 (fun z_5 hz_5 kz_5 ez_5 => ?_)
      exact sIret Cx hr hlk hW hL ⟨rfl, ⟨by rw [bt_in (by omega) (by omega)]; assumption, by omega, by omega, by omega⟩⟩ dX10_byteAt_26
    · refine lv_iconst (v := iv (-1)) hx hb dX10_byteAt_12 (by decide) ?_
      refine lv_goto (tgt := 26) hx hb dX10_byteAt_13 (by decide) ?_
      exact sIret Cx hr hlk hW hL ⟨rfl, ⟨(bt_out (by omega)).symm, by omega, by omega, by omega⟩⟩ dX10_byteAt_26
