theorem rfL_no0 : ∀ q ∈ rfL, ¬ (q.1 = 0 ∧ q.2.1 = 5) ∧ ¬ (q.1 = 0 ∧ q.2.1 = 6) := by decide
theorem tau0 : tau 0 = .inl 11 := rfl
theorem cX.swapM {G : sG} {S : sS} {x y : Nat} {b : Int} {oc od : Nat} (h : cX G S x y b) (h0 : S.2.2.2 0 5 = .ref (G.2.2.1 + oc)) (h1 : S.2.2.2 0 6 = .ref (G.2.2.1 + od)) : cX G (uR (uR S 0 5 (.ref (G.2.2.1 + od))) 0 6 (.ref (G.2.2.1 + oc))) x y b := by
  have e0 : (uR (uR S 0 5 (.ref (G.2.2.1 + od))) 0 6 (.ref (G.2.2.1 + oc))).2.2.2 0 5 = .ref (G.2.2.1 + od) := (uR_ne (by decide)).trans uR_on
  have e1 : (uR (uR S 0 5 (.ref (G.2.2.1 + od))) 0 6 (.ref (G.2.2.1 + oc))).2.2.2 0 6 = .ref (G.2.2.1 + oc) := uR_on
  have en : ∀ k i, ¬ (k = 0 ∧ i = 5) → ¬ (k = 0 ∧ i = 6) → (uR (uR S 0 5 (.ref (G.2.2.1 + od))) 0 6 (.ref (G.2.2.1 + oc))).2.2.2 k i = S.2.2.2 k i := fun k i q1 q2 => (uR_ne q2).trans (uR_ne q1)
  have eo : ∀ k i, k ≠ 0 → (uR (uR S 0 5 (.ref (G.2.2.1 + od))) 0 6 (.ref (G.2.2.1 + oc))).2.2.2 k i = S.2.2.2 k i := fun k i q => en k i (fun z => q z.1) (fun z => q z.1)
  obtain ⟨m1, ⟨m2, m3, m4⟩, ⟨m5, m6, m7⟩, ⟨m8, m9, m10⟩, m11, m12⟩ := h.rm
  have nt : ∀ {o ci : Nat}, tau o = .inl ci → ci ≠ 11 → o ≠ 0 := fun ht hc e => by rw [e, tau0] at ht; cases ht; exact hc rfl
  refine ⟨h.1, ⟨fun q hq => by rw [en _ _ (rfL_no0 q hq).1 (rfL_no0 q hq).2]; exact h.ri q hq, ⟨fun o ho => by rw [eo _ _ (nt ho (by decide))]; exact h.rq.1 o ho, fun o hl ho => by rw [eo _ _ (nt ho (by decide))]; exact h.rq.2.1 o hl ho, fun o hl ho => by rw [eo _ _ (nt ho (by decide)), eo _ _ (nt ho (by decide))]; exact h.rq.2.2 o hl ho⟩, fun i hi => by rw [eo _ _ (by decide), eo _ _ (by decide), eo _ _ (by decide)]; exact h.r2 i hi, ?_⟩, h.nb, h.ns, h.ub, h.ko⟩
  refine ⟨?_, ⟨m2, m3, by rw [eo _ _ (by decide)]; exact m4⟩, ⟨m5, m6, by rw [eo _ _ (by decide)]; exact m7⟩, ⟨m8, m9, by rw [eo _ _ (by decide)]; exact m10⟩, by rw [eo _ _ (by decide), eo _ _ (by decide)]; exact m11, by rw [eo _ _ (by decide)]; exact m12⟩
  rw [e0, e1]
  rcases m1 with q | q
  · right; rw [h0] at q; rw [h1] at q; exact ⟨q.2, q.1⟩
  · left; rw [h0] at q; rw [h1] at q; exact ⟨q.2, q.1⟩
set_option maxRecDepth 100000 in
set_option maxHeartbeats 4000000 in
theorem s_X11_fault (l : Launch) (G : sG) (S : sS) {k : Int} (hI : cX G S 0 0 0) (hk : -2147483648 ≤ k ∧ k ≤ 2147483647) : Met l yX11_fault (.code yX11_fault cX11_fault 2 (some .int) :: tb) (rmk 1 0 0) (sPc G 294 S [.ref (G.2.2.1 + 0), .int (iv k)]) (sQi G 294 (fun r u => u = S ∧ (-2147483648 ≤ r ∧ r ≤ 2147483647))) 0 0 (sF G) := by
  refine sEnter (by decide) (Nat.le_of_ble_eq_true rfl) ?_
  intro p e s m args below meth c Cx hr hlk hnm hW ls hl
  have Cx : sC G p m c cX11_fault 2 s args RX11 := Cx
  obtain ⟨hx, hb, hml, hown, hts⟩ := id Cx.1
  have hL : sL G [] := sL_nil
  have hl : lv_has ls 2 [(0, .ref (G.2.2.1 + 0)), (1, .int (iv k))] := hl
  have hW0 := hW
  refine lv_iload_n hx hb dX11_fault_0 rfl (lv_at hl 1 rfl) ?_
  by_cases c_1 : k = 0
  · refine lv_lookup (off := 27) (tgt := 28) hx hb dX11_fault_1 (by decide) (by rw [c_1]; decide) (by decide) ?_
    refine lv_aload_n hx hb dX11_fault_28 rfl (lv_at hl 0 rfl) ?_
    have q_2 : (-2147483648) ≤ S.1 0 9 ∧ S.1 0 9 ≤ 2147483647 := hI.fi 0 9 11 (by decide) rfl
    refine g_X11_71 Cx hW (k := 0) (by decide) rfl (v := S.1 0 9) rfl dX11_fault_29 ?_
    exact sIret Cx hr hlk hW hL ⟨rfl, (by omega)⟩ dX11_fault_32
  by_cases c_3 : k = 1
  · refine lv_lookup (off := 32) (tgt := 33) hx hb dX11_fault_1 (by decide) (by rw [c_3]; decide) (by decide) ?_
    refine lv_aload_n hx hb dX11_fault_33 rfl (lv_at hl 0 rfl) ?_
    have q_4 : (-2147483648) ≤ S.1 0 10 ∧ S.1 0 10 ≤ 2147483647 := hI.fi 0 10 11 (by decide) rfl
    refine g_X11_52 Cx hW (k := 0) (by decide) rfl (v := S.1 0 10) rfl dX11_fault_34 ?_
    exact sIret Cx hr hlk hW hL ⟨rfl, (by omega)⟩ dX11_fault_37
  refine lv_lookup (off := 37) (tgt := 38) hx hb dX11_fault_1 (by decide) (by rw [iv_toInt ⟨(by omega), (by omega)⟩]; exact lk_out (by simp [List.forall_mem_cons]; omega)) (by decide) ?_
  refine lv_iconst (v := iv (-1)) hx hb dX11_fault_38 (by decide) ?_
  exact sIret Cx hr hlk hW hL ⟨rfl, (by omega)⟩ dX11_fault_39

set_option maxRecDepth 100000 in
set_option maxHeartbeats 4000000 in
theorem s_X11_look (l : Launch) (G : sG) (S : sS) {k : Int} (hI : cX G S 0 0 0) (hk : -2147483648 ≤ k ∧ k ≤ 2147483647) : Met l yX11_look (.code yX11_look cX11_look 2 (some .int) :: tb) (rmk 4 0 0) (sPc G 294 S [.ref (G.2.2.1 + 0), .int (iv k)]) (sQi G 294 (fun r u => u = S ∧ (-2147483648 ≤ r ∧ r ≤ 2147483647))) 0 0 (sF G) := by
  refine sEnter (by decide) (Nat.le_of_ble_eq_true rfl) ?_
  intro p e s m args below meth c Cx hr hlk hnm hW ls hl
  have Cx : sC G p m c cX11_look 2 s args RX11 := Cx
  obtain ⟨hx, hb, hml, hown, hts⟩ := id Cx.1
  have hL : sL G [] := sL_nil
  have hl : lv_has ls 2 [(0, .ref (G.2.2.1 + 0)), (1, .int (iv k))] := hl
  have hW0 := hW
  refine lv_iload_n hx hb dX11_look_0 rfl (lv_at hl 1 rfl) ?_
  refine r_if_lt (tgt := 10) hx hb ⟨(by omega), (by omega)⟩ dX11_look_1 (by decide) (fun c_1 => ?_) (fun c_1 => ?_)
  · refine lv_iconst (v := iv (-1)) hx hb dX11_look_10 (by decide) ?_
    exact sIret Cx hr hlk hW hL ⟨rfl, (by omega)⟩ dX11_look_11
  · refine lv_iload_n hx hb dX11_look_4 rfl (lv_at hl 1 rfl) ?_
    refine lv_bipush (v := iv 9) hx hb dX11_look_5 (by decide) ?_
    refine r_icmp_le (tgt := 12) hx hb ⟨(by omega), (by omega)⟩ ⟨(by omega), (by omega)⟩ dX11_look_7 (by decide) (fun c_2 => ?_) (fun c_2 => ?_)
    · refine lv_iload_n hx hb dX11_look_12 rfl (lv_at hl 1 rfl) ?_
      refine lv_bipush (v := iv 9) hx hb dX11_look_13 (by decide) ?_
      refine r_icmp_ne (tgt := 26) hx hb ⟨(by omega), (by omega)⟩ ⟨(by omega), (by omega)⟩ dX11_look_15 (by decide) (fun c_3 => ?_) (fun c_3 => ?_)
      · refine lv_aload_n hx hb dX11_look_26 rfl (lv_at hl 0 rfl) ?_
        have q_4 : 0 ≤ S.1 0 8 ∧ S.1 0 8 ≤ 1 := hI.fi 0 8 11 (by decide) rfl
        refine g_X11_83 Cx hW (k := 0) (by decide) rfl (v := S.1 0 8) rfl dX11_look_27 ?_
        refine r_if_eq (tgt := 44) hx hb ⟨(by omega), (by omega)⟩ dX11_look_30 (by decide) (fun c_5 => ?_) (fun c_5 => ?_)
        · refine lv_iconst (v := iv 0) hx hb dX11_look_44 (by decide) ?_
          exact sIret Cx hr hlk hW hL ⟨rfl, (by omega)⟩ dX11_look_45
        · refine lv_aload_n hx hb dX11_look_33 rfl (lv_at hl 0 rfl) ?_
          refine g_X11_41 Cx hW (k := 0) (by decide) rfl (v := .ref (G.2.2.1 + 119)) (rf_0_3 hI) dX11_look_34 ?_
          refine lv_iload_n hx hb dX11_look_37 rfl (lv_at hl 1 rfl) ?_
          refine sBi (sV (As := [.int (iv k)]) (rest := []) (k := 119) Cx (s_X7_state l G S (k := k) hI (by omega)) (c_X11_117 Cx rfl rfl (rmk_ok (by omega) (by decide))) hW (by decide) rfl rfl rfl hl.1 rfl (Nat.le_of_ble_eq_true rfl) dX11_look_38 ⟨Nat.le_of_ble_eq_true rfl, Nat.le_of_ble_eq_true rfl⟩) hL (fun r_8 u_6 H locs k_7 hW hL => ?_)
          obtain ⟨eu_6, xu_6⟩ := k_7
          rw [eu_6] at hW
          refine lv_goto (tgt := 45) hx hb dX11_look_41 (by decide) ?_
          exact sIret Cx hr hlk hW hL ⟨rfl, (by omega)⟩ dX11_look_45
      · refine lv_aload_n hx hb dX11_look_18 rfl (lv_at hl 0 rfl) ?_
        refine g_X11_14 Cx hW (k := 0) (by decide) rfl (v := .ref (G.2.2.1 + 1)) (rf_0_0 hI) dX11_look_19 ?_
        have q_9 : 0 ≤ S.1 1 1 ∧ S.1 1 1 ≤ 30000 := hI.fi 1 1 10 (by decide) rfl
        refine sBi (sV (As := []) (rest := []) (k := 1) Cx (s_X10_length l G S (o := 1) (N := 30000) hI ⟨by decide, rfl, rfl, rfl, rfl, by decide⟩) (c_X11_56 Cx rfl rfl (rmk_ok (by omega) (by decide))) hW (by decide) rfl rfl rfl hl.1 rfl (Nat.le_of_ble_eq_true rfl) dX11_look_22 ⟨Nat.le_of_ble_eq_true rfl, Nat.le_of_ble_eq_true rfl⟩) hL (fun r_12 u_10 H locs k_11 hW hL => ?_)
        obtain ⟨eu_10, xu_10⟩ := k_11
        rw [eu_10] at hW
        exact sIret Cx hr hlk hW hL ⟨rfl, (by omega)⟩ dX11_look_25
    · refine lv_iconst (v := iv (-1)) hx hb dX11_look_10 (by decide) ?_
      exact sIret Cx hr hlk hW hL ⟨rfl, (by omega)⟩ dX11_look_11

set_option maxRecDepth 100000 in
set_option maxHeartbeats 4000000 in
theorem s_X11_place (l : Launch) (G : sG) (S : sS) {k : Int} (hI : cX G S 0 0 0) (hk : -2147483648 ≤ k ∧ k ≤ 2147483647) : Met l yX11_place (.code yX11_place cX11_place 2 (some .int) :: tb) (rmk 2 0 0) (sPc G 294 S [.ref (G.2.2.1 + 0), .int (iv k)]) (sQi G 294 (fun r u => u = S ∧ (-2147483648 ≤ r ∧ r ≤ 2147483647))) 0 0 (sF G) := by
  refine sEnter (by decide) (Nat.le_of_ble_eq_true rfl) ?_
  intro p e s m args below meth c Cx hr hlk hnm hW ls hl
  have Cx : sC G p m c cX11_place 2 s args RX11 := Cx
  obtain ⟨hx, hb, hml, hown, hts⟩ := id Cx.1
  have hL : sL G [] := sL_nil
  have hl : lv_has ls 2 [(0, .ref (G.2.2.1 + 0)), (1, .int (iv k))] := hl
  have hW0 := hW
  refine lv_aload_n hx hb dX11_place_0 rfl (lv_at hl 0 rfl) ?_
  have q_1 : 0 ≤ S.1 0 8 ∧ S.1 0 8 ≤ 1 := hI.fi 0 8 11 (by decide) rfl
  refine g_X11_83 Cx hW (k := 0) (by decide) rfl (v := S.1 0 8) rfl dX11_place_1 ?_
  refine r_if_eq (tgt := 21) hx hb ⟨(by omega), (by omega)⟩ dX11_place_4 (by decide) (fun c_2 => ?_) (fun c_2 => ?_)
  · refine lv_iconst (v := iv (-1)) hx hb dX11_place_21 (by decide) ?_
    exact sIret Cx hr hlk hW hL ⟨rfl, (by omega)⟩ dX11_place_22
  · refine lv_aload_n hx hb dX11_place_7 rfl (lv_at hl 0 rfl) ?_
    refine g_X11_41 Cx hW (k := 0) (by decide) rfl (v := .ref (G.2.2.1 + 119)) (rf_0_3 hI) dX11_place_8 ?_
    refine g_X11_120 Cx hW (k := 119) (by decide) rfl (v := .ref (G.2.2.1 + 135)) (rf_119_1 hI) dX11_place_11 ?_
    refine lv_iload_n hx hb dX11_place_14 rfl (lv_at hl 1 rfl) ?_
    refine sBi (sV (As := [.int (iv k)]) (rest := []) (k := 135) Cx (s_X2_numberAt l G S (i := k) hI (by omega)) (c_X11_124 Cx rfl rfl (rmk_ok (by omega) (by decide))) hW (by decide) rfl rfl rfl hl.1 rfl (Nat.le_of_ble_eq_true rfl) dX11_place_15 ⟨Nat.le_of_ble_eq_true rfl, Nat.le_of_ble_eq_true rfl⟩) hL (fun r_5 u_3 H locs k_4 hW hL => ?_)
    obtain ⟨eu_3, xu_3⟩ := k_4
    rw [eu_3] at hW
    refine lv_goto (tgt := 22) hx hb dX11_place_18 (by decide) ?_
    exact sIret Cx hr hlk hW hL ⟨rfl, (by omega)⟩ dX11_place_22
