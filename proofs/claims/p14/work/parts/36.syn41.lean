theorem sMi {l : Launch} {y : MethodName} {ws : List Cond} {rm : Room} {Pc : Array Value → State → Prop} {G : sG} {n : Nat} {Q1 Q2 : Int → sS → Prop} {mc ms : Nat} {fr : Addr → Prop} (h : Met l y ws rm Pc (sQi G n Q1) mc ms fr) (k : ∀ r u, Q1 r u → Q2 r u) : Met l y ws rm Pc (sQi G n Q2) mc ms fr := fun p e h1 h2 h3 s m args below h4 h5 h6 h7 => by
  obtain ⟨n', o, a, b, c, ⟨⟨r, u, e1, e2, e3⟩, d⟩⟩ := h p e h1 h2 h3 s m args below h4 h5 h6 h7
  exact ⟨n', o, a, b, c, ⟨⟨r, u, e1, k r u e2, e3⟩, d⟩⟩
theorem uF_self {S : sS} {k i : Nat} : uF S k i (S.1 k i) = S := by
  have h : (fun a j => cond (Nat.beq a k && Nat.beq j i) (S.1 k i) (S.1 a j)) = S.1 := by
    funext a j
    cases h : (Nat.beq a k && Nat.beq j i) with
    | false => rfl
    | true =>
      rw [Bool.and_eq_true] at h
      rw [Nat.eq_of_beq_eq_true h.1, Nat.eq_of_beq_eq_true h.2]; rfl
  unfold uF; rw [h]
/-- no token is BAD -/
def SG (S : sS) : Prop := ∀ j, 0 ≤ j → j < S.1 12 3 → S.2.1 13 j ≠ 1 ∧ lb (S.2.2.1 15 j)
def vd (S : sS) (t : Int) : Int := if 0 ≤ t ∧ t < S.1 12 3 then S.2.2.1 15 t else 0
theorem vd_lb {S : sS} {t : Int} (h : SG S) : lb (vd S t) := by
  unfold vd; split
  · rename_i q; exact (h t q.1 q.2).2
  · exact lb0
theorem cX.syn {G : sG} {S : sS} {x y : Nat} {b : Int} (h : cX G S x y b) : SynAt G S ∧ SynOK S := ⟨⟨rf_12_0 h, rf_12_1 h, rf_12_2 h⟩, h.fi 12 3 8 (by decide) rfl, fun i _ _ => h.1.2.1 13 i (by decide), fun i _ _ => h.1.2.1 14 i (by decide), fun i _ _ => h.1.2.2 15 i (by decide)⟩
theorem SE.g {S : sS} {a : Int} (h : SE S) (a0 : 0 ≤ a) (a1 : a < S.1 12 3) (e : S.2.1 13 a = 0) : SG S := fun j j0 j1 => by
  have ha := (h a a0 a1).1 (by omega)
  have hj := h j j0 j1
  have n1 : S.2.1 13 j ≠ 1 := fun q => by
    have := hj.1 (by omega)
    rw [show j = a by omega] at q; omega
  exact ⟨n1, hj.2 n1⟩
set_option maxRecDepth 100000 in
set_option maxHeartbeats 4000000 in
theorem s_X8_kind (l : Launch) (G : sG) (S : sS) {k : Int} (hI : cX G S 0 0 0) (hk : -2147483648 ≤ k ∧ k ≤ 2147483647) : Met l yX8_kind (.code yX8_kind cX8_kind 2 (some .int) :: tb) (rmk 1 0 0) (sPc G 294 S [.ref (G.2.2.1 + 12), .int (iv k)]) (sQi G 294 (fun r u => u = S ∧ (r = kd S k ∧ 0 ≤ r ∧ r ≤ 26))) 0 0 (sF G) := by
  refine sEnter (by decide) (Nat.le_of_ble_eq_true rfl) ?_
  intro p e s m args below meth c Cx hr hlk hnm hW ls hl
  have Cx : sC G p m c cX8_kind 2 s args RX8 := Cx
  obtain ⟨hx, hb, hml, hown, hts⟩ := id Cx.1
  have hL : sL G [] := sL_nil
  have hl : lv_has ls 2 [(0, .ref (G.2.2.1 + 12)), (1, .int (iv k))] := hl
  have hW0 := hW
  refine lv_iload_n hx hb dX8_kind_0 rfl (lv_at hl 1 rfl) ?_
  refine r_if_lt (tgt := 21) hx hb ⟨(by omega), (by omega)⟩ dX8_kind_1 (by decide) (fun c_1 => ?_) (fun c_1 => ?_)
  · refine lv_iconst (v := iv 0) hx hb dX8_kind_21 (by decide) ?_
    exact sIret Cx hr hlk hW hL ⟨rfl, ⟨(if_neg (by omega)).symm, by omega, by omega⟩⟩ dX8_kind_22
  · refine lv_iload_n hx hb dX8_kind_4 rfl (lv_at hl 1 rfl) ?_
    refine lv_aload_n hx hb dX8_kind_5 rfl (lv_at hl 0 rfl) ?_
    have q_2 : 0 ≤ S.1 12 3 ∧ S.1 12 3 ≤ 2001 := hI.fi 12 3 8 (by decide) rfl
    refine g_X8_22 Cx hW (k := 12) (by decide) rfl (v := S.1 12 3) rfl dX8_kind_6 ?_
    refine r_icmp_ge (tgt := 21) hx hb ⟨(by omega), (by omega)⟩ ⟨(by omega), (by omega)⟩ dX8_kind_9 (by decide) (fun c_3 => ?_) (fun c_3 => ?_)
    · refine lv_iconst (v := iv 0) hx hb dX8_kind_21 (by decide) ?_
      exact sIret Cx hr hlk hW hL ⟨rfl, ⟨(if_neg (by omega)).symm, by omega, by omega⟩⟩ dX8_kind_22
    · refine lv_aload_n hx hb dX8_kind_12 rfl (lv_at hl 0 rfl) ?_
      refine g_X8_11 Cx hW (k := 12) (by decide) rfl (v := .ref (G.2.2.1 + 13)) (rf_12_0 hI) dX8_kind_13 ?_
      refine lv_iload_n hx hb dX8_kind_16 rfl (lv_at hl 1 rfl) ?_
      refine rIald Cx hW (k := 13) (by decide) rfl (by decide) (by omega) (by omega) dX8_kind_17 ?_
      have q_4 : 0 ≤ S.2.1 13 k ∧ S.2.1 13 k ≤ 26 := hI.ai 13 k (by decide)
      refine r_i (b := S.2.1 13 k) rfl ?_
      refine lv_goto (tgt := 22) hx hb dX8_kind_18 (by decide) ?_
      exact sIret Cx hr hlk hW hL ⟨rfl, ⟨(if_pos ⟨by omega, by omega⟩).symm, by omega, by omega⟩⟩ dX8_kind_22

set_option maxRecDepth 100000 in
set_option maxHeartbeats 4000000 in
theorem s_X8_start (l : Launch) (G : sG) (S : sS) {k : Int} (hI : cX G S 0 0 0) (hk : -2147483648 ≤ k ∧ k ≤ 2147483647) : Met l yX8_start (.code yX8_start cX8_start 2 (some .int) :: tb) (rmk 1 0 0) (sPc G 294 S [.ref (G.2.2.1 + 12), .int (iv k)]) (sQi G 294 (fun r u => u = S ∧ (-1 ≤ r ∧ r ≤ 2000))) 0 0 (sF G) := by
  refine sEnter (by decide) (Nat.le_of_ble_eq_true rfl) ?_
  intro p e s m args below meth c Cx hr hlk hnm hW ls hl
  have Cx : sC G p m c cX8_start 2 s args RX8 := Cx
  obtain ⟨hx, hb, hml, hown, hts⟩ := id Cx.1
  have hL : sL G [] := sL_nil
  have hl : lv_has ls 2 [(0, .ref (G.2.2.1 + 12)), (1, .int (iv k))] := hl
  have hW0 := hW
  refine lv_iload_n hx hb dX8_start_0 rfl (lv_at hl 1 rfl) ?_
  refine r_if_lt (tgt := 21) hx hb ⟨(by omega), (by omega)⟩ dX8_start_1 (by decide) (fun c_1 => ?_) (fun c_1 => ?_)
  · refine lv_iconst (v := iv (-1)) hx hb dX8_start_21 (by decide) ?_
    exact sIret Cx hr hlk hW hL ⟨rfl, (by omega)⟩ dX8_start_22
  · refine lv_iload_n hx hb dX8_start_4 rfl (lv_at hl 1 rfl) ?_
    refine lv_aload_n hx hb dX8_start_5 rfl (lv_at hl 0 rfl) ?_
    have q_2 : 0 ≤ S.1 12 3 ∧ S.1 12 3 ≤ 2001 := hI.fi 12 3 8 (by decide) rfl
    refine g_X8_22 Cx hW (k := 12) (by decide) rfl (v := S.1 12 3) rfl dX8_start_6 ?_
    refine r_icmp_ge (tgt := 21) hx hb ⟨(by omega), (by omega)⟩ ⟨(by omega), (by omega)⟩ dX8_start_9 (by decide) (fun c_3 => ?_) (fun c_3 => ?_)
    · refine lv_iconst (v := iv (-1)) hx hb dX8_start_21 (by decide) ?_
      exact sIret Cx hr hlk hW hL ⟨rfl, (by omega)⟩ dX8_start_22
    · refine lv_aload_n hx hb dX8_start_12 rfl (lv_at hl 0 rfl) ?_
      refine g_X8_15 Cx hW (k := 12) (by decide) rfl (v := .ref (G.2.2.1 + 14)) (rf_12_1 hI) dX8_start_13 ?_
      refine lv_iload_n hx hb dX8_start_16 rfl (lv_at hl 1 rfl) ?_
      refine rIald Cx hW (k := 14) (by decide) rfl (by decide) (by omega) (by omega) dX8_start_17 ?_
      have q_4 : 0 ≤ S.2.1 14 k ∧ S.2.1 14 k ≤ 2000 := hI.ai 14 k (by decide)
      refine r_i (b := S.2.1 14 k) rfl ?_
      refine lv_goto (tgt := 22) hx hb dX8_start_18 (by decide) ?_
      exact sIret Cx hr hlk hW hL ⟨rfl, (by omega)⟩ dX8_start_22

set_option maxRecDepth 100000 in
set_option maxHeartbeats 4000000 in
theorem s_X8_value (l : Launch) (G : sG) (S : sS) {k : Int} (hI : cX G S 0 0 0) (hk : -2147483648 ≤ k ∧ k ≤ 2147483647) : Met l yX8_value (.code yX8_value cX8_value 2 (some .long) :: tb) (rmk 1 0 0) (sPc G 294 S [.ref (G.2.2.1 + 12), .int (iv k)]) (sQl G 294 (fun r u => u = S ∧ (r = vd S k ∧ -9223372036854775808 ≤ r ∧ r ≤ 9223372036854775807))) 0 0 (sF G) := by
  refine sEnter (by decide) (Nat.le_of_ble_eq_true rfl) ?_
  intro p e s m args below meth c Cx hr hlk hnm hW ls hl
  have Cx : sC G p m c cX8_value 2 s args RX8 := Cx
  obtain ⟨hx, hb, hml, hown, hts⟩ := id Cx.1
  have hL : sL G [] := sL_nil
  have hl : lv_has ls 2 [(0, .ref (G.2.2.1 + 12)), (1, .int (iv k))] := hl
  have hW0 := hW
  refine lv_iload_n hx hb dX8_value_0 rfl (lv_at hl 1 rfl) ?_
  refine r_if_lt (tgt := 21) hx hb ⟨(by omega), (by omega)⟩ dX8_value_1 (by decide) (fun c_1 => ?_) (fun c_1 => ?_)
  · refine lv_lconst (v := jv 0) hx hb dX8_value_21 (by decide) ?_
    exact sLret Cx hr hlk hW hL ⟨rfl, ⟨(if_neg (by omega)).symm, by omega, by omega⟩⟩ dX8_value_22
  · refine lv_iload_n hx hb dX8_value_4 rfl (lv_at hl 1 rfl) ?_
    refine lv_aload_n hx hb dX8_value_5 rfl (lv_at hl 0 rfl) ?_
    have q_2 : 0 ≤ S.1 12 3 ∧ S.1 12 3 ≤ 2001 := hI.fi 12 3 8 (by decide) rfl
    refine g_X8_22 Cx hW (k := 12) (by decide) rfl (v := S.1 12 3) rfl dX8_value_6 ?_
    refine r_icmp_ge (tgt := 21) hx hb ⟨(by omega), (by omega)⟩ ⟨(by omega), (by omega)⟩ dX8_value_9 (by decide) (fun c_3 => ?_) (fun c_3 => ?_)
    · refine lv_lconst (v := jv 0) hx hb dX8_value_21 (by decide) ?_
      exact sLret Cx hr hlk hW hL ⟨rfl, ⟨(if_neg (by omega)).symm, by omega, by omega⟩⟩ dX8_value_22
    · refine lv_aload_n hx hb dX8_value_12 rfl (lv_at hl 0 rfl) ?_
      refine g_X8_18 Cx hW (k := 12) (by decide) rfl (v := .ref (G.2.2.1 + 15)) (rf_12_2 hI) dX8_value_13 ?_
      refine lv_iload_n hx hb dX8_value_16 rfl (lv_at hl 1 rfl) ?_
      refine rLald Cx hW (k := 15) (by decide) rfl (by decide) (by omega) (by omega) dX8_value_17 ?_
      have q_4 : -9223372036854775808 ≤ S.2.2.1 15 k ∧ S.2.2.1 15 k ≤ 9223372036854775807 := hI.li 15 k (by decide)
      refine r_j (b := S.2.2.1 15 k) rfl ?_
      refine lv_goto (tgt := 22) hx hb dX8_value_18 (by decide) ?_
      exact sLret Cx hr hlk hW hL ⟨rfl, ⟨(if_pos ⟨by omega, by omega⟩).symm, by omega, by omega⟩⟩ dX8_value_22

set_option maxRecDepth 100000 in
set_option maxHeartbeats 4000000 in
theorem s_X8_stopPlace (l : Launch) (G : sG) (S : sS)  (hI : cX G S 0 0 0) : Met l yX8_stopPlace (.code yX8_stopPlace cX8_stopPlace 1 (some .int) :: tb) (rmk 2 0 0) (sPc G 294 S [.ref (G.2.2.1 + 12)]) (sQi G 294 (fun r u => u = S ∧ (-1 ≤ r ∧ r ≤ 2000))) 0 0 (sF G) := by
  refine sEnter (by decide) (Nat.le_of_ble_eq_true rfl) ?_
  intro p e s m args below meth c Cx hr hlk hnm hW ls hl
  have Cx : sC G p m c cX8_stopPlace 1 s args RX8 := Cx
  obtain ⟨hx, hb, hml, hown, hts⟩ := id Cx.1
  have hL : sL G [] := sL_nil
  have hl : lv_has ls 1 [(0, .ref (G.2.2.1 + 12))] := hl
  have hW0 := hW
  refine lv_aload_n hx hb dX8_stopPlace_0 rfl (lv_at hl 0 rfl) ?_
  refine lv_aload_n hx hb dX8_stopPlace_1 rfl (lv_at hl 0 rfl) ?_
  have q_1 : (-2147483648) ≤ S.1 12 4 ∧ S.1 12 4 ≤ 2147483647 := hI.fi 12 4 8 (by decide) rfl
  refine g_X8_26 Cx hW (k := 12) (by decide) rfl (v := S.1 12 4) rfl dX8_stopPlace_2 ?_
  refine sBi (sV (As := [.int (iv (S.1 12 4))]) (rest := []) (k := 12) Cx (s_X8_start l G S (k := S.1 12 4) hI (by omega)) (c_X8_29 Cx rfl rfl (rmk_ok (by omega) (by decide))) hW (by decide) rfl rfl rfl hl.1 rfl (Nat.le_of_ble_eq_true rfl) dX8_stopPlace_5 ⟨Nat.le_of_ble_eq_true rfl, Nat.le_of_ble_eq_true rfl⟩) hL (fun r_4 u_2 H locs k_3 hW hL => ?_)
  obtain ⟨eu_2, xu_2⟩ := k_3
  rw [eu_2] at hW
  exact sIret Cx hr hlk hW hL ⟨rfl, (by omega)⟩ dX8_stopPlace_8

set_option maxRecDepth 100000 in
set_option maxHeartbeats 4000000 in
theorem s_X8_tokenCount (l : Launch) (G : sG) (S : sS)  (hI : cX G S 0 0 0) : Met l yX8_tokenCount (.code yX8_tokenCount cX8_tokenCount 1 (some .int) :: tb) (rmk 1 0 0) (sPc G 294 S [.ref (G.2.2.1 + 12)]) (sQi G 294 (fun r u => u = S ∧ (r = S.1 12 3 ∧ 0 ≤ r ∧ r ≤ 2001))) 0 0 (sF G) := by
  refine sEnter (by decide) (Nat.le_of_ble_eq_true rfl) ?_
  intro p e s m args below meth c Cx hr hlk hnm hW ls hl
  have Cx : sC G p m c cX8_tokenCount 1 s args RX8 := Cx
  obtain ⟨hx, hb, hml, hown, hts⟩ := id Cx.1
  have hL : sL G [] := sL_nil
  have hl : lv_has ls 1 [(0, .ref (G.2.2.1 + 12))] := hl
  have hW0 := hW
  refine lv_aload_n hx hb dX8_tokenCount_0 rfl (lv_at hl 0 rfl) ?_
  have q_1 : 0 ≤ S.1 12 3 ∧ S.1 12 3 ≤ 2001 := hI.fi 12 3 8 (by decide) rfl
  refine g_X8_22 Cx hW (k := 12) (by decide) rfl (v := S.1 12 3) rfl dX8_tokenCount_1 ?_
  exact sIret Cx hr hlk hW hL ⟨rfl, (by omega)⟩ dX8_tokenCount_4
