/-! Syntax: 12 the object, 13 kinds, 14 starts, 15 values -/
def SynOK (S : sS) : Prop := (0 ≤ S.1 12 3 ∧ S.1 12 3 ≤ 2001) ∧ (∀ i : Int, 0 ≤ i → i < 2001 → 0 ≤ S.2.1 13 i ∧ S.2.1 13 i ≤ 26) ∧ (∀ i : Int, 0 ≤ i → i < 2001 → 0 ≤ S.2.1 14 i ∧ S.2.1 14 i ≤ 2000) ∧ ∀ i : Int, 0 ≤ i → i < 2001 → -9223372036854775808 ≤ S.2.2.1 15 i ∧ S.2.2.1 15 i ≤ 9223372036854775807
def SynAt (G : sG) (S : sS) : Prop := S.2.2.2 12 0 = .ref (G.2.2.1 + 13) ∧ S.2.2.2 12 1 = .ref (G.2.2.1 + 14) ∧ S.2.2.2 12 2 = .ref (G.2.2.1 + 15)
set_option maxRecDepth 100000 in
set_option maxHeartbeats 4000000 in
theorem t_X8_kind (l : Launch) (G : sG) (S : sS) {a k : Int} (hA : SynAt G S) (hS : SynOK S) (hk : -2147483648 ≤ k ∧ k ≤ 2147483647) : Met l yX8_kind (.code yX8_kind cX8_kind 2 (some .int) :: tb) (rmk 1 0 0) (sPc G 294 (uF S 12 4 a) [.ref (G.2.2.1 + 12), .int (iv k)]) (sQi G 294 (fun r u => u = uF S 12 4 a ∧ 0 ≤ r ∧ r ≤ 26 ∧ (r ≠ 0 → 0 ≤ k ∧ k < S.1 12 3))) 0 0 (sF G) := by
  refine sEnter (by decide) (Nat.le_of_ble_eq_true rfl) ?_
  intro p e s m args below meth c Cx hr hlk hnm hW ls hl
  have Cx : sC G p m c cX8_kind 2 s args RX8 := Cx
  obtain ⟨hx, hb, hml, hown, hts⟩ := id Cx.1
  have hL : sL G [] := sL_nil
  have hl : lv_has ls 2 [(0, .ref (G.2.2.1 + 12)), (1, .int (iv k))] := hl
  obtain ⟨hr0, hr1, hr2⟩ := id hA
  obtain ⟨ht, hki, hst, hva⟩ := id hS
  refine lv_iload_n hx hb dX8_kind_0 rfl (lv_at hl 1 rfl) ?_
  refine r_if_lt (tgt := 21) hx hb ⟨(by omega), (by omega)⟩ dX8_kind_1 (by decide) (fun c_1 => ?_) (fun c_1 => ?_)
  · refine lv_iconst (v := iv 0) hx hb dX8_kind_21 (by decide) ?_
    exact sIret Cx hr hlk hW hL ⟨rfl, by omega, by omega, by omega⟩ dX8_kind_22
  · refine lv_iload_n hx hb dX8_kind_4 rfl (lv_at hl 1 rfl) ?_
    refine lv_aload_n hx hb dX8_kind_5 rfl (lv_at hl 0 rfl) ?_
    refine g_X8_22 Cx hW (k := 12) (by decide) rfl (v := S.1 12 3) (uF_ne (fun h => absurd h.2 (by decide))) dX8_kind_6 ?_
    refine r_icmp_ge (tgt := 21) hx hb ⟨(by omega), (by omega)⟩ ⟨(by omega), (by omega)⟩ dX8_kind_9 (by decide) (fun c_2 => ?_) (fun c_2 => ?_)
    · refine lv_iconst (v := iv 0) hx hb dX8_kind_21 (by decide) ?_
      exact sIret Cx hr hlk hW hL ⟨rfl, by omega, by omega, by omega⟩ dX8_kind_22
    · refine lv_aload_n hx hb dX8_kind_12 rfl (lv_at hl 0 rfl) ?_
      refine g_X8_11 Cx hW (k := 12) (by decide) rfl (v := .ref (G.2.2.1 + 13)) hr0 dX8_kind_13 ?_
      refine lv_iload_n hx hb dX8_kind_16 rfl (lv_at hl 1 rfl) ?_
      refine rIald Cx hW (k := 13) (by decide) rfl (by decide) (by omega) (by omega) dX8_kind_17 ?_
      refine r_i (b := S.2.1 13 k) rfl ?_
      have q_3 := hki k (by omega) (by omega)
      refine lv_goto (tgt := 22) hx hb dX8_kind_18 (by decide) ?_
      exact sIret Cx hr hlk hW hL ⟨rfl, by omega, by omega, by omega⟩ dX8_kind_22

set_option maxRecDepth 100000 in
set_option maxHeartbeats 4000000 in
theorem t_X8_start (l : Launch) (G : sG) (S : sS) {a k : Int} (hA : SynAt G S) (hS : SynOK S) (hk : -2147483648 ≤ k ∧ k ≤ 2147483647) : Met l yX8_start (.code yX8_start cX8_start 2 (some .int) :: tb) (rmk 1 0 0) (sPc G 294 (uF S 12 4 a) [.ref (G.2.2.1 + 12), .int (iv k)]) (sQi G 294 (fun r u => u = uF S 12 4 a ∧ -1 ≤ r ∧ r ≤ 2000)) 0 0 (sF G) := by
  refine sEnter (by decide) (Nat.le_of_ble_eq_true rfl) ?_
  intro p e s m args below meth c Cx hr hlk hnm hW ls hl
  have Cx : sC G p m c cX8_start 2 s args RX8 := Cx
  obtain ⟨hx, hb, hml, hown, hts⟩ := id Cx.1
  have hL : sL G [] := sL_nil
  have hl : lv_has ls 2 [(0, .ref (G.2.2.1 + 12)), (1, .int (iv k))] := hl
  obtain ⟨hr0, hr1, hr2⟩ := id hA
  obtain ⟨ht, hki, hst, hva⟩ := id hS
  refine lv_iload_n hx hb dX8_start_0 rfl (lv_at hl 1 rfl) ?_
  refine r_if_lt (tgt := 21) hx hb ⟨(by omega), (by omega)⟩ dX8_start_1 (by decide) (fun c_1 => ?_) (fun c_1 => ?_)
  · refine lv_iconst (v := iv (-1)) hx hb dX8_start_21 (by decide) ?_
    exact sIret Cx hr hlk hW hL ⟨rfl, by omega, by omega⟩ dX8_start_22
  · refine lv_iload_n hx hb dX8_start_4 rfl (lv_at hl 1 rfl) ?_
    refine lv_aload_n hx hb dX8_start_5 rfl (lv_at hl 0 rfl) ?_
    refine g_X8_22 Cx hW (k := 12) (by decide) rfl (v := S.1 12 3) (uF_ne (fun h => absurd h.2 (by decide))) dX8_start_6 ?_
    refine r_icmp_ge (tgt := 21) hx hb ⟨(by omega), (by omega)⟩ ⟨(by omega), (by omega)⟩ dX8_start_9 (by decide) (fun c_2 => ?_) (fun c_2 => ?_)
    · refine lv_iconst (v := iv (-1)) hx hb dX8_start_21 (by decide) ?_
      exact sIret Cx hr hlk hW hL ⟨rfl, by omega, by omega⟩ dX8_start_22
    · refine lv_aload_n hx hb dX8_start_12 rfl (lv_at hl 0 rfl) ?_
      refine g_X8_15 Cx hW (k := 12) (by decide) rfl (v := .ref (G.2.2.1 + 14)) hr1 dX8_start_13 ?_
      refine lv_iload_n hx hb dX8_start_16 rfl (lv_at hl 1 rfl) ?_
      refine rIald Cx hW (k := 14) (by decide) rfl (by decide) (by omega) (by omega) dX8_start_17 ?_
      refine r_i (b := S.2.1 14 k) rfl ?_
      have q_3 := hst k (by omega) (by omega)
      refine lv_goto (tgt := 22) hx hb dX8_start_18 (by decide) ?_
      exact sIret Cx hr hlk hW hL ⟨rfl, by omega, by omega⟩ dX8_start_22

set_option maxRecDepth 100000 in
set_option maxHeartbeats 4000000 in
theorem t_X8_value (l : Launch) (G : sG) (S : sS) {a k : Int} (hA : SynAt G S) (hS : SynOK S) (hk : -2147483648 ≤ k ∧ k ≤ 2147483647) : Met l yX8_value (.code yX8_value cX8_value 2 (some .long) :: tb) (rmk 1 0 0) (sPc G 294 (uF S 12 4 a) [.ref (G.2.2.1 + 12), .int (iv k)]) (sQl G 294 (fun r u => u = uF S 12 4 a ∧ -9223372036854775808 ≤ r ∧ r ≤ 9223372036854775807)) 0 0 (sF G) := by
  refine sEnter (by decide) (Nat.le_of_ble_eq_true rfl) ?_
  intro p e s m args below meth c Cx hr hlk hnm hW ls hl
  have Cx : sC G p m c cX8_value 2 s args RX8 := Cx
  obtain ⟨hx, hb, hml, hown, hts⟩ := id Cx.1
  have hL : sL G [] := sL_nil
  have hl : lv_has ls 2 [(0, .ref (G.2.2.1 + 12)), (1, .int (iv k))] := hl
  obtain ⟨hr0, hr1, hr2⟩ := id hA
  obtain ⟨ht, hki, hst, hva⟩ := id hS
  refine lv_iload_n hx hb dX8_value_0 rfl (lv_at hl 1 rfl) ?_
  refine r_if_lt (tgt := 21) hx hb ⟨(by omega), (by omega)⟩ dX8_value_1 (by decide) (fun c_1 => ?_) (fun c_1 => ?_)
  · refine lv_lconst (v := jv 0) hx hb dX8_value_21 (by decide) ?_
    exact sLret Cx hr hlk hW hL ⟨rfl, by omega, by omega⟩ dX8_value_22
  · refine lv_iload_n hx hb dX8_value_4 rfl (lv_at hl 1 rfl) ?_
    refine lv_aload_n hx hb dX8_value_5 rfl (lv_at hl 0 rfl) ?_
    refine g_X8_22 Cx hW (k := 12) (by decide) rfl (v := S.1 12 3) (uF_ne (fun h => absurd h.2 (by decide))) dX8_value_6 ?_
    refine r_icmp_ge (tgt := 21) hx hb ⟨(by omega), (by omega)⟩ ⟨(by omega), (by omega)⟩ dX8_value_9 (by decide) (fun c_2 => ?_) (fun c_2 => ?_)
    · refine lv_lconst (v := jv 0) hx hb dX8_value_21 (by decide) ?_
      exact sLret Cx hr hlk hW hL ⟨rfl, by omega, by omega⟩ dX8_value_22
    · refine lv_aload_n hx hb dX8_value_12 rfl (lv_at hl 0 rfl) ?_
      refine g_X8_18 Cx hW (k := 12) (by decide) rfl (v := .ref (G.2.2.1 + 15)) hr2 dX8_value_13 ?_
      refine lv_iload_n hx hb dX8_value_16 rfl (lv_at hl 1 rfl) ?_
      refine rLald Cx hW (k := 15) (by decide) rfl (by decide) (by omega) (by omega) dX8_value_17 ?_
      refine r_j (b := S.2.2.1 15 k) rfl ?_
      have q_3 := hva k (by omega) (by omega)
      refine lv_goto (tgt := 22) hx hb dX8_value_18 (by decide) ?_
      exact sLret Cx hr hlk hW hL ⟨rfl, by omega, by omega⟩ dX8_value_22

set_option maxRecDepth 100000 in
set_option maxHeartbeats 4000000 in
theorem t_X8_tokenCount (l : Launch) (G : sG) (S : sS) {a : Int} (hA : SynAt G S) (hS : SynOK S) : Met l yX8_tokenCount (.code yX8_tokenCount cX8_tokenCount 1 (some .int) :: tb) (rmk 1 0 0) (sPc G 294 (uF S 12 4 a) [.ref (G.2.2.1 + 12)]) (sQi G 294 (fun r u => u = uF S 12 4 a ∧ r = S.1 12 3)) 0 0 (sF G) := by
  refine sEnter (by decide) (Nat.le_of_ble_eq_true rfl) ?_
  intro p e s m args below meth c Cx hr hlk hnm hW ls hl
  have Cx : sC G p m c cX8_tokenCount 1 s args RX8 := Cx
  obtain ⟨hx, hb, hml, hown, hts⟩ := id Cx.1
  have hL : sL G [] := sL_nil
  have hl : lv_has ls 1 [(0, .ref (G.2.2.1 + 12))] := hl
  obtain ⟨hr0, hr1, hr2⟩ := id hA
  obtain ⟨ht, hki, hst, hva⟩ := id hS
  refine lv_aload_n hx hb dX8_tokenCount_0 rfl (lv_at hl 0 rfl) ?_
  refine g_X8_22 Cx hW (k := 12) (by decide) rfl (v := S.1 12 3) (uF_ne (fun h => absurd h.2 (by decide))) dX8_tokenCount_1 ?_
  exact sIret Cx hr hlk hW hL ⟨rfl, rfl⟩ dX8_tokenCount_4

set_option maxRecDepth 100000 in
set_option maxHeartbeats 4000000 in
theorem t_X8_stopPlace (l : Launch) (G : sG) (S : sS) {a : Int} (hA : SynAt G S) (hS : SynOK S) (ha : 0 ≤ a ∧ a ≤ S.1 12 3) : Met l yX8_stopPlace (.code yX8_stopPlace cX8_stopPlace 1 (some .int) :: tb) (rmk 2 0 0) (sPc G 294 (uF S 12 4 a) [.ref (G.2.2.1 + 12)]) (sQi G 294 (fun r u => u = uF S 12 4 a ∧ -1 ≤ r ∧ r ≤ 2000)) 0 0 (sF G) := by
  refine sEnter (by decide) (Nat.le_of_ble_eq_true rfl) ?_
  intro p e s m args below meth c Cx hr hlk hnm hW ls hl
  have Cx : sC G p m c cX8_stopPlace 1 s args RX8 := Cx
  obtain ⟨hx, hb, hml, hown, hts⟩ := id Cx.1
  have hL : sL G [] := sL_nil
  have hl : lv_has ls 1 [(0, .ref (G.2.2.1 + 12))] := hl
  obtain ⟨hr0, hr1, hr2⟩ := id hA
  obtain ⟨ht, hki, hst, hva⟩ := id hS
  refine lv_aload_n hx hb dX8_stopPlace_0 rfl (lv_at hl 0 rfl) ?_
  refine lv_aload_n hx hb dX8_stopPlace_1 rfl (lv_at hl 0 rfl) ?_
  refine g_X8_26 Cx hW (k := 12) (by decide) rfl (v := a) uF_on dX8_stopPlace_2 ?_
  refine sBi (sV (As := [.int (iv a)]) (rest := []) (k := 12) Cx (t_X8_start l G S hA hS (a := a) (k := a) ⟨by omega, by omega⟩) (c_X8_29 Cx rfl rfl (rmk_ok (by omega) (by decide))) hW (by decide) rfl rfl rfl hl.1 rfl (Nat.le_of_ble_eq_true rfl) dX8_stopPlace_5 ⟨Nat.le_of_ble_eq_true rfl, Nat.le_of_ble_eq_true rfl⟩) hL (fun r_3 u_1 H locs k_2 hW hL => ?_)
  obtain ⟨eu_1, xu_1, yu_1⟩ := k_2
  rw [eu_1] at hW
  exact sIret Cx hr hlk hW hL ⟨rfl, by omega, by omega⟩ dX8_stopPlace_8

set_option maxRecDepth 100000 in
set_option maxHeartbeats 4000000 in
theorem t_X8_is (l : Launch) (G : sG) (S : sS) {a k : Int} (hA : SynAt G S) (hS : SynOK S) (ha : 0 ≤ a ∧ a ≤ S.1 12 3) (hk : 0 ≤ k ∧ k ≤ 26) : Met l yX8_is (.code yX8_is cX8_is 2 (some .boolean) :: tb) (rmk 1 0 0) (sPc G 294 (uF S 12 4 a) [.ref (G.2.2.1 + 12), .int (iv k)]) (sQi G 294 (fun r u => u = uF S 12 4 a ∧ (r = 0 ∨ r = 1) ∧ (r = 1 → a < S.1 12 3))) 0 0 (sF G) := by
  refine sEnter (by decide) (Nat.le_of_ble_eq_true rfl) ?_
  intro p e s m args below meth c Cx hr hlk hnm hW ls hl
  have Cx : sC G p m c cX8_is 2 s args RX8 := Cx
  obtain ⟨hx, hb, hml, hown, hts⟩ := id Cx.1
  have hL : sL G [] := sL_nil
  have hl : lv_has ls 2 [(0, .ref (G.2.2.1 + 12)), (1, .int (iv k))] := hl
  obtain ⟨hr0, hr1, hr2⟩ := id hA
  obtain ⟨ht, hki, hst, hva⟩ := id hS
  refine lv_aload_n hx hb dX8_is_0 rfl (lv_at hl 0 rfl) ?_
  refine g_X8_26 Cx hW (k := 12) (by decide) rfl (v := a) uF_on dX8_is_1 ?_
  refine lv_aload_n hx hb dX8_is_4 rfl (lv_at hl 0 rfl) ?_
  refine g_X8_22 Cx hW (k := 12) (by decide) rfl (v := S.1 12 3) (uF_ne (fun h => absurd h.2 (by decide))) dX8_is_5 ?_
  refine r_icmp_ge (tgt := 28) hx hb ⟨(by omega), (by omega)⟩ ⟨(by omega), (by omega)⟩ dX8_is_8 (by decide) (fun c_1 => ?_) (fun c_1 => ?_)
  · refine lv_iconst (v := iv 0) hx hb dX8_is_28 (by decide) ?_
    exact sZret Cx hr hlk hW hL (by omega) ⟨rfl, by omega, by omega⟩ dX8_is_29
  · refine lv_aload_n hx hb dX8_is_11 rfl (lv_at hl 0 rfl) ?_
    refine g_X8_11 Cx hW (k := 12) (by decide) rfl (v := .ref (G.2.2.1 + 13)) hr0 dX8_is_12 ?_
    refine lv_aload_n hx hb dX8_is_15 rfl (lv_at hl 0 rfl) ?_
    refine g_X8_26 Cx hW (k := 12) (by decide) rfl (v := a) uF_on dX8_is_16 ?_
    refine rIald Cx hW (k := 13) (by decide) rfl (by decide) (by omega) (by omega) dX8_is_19 ?_
    refine r_i (b := S.2.1 13 a) rfl ?_
    have q_2 := hki a (by omega) (by omega)
    refine lv_iload_n hx hb dX8_is_20 rfl (lv_at hl 1 rfl) ?_
    refine r_icmp_ne (tgt := 28) hx hb ⟨(by omega), (by omega)⟩ ⟨(by omega), (by omega)⟩ dX8_is_21 (by decide) (fun c_3 => ?_) (fun c_3 => ?_)
    · refine lv_iconst (v := iv 0) hx hb dX8_is_28 (by decide) ?_
      exact sZret Cx hr hlk hW hL (by omega) ⟨rfl, by omega, by omega⟩ dX8_is_29
    · refine lv_iconst (v := iv 1) hx hb dX8_is_24 (by decide) ?_
      refine lv_goto (tgt := 29) hx hb dX8_is_25 (by decide) ?_
      exact sZret Cx hr hlk hW hL (by omega) ⟨rfl, by omega, by omega⟩ dX8_is_29

set_option maxRecDepth 100000 in
set_option maxHeartbeats 4000000 in
theorem t_X8_pass (l : Launch) (G : sG) (S : sS) {a k : Int} (hA : SynAt G S) (hS : SynOK S) (ha : 0 ≤ a ∧ a ≤ S.1 12 3) (hk : 0 ≤ k ∧ k ≤ 26) : Met l yX8_pass (.code yX8_pass cX8_pass 2 (some .boolean) :: tb) (rmk 1 0 0) (sPc G 294 (uF S 12 4 a) [.ref (G.2.2.1 + 12), .int (iv k)]) (sQi G 294 (fun r u => ∃ a2 : Int, u = uF S 12 4 a2 ∧ a ≤ a2 ∧ a2 ≤ S.1 12 3 ∧ (r = 0 ∨ r = 1) ∧ (r = 1 → a2 = a + 1))) 0 0 (sF G) := by
  refine sEnter (by decide) (Nat.le_of_ble_eq_true rfl) ?_
  intro p e s m args below meth c Cx hr hlk hnm hW ls hl
  have Cx : sC G p m c cX8_pass 2 s args RX8 := Cx
  obtain ⟨hx, hb, hml, hown, hts⟩ := id Cx.1
  have hL : sL G [] := sL_nil
  have hl : lv_has ls 2 [(0, .ref (G.2.2.1 + 12)), (1, .int (iv k))] := hl
  obtain ⟨hr0, hr1, hr2⟩ := id hA
  obtain ⟨ht, hki, hst, hva⟩ := id hS
  refine lv_aload_n hx hb dX8_pass_0 rfl (lv_at hl 0 rfl) ?_
  refine g_X8_26 Cx hW (k := 12) (by decide) rfl (v := a) uF_on dX8_pass_1 ?_
  refine lv_aload_n hx hb dX8_pass_4 rfl (lv_at hl 0 rfl) ?_
  refine g_X8_22 Cx hW (k := 12) (by decide) rfl (v := S.1 12 3) (uF_ne (fun h => absurd h.2 (by decide))) dX8_pass_5 ?_
  refine r_icmp_ge (tgt := 24) hx hb ⟨(by omega), (by omega)⟩ ⟨(by omega), (by omega)⟩ dX8_pass_8 (by decide) (fun c_1 => ?_) (fun c_1 => ?_)
  · refine lv_iconst (v := iv 0) hx hb dX8_pass_24 (by decide) ?_
    exact sZret Cx hr hlk hW hL (by omega) ⟨a, rfl, by omega, by omega, by omega, by omega⟩ dX8_pass_25
  · refine lv_aload_n hx hb dX8_pass_11 rfl (lv_at hl 0 rfl) ?_
    refine g_X8_11 Cx hW (k := 12) (by decide) rfl (v := .ref (G.2.2.1 + 13)) hr0 dX8_pass_12 ?_
    refine lv_aload_n hx hb dX8_pass_15 rfl (lv_at hl 0 rfl) ?_
    refine g_X8_26 Cx hW (k := 12) (by decide) rfl (v := a) uF_on dX8_pass_16 ?_
    refine rIald Cx hW (k := 13) (by decide) rfl (by decide) (by omega) (by omega) dX8_pass_19 ?_
    refine r_i (b := S.2.1 13 a) rfl ?_
    have q_2 := hki a (by omega) (by omega)
    refine lv_iload_n hx hb dX8_pass_20 rfl (lv_at hl 1 rfl) ?_
    refine r_icmp_eq (tgt := 26) hx hb ⟨(by omega), (by omega)⟩ ⟨(by omega), (by omega)⟩ dX8_pass_21 (by decide) (fun c_3 => ?_) (fun c_3 => ?_)
    · refine lv_aload_n hx hb dX8_pass_26 rfl (lv_at hl 0 rfl) ?_
      refine lv_dup hx hb dX8_pass_27 rfl ?_
      refine g_X8_26 Cx hW (k := 12) (by decide) rfl (v := a) uF_on dX8_pass_28 ?_
      refine lv_iconst (v := iv 1) hx hb dX8_pass_31 (by decide) ?_
      refine r_iadd hx hb dX8_pass_32 ?_
      refine p_X8_26 Cx hW hL (k := 12) (by decide) rfl dX8_pass_33 (fun H locs hW hL => ?_)
      rw [uF_uF] at hW
      refine lv_iconst (v := iv 1) hx hb dX8_pass_36 (by decide) ?_
      exact sZret Cx hr hlk hW hL (by omega) ⟨a + 1, rfl, by omega, by omega, by omega, by omega⟩ dX8_pass_37
    · refine lv_iconst (v := iv 0) hx hb dX8_pass_24 (by decide) ?_
      exact sZret Cx hr hlk hW hL (by omega) ⟨a, rfl, by omega, by omega, by omega, by omega⟩ dX8_pass_25

set_option maxRecDepth 100000 in
set_option maxHeartbeats 4000000 in
theorem t_X8_indexes (l : Launch) (G : sG) (S : sS) {a : Int} (hA : SynAt G S) (hS : SynOK S) (ha : 0 ≤ a ∧ a ≤ S.1 12 3) : Met l yX8_indexes (.code yX8_indexes cX8_indexes 1 (some .boolean) :: tb) (rmk 2 0 0) (sPc G 294 (uF S 12 4 a) [.ref (G.2.2.1 + 12)]) (sQi G 294 (fun r u => ∃ a2 : Int, u = uF S 12 4 a2 ∧ a ≤ a2 ∧ a2 ≤ S.1 12 3 ∧ (r = 0 ∨ r = 1))) 0 0 (sF G) := by
  refine sEnter (by decide) (Nat.le_of_ble_eq_true rfl) ?_
  intro p e s m args below meth c Cx hr hlk hnm hW ls hl
  have Cx : sC G p m c cX8_indexes 1 s args RX8 := Cx
  obtain ⟨hx, hb, hml, hown, hts⟩ := id Cx.1
  have hL : sL G [] := sL_nil
  have hl : lv_has ls 1 [(0, .ref (G.2.2.1 + 12))] := hl
  obtain ⟨hr0, hr1, hr2⟩ := id hA
  obtain ⟨ht, hki, hst, hva⟩ := id hS
  refine lv_aload_n hx hb dX8_indexes_0 rfl (lv_at hl 0 rfl) ?_
  refine lv_bipush (v := iv 17) hx hb dX8_indexes_1 (by decide) ?_
  refine sBi (sV (As := [.int (iv 17)]) (rest := []) (k := 12) Cx (t_X8_pass l G S hA hS (a := a) (k := 17) (by omega) (by omega)) (c_X8_92 Cx rfl rfl (rmk_ok (by omega) (by decide))) hW (by decide) rfl rfl rfl hl.1 rfl (Nat.le_of_ble_eq_true rfl) dX8_indexes_3 ⟨Nat.le_of_ble_eq_true rfl, Nat.le_of_ble_eq_true rfl⟩) hL (fun r_3 u_1 H locs k_2 hW hL => ?_)
  obtain ⟨au_1, eu_1, xu_1, yu_1, zu_1, vu_1⟩ := k_2
  rw [eu_1] at hW
  refine r_if_ne (tgt := 11) hx hb ⟨(by omega), (by omega)⟩ dX8_indexes_6 (by decide) (fun c_4 => ?_) (fun c_4 => ?_)
  · refine lv_aload_n hx hb dX8_indexes_11 rfl (lv_at hl 0 rfl) ?_
    refine lv_iconst (v := iv 2) hx hb dX8_indexes_12 (by decide) ?_
    refine sBi (sV (As := [.int (iv 2)]) (rest := []) (k := 12) Cx (t_X8_pass l G S hA hS (a := au_1) (k := 2) (by omega) (by omega)) (c_X8_92 Cx rfl rfl (rmk_ok (by omega) (by decide))) hW (by decide) rfl rfl rfl hl.1 rfl (Nat.le_of_ble_eq_true rfl) dX8_indexes_13 ⟨Nat.le_of_ble_eq_true rfl, Nat.le_of_ble_eq_true rfl⟩) hL (fun r_7 u_5 H locs k_6 hW hL => ?_)
    obtain ⟨au_5, eu_5, xu_5, yu_5, zu_5, vu_5⟩ := k_6
    rw [eu_5] at hW
    refine r_if_ne (tgt := 21) hx hb ⟨(by omega), (by omega)⟩ dX8_indexes_16 (by decide) (fun c_8 => ?_) (fun c_8 => ?_)
    · refine lv_aload_n hx hb dX8_indexes_21 rfl (lv_at hl 0 rfl) ?_
      refine lv_bipush (v := iv 16) hx hb dX8_indexes_22 (by decide) ?_
      refine sBi (sV (As := [.int (iv 16)]) (rest := []) (k := 12) Cx (t_X8_pass l G S hA hS (a := au_5) (k := 16) (by omega) (by omega)) (c_X8_92 Cx rfl rfl (rmk_ok (by omega) (by decide))) hW (by decide) rfl rfl rfl hl.1 rfl (Nat.le_of_ble_eq_true rfl) dX8_indexes_24 ⟨Nat.le_of_ble_eq_true rfl, Nat.le_of_ble_eq_true rfl⟩) hL (fun r_11 u_9 H locs k_10 hW hL => ?_)
      obtain ⟨au_9, eu_9, xu_9, yu_9, zu_9, vu_9⟩ := k_10
      rw [eu_9] at hW
      refine r_if_eq (tgt := 40) hx hb ⟨(by omega), (by omega)⟩ dX8_indexes_27 (by decide) (fun c_12 => ?_) (fun c_12 => ?_)
      · refine lv_aload_n hx hb dX8_indexes_40 rfl (lv_at hl 0 rfl) ?_
        refine lv_bipush (v := iv 18) hx hb dX8_indexes_41 (by decide) ?_
        refine sBi (sV (As := [.int (iv 18)]) (rest := []) (k := 12) Cx (t_X8_pass l G S hA hS (a := au_9) (k := 18) (by omega) (by omega)) (c_X8_92 Cx rfl rfl (rmk_ok (by omega) (by decide))) hW (by decide) rfl rfl rfl hl.1 rfl (Nat.le_of_ble_eq_true rfl) dX8_indexes_43 ⟨Nat.le_of_ble_eq_true rfl, Nat.le_of_ble_eq_true rfl⟩) hL (fun r_15 u_13 H locs k_14 hW hL => ?_)
        obtain ⟨au_13, eu_13, xu_13, yu_13, zu_13, vu_13⟩ := k_14
        rw [eu_13] at hW
        exact sZret Cx hr hlk hW hL (by omega) ⟨au_13, rfl, by omega, by omega, by omega⟩ dX8_indexes_46
      · refine lv_aload_n hx hb dX8_indexes_30 rfl (lv_at hl 0 rfl) ?_
        refine lv_iconst (v := iv 2) hx hb dX8_indexes_31 (by decide) ?_
        refine sBi (sV (As := [.int (iv 2)]) (rest := []) (k := 12) Cx (t_X8_pass l G S hA hS (a := au_9) (k := 2) (by omega) (by omega)) (c_X8_92 Cx rfl rfl (rmk_ok (by omega) (by decide))) hW (by decide) rfl rfl rfl hl.1 rfl (Nat.le_of_ble_eq_true rfl) dX8_indexes_32 ⟨Nat.le_of_ble_eq_true rfl, Nat.le_of_ble_eq_true rfl⟩) hL (fun r_18 u_16 H locs k_17 hW hL => ?_)
        obtain ⟨au_16, eu_16, xu_16, yu_16, zu_16, vu_16⟩ := k_17
        rw [eu_16] at hW
        refine r_if_ne (tgt := 40) hx hb ⟨(by omega), (by omega)⟩ dX8_indexes_35 (by decide) (fun c_19 => ?_) (fun c_19 => ?_)
        · refine lv_aload_n hx hb dX8_indexes_40 rfl (lv_at hl 0 rfl) ?_
          refine lv_bipush (v := iv 18) hx hb dX8_indexes_41 (by decide) ?_
          refine sBi (sV (As := [.int (iv 18)]) (rest := []) (k := 12) Cx (t_X8_pass l G S hA hS (a := au_16) (k := 18) (by omega) (by omega)) (c_X8_92 Cx rfl rfl (rmk_ok (by omega) (by decide))) hW (by decide) rfl rfl rfl hl.1 rfl (Nat.le_of_ble_eq_true rfl) dX8_indexes_43 ⟨Nat.le_of_ble_eq_true rfl, Nat.le_of_ble_eq_true rfl⟩) hL (fun r_22 u_20 H locs k_21 hW hL => ?_)
          obtain ⟨au_20, eu_20, xu_20, yu_20, zu_20, vu_20⟩ := k_21
          rw [eu_20] at hW
          exact sZret Cx hr hlk hW hL (by omega) ⟨au_20, rfl, by omega, by omega, by omega⟩ dX8_indexes_46
        · refine lv_iconst (v := iv 0) hx hb dX8_indexes_38 (by decide) ?_
          exact sZret Cx hr hlk hW hL (by omega) ⟨au_16, rfl, by omega, by omega, by omega⟩ dX8_indexes_39
    · refine lv_iconst (v := iv 0) hx hb dX8_indexes_19 (by decide) ?_
      exact sZret Cx hr hlk hW hL (by omega) ⟨au_5, rfl, by omega, by omega, by omega⟩ dX8_indexes_20
  · refine lv_iconst (v := iv 1) hx hb dX8_indexes_9 (by decide) ?_
    exact sZret Cx hr hlk hW hL (by omega) ⟨au_1, rfl, by omega, by omega, by omega⟩ dX8_indexes_10

set_option maxRecDepth 100000 in
set_option maxHeartbeats 4000000 in
theorem t_X8_item (l : Launch) (G : sG) (S : sS) {a : Int} (hA : SynAt G S) (hS : SynOK S) (ha : 0 ≤ a ∧ a ≤ S.1 12 3) : Met l yX8_item (.code yX8_item cX8_item 1 (some .boolean) :: tb) (rmk 2 0 0) (sPc G 294 (uF S 12 4 a) [.ref (G.2.2.1 + 12)]) (sQi G 294 (fun r u => ∃ a2 : Int, u = uF S 12 4 a2 ∧ a ≤ a2 ∧ a2 ≤ S.1 12 3 ∧ (r = 0 ∨ r = 1))) 0 0 (sF G) := by
  refine sEnter (by decide) (Nat.le_of_ble_eq_true rfl) ?_
  intro p e s m args below meth c Cx hr hlk hnm hW ls hl
  have Cx : sC G p m c cX8_item 1 s args RX8 := Cx
  obtain ⟨hx, hb, hml, hown, hts⟩ := id Cx.1
  have hL : sL G [] := sL_nil
  have hl : lv_has ls 1 [(0, .ref (G.2.2.1 + 12))] := hl
  obtain ⟨hr0, hr1, hr2⟩ := id hA
  obtain ⟨ht, hki, hst, hva⟩ := id hS
  refine lv_aload_n hx hb dX8_item_0 rfl (lv_at hl 0 rfl) ?_
  refine lv_iconst (v := iv 3) hx hb dX8_item_1 (by decide) ?_
  refine sBi (sV (As := [.int (iv 3)]) (rest := []) (k := 12) Cx (t_X8_pass l G S hA hS (a := a) (k := 3) (by omega) (by omega)) (c_X8_92 Cx rfl rfl (rmk_ok (by omega) (by decide))) hW (by decide) rfl rfl rfl hl.1 rfl (Nat.le_of_ble_eq_true rfl) dX8_item_2 ⟨Nat.le_of_ble_eq_true rfl, Nat.le_of_ble_eq_true rfl⟩) hL (fun r_3 u_1 H locs k_2 hW hL => ?_)
  obtain ⟨au_1, eu_1, xu_1, yu_1, zu_1, vu_1⟩ := k_2
  rw [eu_1] at hW
  refine r_if_eq (tgt := 10) hx hb ⟨(by omega), (by omega)⟩ dX8_item_5 (by decide) (fun c_4 => ?_) (fun c_4 => ?_)
  · refine lv_aload_n hx hb dX8_item_10 rfl (lv_at hl 0 rfl) ?_
    refine lv_iconst (v := iv 2) hx hb dX8_item_11 (by decide) ?_
    refine sBi (sV (As := [.int (iv 2)]) (rest := []) (k := 12) Cx (t_X8_pass l G S hA hS (a := au_1) (k := 2) (by omega) (by omega)) (c_X8_92 Cx rfl rfl (rmk_ok (by omega) (by decide))) hW (by decide) rfl rfl rfl hl.1 rfl (Nat.le_of_ble_eq_true rfl) dX8_item_12 ⟨Nat.le_of_ble_eq_true rfl, Nat.le_of_ble_eq_true rfl⟩) hL (fun r_7 u_5 H locs k_6 hW hL => ?_)
    obtain ⟨au_5, eu_5, xu_5, yu_5, zu_5, vu_5⟩ := k_6
    rw [eu_5] at hW
    refine r_if_ne (tgt := 20) hx hb ⟨(by omega), (by omega)⟩ dX8_item_15 (by decide) (fun c_8 => ?_) (fun c_8 => ?_)
    · refine lv_aload_n hx hb dX8_item_20 rfl (lv_at hl 0 rfl) ?_
      refine lv_bipush (v := iv 21) hx hb dX8_item_21 (by decide) ?_
      refine sBi (sV (As := [.int (iv 21)]) (rest := []) (k := 12) Cx (t_X8_is l G S hA hS (a := au_5) (k := 21) (by omega) (by omega)) (c_X8_82 Cx rfl rfl (rmk_ok (by omega) (by decide))) hW (by decide) rfl rfl rfl hl.1 rfl (Nat.le_of_ble_eq_true rfl) dX8_item_23 ⟨Nat.le_of_ble_eq_true rfl, Nat.le_of_ble_eq_true rfl⟩) hL (fun r_11 u_9 H locs k_10 hW hL => ?_)
      obtain ⟨eu_9, xu_9, yu_9⟩ := k_10
      rw [eu_9] at hW
      refine r_if_ne (tgt := 38) hx hb ⟨(by omega), (by omega)⟩ dX8_item_26 (by decide) (fun c_12 => ?_) (fun c_12 => ?_)
      · refine lv_aload_n hx hb dX8_item_38 rfl (lv_at hl 0 rfl) ?_
        refine lv_dup hx hb dX8_item_39 rfl ?_
        refine g_X8_26 Cx hW (k := 12) (by decide) rfl (v := au_5) uF_on dX8_item_40 ?_
        refine lv_iconst (v := iv 1) hx hb dX8_item_43 (by decide) ?_
        refine r_iadd hx hb dX8_item_44 ?_
        refine p_X8_26 Cx hW hL (k := 12) (by decide) rfl dX8_item_45 (fun H locs hW hL => ?_)
        rw [uF_uF] at hW
        refine lv_aload_n hx hb dX8_item_48 rfl (lv_at hl 0 rfl) ?_
        refine lv_iconst (v := iv 3) hx hb dX8_item_49 (by decide) ?_
        refine sBi (sV (As := [.int (iv 3)]) (rest := []) (k := 12) Cx (t_X8_pass l G S hA hS (a := au_5 + 1) (k := 3) (by omega) (by omega)) (c_X8_92 Cx rfl rfl (rmk_ok (by omega) (by decide))) hW (by decide) rfl rfl rfl hl.1 rfl (Nat.le_of_ble_eq_true rfl) dX8_item_50 ⟨Nat.le_of_ble_eq_true rfl, Nat.le_of_ble_eq_true rfl⟩) hL (fun r_15 u_13 H locs k_14 hW hL => ?_)
        obtain ⟨au_13, eu_13, xu_13, yu_13, zu_13, vu_13⟩ := k_14
        rw [eu_13] at hW
        exact sZret Cx hr hlk hW hL (by omega) ⟨au_13, rfl, by omega, by omega, by omega⟩ dX8_item_53
      · refine lv_aload_n hx hb dX8_item_29 rfl (lv_at hl 0 rfl) ?_
        refine lv_bipush (v := iv 22) hx hb dX8_item_30 (by decide) ?_
        refine sBi (sV (As := [.int (iv 22)]) (rest := []) (k := 12) Cx (t_X8_is l G S hA hS (a := au_5) (k := 22) (by omega) (by omega)) (c_X8_82 Cx rfl rfl (rmk_ok (by omega) (by decide))) hW (by decide) rfl rfl rfl hl.1 rfl (Nat.le_of_ble_eq_true rfl) dX8_item_32 ⟨Nat.le_of_ble_eq_true rfl, Nat.le_of_ble_eq_true rfl⟩) hL (fun r_18 u_16 H locs k_17 hW hL => ?_)
        obtain ⟨eu_16, xu_16, yu_16⟩ := k_17
        rw [eu_16] at hW
        refine r_if_eq (tgt := 54) hx hb ⟨(by omega), (by omega)⟩ dX8_item_35 (by decide) (fun c_19 => ?_) (fun c_19 => ?_)
        · refine lv_iconst (v := iv 1) hx hb dX8_item_54 (by decide) ?_
          exact sZret Cx hr hlk hW hL (by omega) ⟨au_5, rfl, by omega, by omega, by omega⟩ dX8_item_55
        · refine lv_aload_n hx hb dX8_item_38 rfl (lv_at hl 0 rfl) ?_
          refine lv_dup hx hb dX8_item_39 rfl ?_
          refine g_X8_26 Cx hW (k := 12) (by decide) rfl (v := au_5) uF_on dX8_item_40 ?_
          refine lv_iconst (v := iv 1) hx hb dX8_item_43 (by decide) ?_
          refine r_iadd hx hb dX8_item_44 ?_
          refine p_X8_26 Cx hW hL (k := 12) (by decide) rfl dX8_item_45 (fun H locs hW hL => ?_)
          rw [uF_uF] at hW
          refine lv_aload_n hx hb dX8_item_48 rfl (lv_at hl 0 rfl) ?_
          refine lv_iconst (v := iv 3) hx hb dX8_item_49 (by decide) ?_
          refine sBi (sV (As := [.int (iv 3)]) (rest := []) (k := 12) Cx (t_X8_pass l G S hA hS (a := au_5 + 1) (k := 3) (by omega) (by omega)) (c_X8_92 Cx rfl rfl (rmk_ok (by omega) (by decide))) hW (by decide) rfl rfl rfl hl.1 rfl (Nat.le_of_ble_eq_true rfl) dX8_item_50 ⟨Nat.le_of_ble_eq_true rfl, Nat.le_of_ble_eq_true rfl⟩) hL (fun r_22 u_20 H locs k_21 hW hL => ?_)
          obtain ⟨au_20, eu_20, xu_20, yu_20, zu_20, vu_20⟩ := k_21
          rw [eu_20] at hW
          exact sZret Cx hr hlk hW hL (by omega) ⟨au_20, rfl, by omega, by omega, by omega⟩ dX8_item_53
    · refine lv_iconst (v := iv 0) hx hb dX8_item_18 (by decide) ?_
      exact sZret Cx hr hlk hW hL (by omega) ⟨au_5, rfl, by omega, by omega, by omega⟩ dX8_item_19
  · refine lv_iconst (v := iv 1) hx hb dX8_item_8 (by decide) ?_
    exact sZret Cx hr hlk hW hL (by omega) ⟨au_1, rfl, by omega, by omega, by omega⟩ dX8_item_9

set_option maxRecDepth 100000 in
set_option maxHeartbeats 4000000 in
theorem t_X8_items (l : Launch) (G : sG) (S : sS) {a : Int} (hA : SynAt G S) (hS : SynOK S) (ha : 0 ≤ a ∧ a ≤ S.1 12 3) : Met l yX8_items (.code yX8_items cX8_items 1 (some .boolean) :: tb) (rmk 3 0 0) (sPc G 294 (uF S 12 4 a) [.ref (G.2.2.1 + 12)]) (sQi G 294 (fun r u => ∃ a2 : Int, u = uF S 12 4 a2 ∧ a ≤ a2 ∧ a2 ≤ S.1 12 3 ∧ (r = 0 ∨ r = 1))) 0 0 (sF G) := by
  refine sEnter (by decide) (Nat.le_of_ble_eq_true rfl) ?_
  intro p e s m args below meth c Cx hr hlk hnm hW ls hl
  have Cx : sC G p m c cX8_items 1 s args RX8 := Cx
  obtain ⟨hx, hb, hml, hown, hts⟩ := id Cx.1
  have hL : sL G [] := sL_nil
  have hl : lv_has ls 1 [(0, .ref (G.2.2.1 + 12))] := hl
  obtain ⟨hr0, hr1, hr2⟩ := id hA
  obtain ⟨ht, hki, hst, hva⟩ := id hS
  refine lv_aload_n hx hb dX8_items_0 rfl (lv_at hl 0 rfl) ?_
  refine sBi (sV (As := []) (rest := []) (k := 12) Cx (t_X8_item l G S hA hS (a := a) (by omega)) (c_X8_116 Cx rfl rfl (rmk_ok (by omega) (by decide))) hW (by decide) rfl rfl rfl hl.1 rfl (Nat.le_of_ble_eq_true rfl) dX8_items_1 ⟨Nat.le_of_ble_eq_true rfl, Nat.le_of_ble_eq_true rfl⟩) hL (fun r_3 u_1 H locs k_2 hW hL => ?_)
  obtain ⟨au_1, eu_1, xu_1, yu_1, zu_1⟩ := k_2
  rw [eu_1] at hW
  refine r_if_ne (tgt := 9) hx hb ⟨(by omega), (by omega)⟩ dX8_items_4 (by decide) (fun c_4 => ?_) (fun c_4 => ?_)
  · refine lv_aload_n hx hb dX8_items_9 rfl (lv_at hl 0 rfl) ?_
    refine lv_bipush (v := iv 16) hx hb dX8_items_10 (by decide) ?_
    refine sBi (sV (As := [.int (iv 16)]) (rest := []) (k := 12) Cx (t_X8_pass l G S hA hS (a := au_1) (k := 16) (by omega) (by omega)) (c_X8_92 Cx rfl rfl (rmk_ok (by omega) (by decide))) hW (by decide) rfl rfl rfl hl.1 rfl (Nat.le_of_ble_eq_true rfl) dX8_items_12 ⟨Nat.le_of_ble_eq_true rfl, Nat.le_of_ble_eq_true rfl⟩) hL (fun r_7 u_5 H locs k_6 hW hL => ?_)
    obtain ⟨au_5, eu_5, xu_5, yu_5, zu_5, vu_5⟩ := k_6
    rw [eu_5] at hW
    refine r_if_eq (tgt := 27) hx hb ⟨(by omega), (by omega)⟩ dX8_items_15 (by decide) (fun c_8 => ?_) (fun c_8 => ?_)
    · refine lv_aload_n hx hb dX8_items_27 rfl (lv_at hl 0 rfl) ?_
      refine lv_bipush (v := iv 18) hx hb dX8_items_28 (by decide) ?_
      refine sBi (sV (As := [.int (iv 18)]) (rest := []) (k := 12) Cx (t_X8_pass l G S hA hS (a := au_5) (k := 18) (by omega) (by omega)) (c_X8_92 Cx rfl rfl (rmk_ok (by omega) (by decide))) hW (by decide) rfl rfl rfl hl.1 rfl (Nat.le_of_ble_eq_true rfl) dX8_items_30 ⟨Nat.le_of_ble_eq_true rfl, Nat.le_of_ble_eq_true rfl⟩) hL (fun r_11 u_9 H locs k_10 hW hL => ?_)
      obtain ⟨au_9, eu_9, xu_9, yu_9, zu_9, vu_9⟩ := k_10
      rw [eu_9] at hW
      exact sZret Cx hr hlk hW hL (by omega) ⟨au_9, rfl, by omega, by omega, by omega⟩ dX8_items_33
    · refine lv_aload_n hx hb dX8_items_18 rfl (lv_at hl 0 rfl) ?_
      refine sBi (sV (As := []) (rest := []) (k := 12) Cx (t_X8_item l G S hA hS (a := au_5) (by omega)) (c_X8_116 Cx rfl rfl (rmk_ok (by omega) (by decide))) hW (by decide) rfl rfl rfl hl.1 rfl (Nat.le_of_ble_eq_true rfl) dX8_items_19 ⟨Nat.le_of_ble_eq_true rfl, Nat.le_of_ble_eq_true rfl⟩) hL (fun r_14 u_12 H locs k_13 hW hL => ?_)
      obtain ⟨au_12, eu_12, xu_12, yu_12, zu_12⟩ := k_13
      rw [eu_12] at hW
      refine r_if_ne (tgt := 27) hx hb ⟨(by omega), (by omega)⟩ dX8_items_22 (by decide) (fun c_15 => ?_) (fun c_15 => ?_)
      · refine lv_aload_n hx hb dX8_items_27 rfl (lv_at hl 0 rfl) ?_
        refine lv_bipush (v := iv 18) hx hb dX8_items_28 (by decide) ?_
        refine sBi (sV (As := [.int (iv 18)]) (rest := []) (k := 12) Cx (t_X8_pass l G S hA hS (a := au_12) (k := 18) (by omega) (by omega)) (c_X8_92 Cx rfl rfl (rmk_ok (by omega) (by decide))) hW (by decide) rfl rfl rfl hl.1 rfl (Nat.le_of_ble_eq_true rfl) dX8_items_30 ⟨Nat.le_of_ble_eq_true rfl, Nat.le_of_ble_eq_true rfl⟩) hL (fun r_18 u_16 H locs k_17 hW hL => ?_)
        obtain ⟨au_16, eu_16, xu_16, yu_16, zu_16, vu_16⟩ := k_17
        rw [eu_16] at hW
        exact sZret Cx hr hlk hW hL (by omega) ⟨au_16, rfl, by omega, by omega, by omega⟩ dX8_items_33
      · refine lv_iconst (v := iv 0) hx hb dX8_items_25 (by decide) ?_
        exact sZret Cx hr hlk hW hL (by omega) ⟨au_12, rfl, by omega, by omega, by omega⟩ dX8_items_26
  · refine lv_iconst (v := iv 0) hx hb dX8_items_7 (by decide) ?_
    exact sZret Cx hr hlk hW hL (by omega) ⟨au_1, rfl, by omega, by omega, by omega⟩ dX8_items_8

set_option maxRecDepth 100000 in
set_option maxHeartbeats 4000000 in
theorem t_X8_valueList (l : Launch) (G : sG) (S : sS) {a : Int} (hA : SynAt G S) (hS : SynOK S) (ha : 0 ≤ a ∧ a ≤ S.1 12 3) : Met l yX8_valueList (.code yX8_valueList cX8_valueList 2 (some .boolean) :: tb) (rmk 2 0 0) (sPc G 294 (uF S 12 4 a) [.ref (G.2.2.1 + 12)]) (sQi G 294 (fun r u => ∃ a2 : Int, u = uF S 12 4 a2 ∧ a ≤ a2 ∧ a2 ≤ S.1 12 3 ∧ (r = 0 ∨ r = 1))) 0 0 (sF G) := by
  refine sEnter (by decide) (Nat.le_of_ble_eq_true rfl) ?_
  intro p e s m args below meth c Cx hr hlk hnm hW ls hl
  have Cx : sC G p m c cX8_valueList 2 s args RX8 := Cx
  obtain ⟨hx, hb, hml, hown, hts⟩ := id Cx.1
  have hL : sL G [] := sL_nil
  have hl : lv_has ls 2 [(0, .ref (G.2.2.1 + 12))] := hl
  obtain ⟨hr0, hr1, hr2⟩ := id hA
  obtain ⟨ht, hki, hst, hva⟩ := id hS
  refine lv_iconst (v := iv 0) hx hb dX8_valueList_0 (by decide) ?_
  refine lv_istore_n (lv' := [(1, .int (iv 0)), (0, .ref (G.2.2.1 + 12))]) hx hb dX8_valueList_1 rfl hl (by decide) rfl (fun ls hl => ?_)
  have loop_2 : ∀ (fuel : Nat) (i : Int) (b : Int) (H : Heap) (locs : List Loc) (ls : Array Slot), (S.1 12 3 - i).toNat < fuel → (0 ≤ i ∧ i ≤ S.1 12 3) → (a ≤ b ∧ b ≤ S.1 12 3) → sW G 294 (uF S 12 4 b) H → sL G locs → lv_has ls 2 [(1, .int (iv i)), (0, .ref (G.2.2.1 + 12))] → W p l e (rmk 2 0 0) s m args below meth c H locs 0 0 (MQ below (sQi G 294 (fun r u => ∃ a2 : Int, u = uF S 12 4 a2 ∧ a ≤ a2 ∧ a2 ≤ S.1 12 3 ∧ (r = 0 ∨ r = 1))) args s 0 0 (sF G)) (F0 m 2 ls []) := by
    intro fuel
    induction fuel with
    | zero => intro i b H locs ls hmeas hi hb2 hW hL hl; exact absurd hmeas (Nat.not_lt_zero _)
    | succ fuel ih_2 =>
      intro i b H locs ls hmeas hi hb2 hW hL hl
      refine lv_iload_n hx hb dX8_valueList_2 rfl (lv_at hl 0 rfl) ?_
      refine lv_aload_n hx hb dX8_valueList_3 rfl (lv_at hl 1 rfl) ?_
      refine g_X8_22 Cx hW (k := 12) (by decide) rfl (v := S.1 12 3) (uF_ne (fun h => absurd h.2 (by decide))) dX8_valueList_4 ?_
      refine r_icmp_ge (tgt := 44) hx hb ⟨(by omega), (by omega)⟩ ⟨(by omega), (by omega)⟩ dX8_valueList_7 (by decide) (fun c_1 => ?_) (fun c_1 => ?_)
      · refine lv_iconst (v := iv 0) hx hb dX8_valueList_44 (by decide) ?_
        exact sZret Cx hr hlk hW hL (by omega) ⟨b, rfl, by omega, by omega, by omega⟩ dX8_valueList_45
      · refine lv_aload_n hx hb dX8_valueList_10 rfl (lv_at hl 1 rfl) ?_
        refine lv_bipush (v := iv 22) hx hb dX8_valueList_11 (by decide) ?_
        refine sBi (sV (As := [.int (iv 22)]) (rest := []) (k := 12) Cx (t_X8_pass l G S hA hS (a := b) (k := 22) (by omega) (by omega)) (c_X8_92 Cx rfl rfl (rmk_ok (by omega) (by decide))) hW (by decide) rfl rfl rfl hl.1 rfl (Nat.le_of_ble_eq_true rfl) dX8_valueList_13 ⟨Nat.le_of_ble_eq_true rfl, Nat.le_of_ble_eq_true rfl⟩) hL (fun r_4 u_2 H locs k_3 hW hL => ?_)
        obtain ⟨au_2, eu_2, xu_2, yu_2, zu_2, vu_2⟩ := k_3
        rw [eu_2] at hW
        refine lv_pop hx hb dX8_valueList_16 rfl ?_
        refine lv_aload_n hx hb dX8_valueList_17 rfl (lv_at hl 1 rfl) ?_
        refine lv_iconst (v := iv 3) hx hb dX8_valueList_18 (by decide) ?_
        refine sBi (sV (As := [.int (iv 3)]) (rest := []) (k := 12) Cx (t_X8_pass l G S hA hS (a := au_2) (k := 3) (by omega) (by omega)) (c_X8_92 Cx rfl rfl (rmk_ok (by omega) (by decide))) hW (by decide) rfl rfl rfl hl.1 rfl (Nat.le_of_ble_eq_true rfl) dX8_valueList_19 ⟨Nat.le_of_ble_eq_true rfl, Nat.le_of_ble_eq_true rfl⟩) hL (fun r_7 u_5 H locs k_6 hW hL => ?_)
        obtain ⟨au_5, eu_5, xu_5, yu_5, zu_5, vu_5⟩ := k_6
        rw [eu_5] at hW
        refine r_if_ne (tgt := 27) hx hb ⟨(by omega), (by omega)⟩ dX8_valueList_22 (by decide) (fun c_8 => ?_) (fun c_8 => ?_)
        · refine lv_aload_n hx hb dX8_valueList_27 rfl (lv_at hl 1 rfl) ?_
          refine lv_bipush (v := iv 16) hx hb dX8_valueList_28 (by decide) ?_
          refine sBi (sV (As := [.int (iv 16)]) (rest := []) (k := 12) Cx (t_X8_pass l G S hA hS (a := au_5) (k := 16) (by omega) (by omega)) (c_X8_92 Cx rfl rfl (rmk_ok (by omega) (by decide))) hW (by decide) rfl rfl rfl hl.1 rfl (Nat.le_of_ble_eq_true rfl) dX8_valueList_30 ⟨Nat.le_of_ble_eq_true rfl, Nat.le_of_ble_eq_true rfl⟩) hL (fun r_11 u_9 H locs k_10 hW hL => ?_)
          obtain ⟨au_9, eu_9, xu_9, yu_9, zu_9, vu_9⟩ := k_10
          rw [eu_9] at hW
          refine r_if_ne (tgt := 38) hx hb ⟨(by omega), (by omega)⟩ dX8_valueList_33 (by decide) (fun c_12 => ?_) (fun c_12 => ?_)
          · refine lv_iinc (v := iv (i + 1)) (lv' := [(1, .int (iv (i + 1))), (0, .ref (G.2.2.1 + 12))]) hx hb dX8_valueList_38 hl (k := 0) rfl ((Int32.ofInt_add _ _).symm) (by decide) rfl (fun ls hl => ?_)
            refine lv_goto (tgt := 2) hx hb dX8_valueList_41 (by decide) ?_
            exact ih_2 (i + 1) au_9 _ _ _ (by omega) (by omega) (by omega) hW hL (lv_sub hl [0, 1] rfl)
          · refine lv_iconst (v := iv 1) hx hb dX8_valueList_36 (by decide) ?_
            exact sZret Cx hr hlk hW hL (by omega) ⟨au_9, rfl, by omega, by omega, by omega⟩ dX8_valueList_37
        · refine lv_iconst (v := iv 0) hx hb dX8_valueList_25 (by decide) ?_
          exact sZret Cx hr hlk hW hL (by omega) ⟨au_5, rfl, by omega, by omega, by omega⟩ dX8_valueList_26
  exact loop_2 (_ + 1) 0 a _ _ _ (Nat.lt_succ_self _) (by omega) (by omega) hW hL (lv_sub hl [0, 1] rfl)

set_option maxRecDepth 100000 in
set_option maxHeartbeats 4000000 in
theorem t_X8_declaration (l : Launch) (G : sG) (S : sS) {a : Int} (hA : SynAt G S) (hS : SynOK S) (ha : 0 ≤ a ∧ a ≤ S.1 12 3) (hlt : a < S.1 12 3) : Met l yX8_declaration (.code yX8_declaration cX8_declaration 2 (some .boolean) :: tb) (rmk 3 0 0) (sPc G 294 (uF S 12 4 a) [.ref (G.2.2.1 + 12)]) (sQi G 294 (fun r u => ∃ a2 : Int, u = uF S 12 4 a2 ∧ a ≤ a2 ∧ a2 ≤ S.1 12 3 ∧ (r = 0 ∨ r = 1))) 0 0 (sF G) := by
  refine sEnter (by decide) (Nat.le_of_ble_eq_true rfl) ?_
  intro p e s m args below meth c Cx hr hlk hnm hW ls hl
  have Cx : sC G p m c cX8_declaration 2 s args RX8 := Cx
  obtain ⟨hx, hb, hml, hown, hts⟩ := id Cx.1
  have hL : sL G [] := sL_nil
  have hl : lv_has ls 2 [(0, .ref (G.2.2.1 + 12))] := hl
  obtain ⟨hr0, hr1, hr2⟩ := id hA
  obtain ⟨ht, hki, hst, hva⟩ := id hS
  refine lv_aload_n hx hb dX8_declaration_0 rfl (lv_at hl 0 rfl) ?_
  refine lv_aload_n hx hb dX8_declaration_1 rfl (lv_at hl 0 rfl) ?_
  refine g_X8_26 Cx hW (k := 12) (by decide) rfl (v := a) uF_on dX8_declaration_2 ?_
  refine sBi (sV (As := [.int (iv a)]) (rest := []) (k := 12) Cx (t_X8_kind l G S hA hS (a := a) (k := a) ⟨by omega, by omega⟩) (c_X8_98 Cx rfl rfl (rmk_ok (by omega) (by decide))) hW (by decide) rfl rfl rfl hl.1 rfl (Nat.le_of_ble_eq_true rfl) dX8_declaration_5 ⟨Nat.le_of_ble_eq_true rfl, Nat.le_of_ble_eq_true rfl⟩) hL (fun r_3 u_1 H locs k_2 hW hL => ?_)
  obtain ⟨eu_1, xu_1, yu_1, zu_1⟩ := k_2
  rw [eu_1] at hW
  refine lv_istore_n (lv' := [(1, .int (iv r_3)), (0, .ref (G.2.2.1 + 12))]) hx hb dX8_declaration_8 rfl hl (by decide) rfl (fun ls hl => ?_)
  refine lv_aload_n hx hb dX8_declaration_9 rfl (lv_at hl 1 rfl) ?_
  refine lv_dup hx hb dX8_declaration_10 rfl ?_
  refine g_X8_26 Cx hW (k := 12) (by decide) rfl (v := a) uF_on dX8_declaration_11 ?_
  refine lv_iconst (v := iv 1) hx hb dX8_declaration_14 (by decide) ?_
  refine r_iadd hx hb dX8_declaration_15 ?_
  refine p_X8_26 Cx hW hL (k := 12) (by decide) rfl dX8_declaration_16 (fun H locs hW hL => ?_)
  rw [uF_uF] at hW
  refine lv_aload_n hx hb dX8_declaration_19 rfl (lv_at hl 1 rfl) ?_
  refine lv_iconst (v := iv 2) hx hb dX8_declaration_20 (by decide) ?_
  refine sBi (sV (As := [.int (iv 2)]) (rest := []) (k := 12) Cx (t_X8_pass l G S hA hS (a := a + 1) (k := 2) (by omega) (by omega)) (c_X8_92 Cx rfl rfl (rmk_ok (by omega) (by decide))) hW (by decide) rfl rfl rfl hl.1 rfl (Nat.le_of_ble_eq_true rfl) dX8_declaration_21 ⟨Nat.le_of_ble_eq_true rfl, Nat.le_of_ble_eq_true rfl⟩) hL (fun r_6 u_4 H locs k_5 hW hL => ?_)
  obtain ⟨au_4, eu_4, xu_4, yu_4, zu_4, vu_4⟩ := k_5
  rw [eu_4] at hW
  refine r_if_ne (tgt := 29) hx hb ⟨(by omega), (by omega)⟩ dX8_declaration_24 (by decide) (fun c_7 => ?_) (fun c_7 => ?_)
  · refine lv_iload_n hx hb dX8_declaration_29 rfl (lv_at hl 0 rfl) ?_
    refine lv_bipush (v := iv 6) hx hb dX8_declaration_30 (by decide) ?_
    refine r_icmp_ne (tgt := 84) hx hb ⟨(by omega), (by omega)⟩ ⟨(by omega), (by omega)⟩ dX8_declaration_32 (by decide) (fun c_8 => ?_) (fun c_8 => ?_)
    · refine lv_aload_n hx hb dX8_declaration_84 rfl (lv_at hl 1 rfl) ?_
      refine sBi (sV (As := []) (rest := []) (k := 12) Cx (t_X8_indexes l G S hA hS (a := au_4) (by omega)) (c_X8_101 Cx rfl rfl (rmk_ok (by omega) (by decide))) hW (by decide) rfl rfl rfl hl.1 rfl (Nat.le_of_ble_eq_true rfl) dX8_declaration_85 ⟨Nat.le_of_ble_eq_true rfl, Nat.le_of_ble_eq_true rfl⟩) hL (fun r_11 u_9 H locs k_10 hW hL => ?_)
      obtain ⟨au_9, eu_9, xu_9, yu_9, zu_9⟩ := k_10
      rw [eu_9] at hW
      refine r_if_ne (tgt := 93) hx hb ⟨(by omega), (by omega)⟩ dX8_declaration_88 (by decide) (fun c_12 => ?_) (fun c_12 => ?_)
      · refine lv_iload_n hx hb dX8_declaration_93 rfl (lv_at hl 0 rfl) ?_
        refine lv_bipush (v := iv 8) hx hb dX8_declaration_94 (by decide) ?_
        refine r_icmp_ne (tgt := 113) hx hb ⟨(by omega), (by omega)⟩ ⟨(by omega), (by omega)⟩ dX8_declaration_96 (by decide) (fun c_13 => ?_) (fun c_13 => ?_)
        · refine lv_aload_n hx hb dX8_declaration_113 rfl (lv_at hl 1 rfl) ?_
          refine lv_bipush (v := iv 13) hx hb dX8_declaration_114 (by decide) ?_
          refine sBi (sV (As := [.int (iv 13)]) (rest := []) (k := 12) Cx (t_X8_pass l G S hA hS (a := au_9) (k := 13) (by omega) (by omega)) (c_X8_92 Cx rfl rfl (rmk_ok (by omega) (by decide))) hW (by decide) rfl rfl rfl hl.1 rfl (Nat.le_of_ble_eq_true rfl) dX8_declaration_116 ⟨Nat.le_of_ble_eq_true rfl, Nat.le_of_ble_eq_true rfl⟩) hL (fun r_16 u_14 H locs k_15 hW hL => ?_)
          obtain ⟨au_14, eu_14, xu_14, yu_14, zu_14, vu_14⟩ := k_15
          rw [eu_14] at hW
          refine r_if_eq (tgt := 142) hx hb ⟨(by omega), (by omega)⟩ dX8_declaration_119 (by decide) (fun c_17 => ?_) (fun c_17 => ?_)
          · refine lv_iconst (v := iv 0) hx hb dX8_declaration_142 (by decide) ?_
            exact sZret Cx hr hlk hW hL (by omega) ⟨au_14, rfl, by omega, by omega, by omega⟩ dX8_declaration_143
          · refine lv_aload_n hx hb dX8_declaration_122 rfl (lv_at hl 1 rfl) ?_
            refine sBi (sV (As := []) (rest := []) (k := 12) Cx (t_X8_valueList l G S hA hS (a := au_14) (by omega)) (c_X8_104 Cx rfl rfl (rmk_ok (by omega) (by decide))) hW (by decide) rfl rfl rfl hl.1 rfl (Nat.le_of_ble_eq_true rfl) dX8_declaration_123 ⟨Nat.le_of_ble_eq_true rfl, Nat.le_of_ble_eq_true rfl⟩) hL (fun r_20 u_18 H locs k_19 hW hL => ?_)
            obtain ⟨au_18, eu_18, xu_18, yu_18, zu_18⟩ := k_19
            rw [eu_18] at hW
            refine r_if_eq (tgt := 142) hx hb ⟨(by omega), (by omega)⟩ dX8_declaration_126 (by decide) (fun c_21 => ?_) (fun c_21 => ?_)
            · refine lv_iconst (v := iv 0) hx hb dX8_declaration_142 (by decide) ?_
              exact sZret Cx hr hlk hW hL (by omega) ⟨au_18, rfl, by omega, by omega, by omega⟩ dX8_declaration_143
            · refine lv_aload_n hx hb dX8_declaration_129 rfl (lv_at hl 1 rfl) ?_
              refine lv_bipush (v := iv 15) hx hb dX8_declaration_130 (by decide) ?_
              refine sBi (sV (As := [.int (iv 15)]) (rest := []) (k := 12) Cx (t_X8_pass l G S hA hS (a := au_18) (k := 15) (by omega) (by omega)) (c_X8_92 Cx rfl rfl (rmk_ok (by omega) (by decide))) hW (by decide) rfl rfl rfl hl.1 rfl (Nat.le_of_ble_eq_true rfl) dX8_declaration_132 ⟨Nat.le_of_ble_eq_true rfl, Nat.le_of_ble_eq_true rfl⟩) hL (fun r_24 u_22 H locs k_23 hW hL => ?_)
              obtain ⟨au_22, eu_22, xu_22, yu_22, zu_22, vu_22⟩ := k_23
              rw [eu_22] at hW
              refine r_if_eq (tgt := 142) hx hb ⟨(by omega), (by omega)⟩ dX8_declaration_135 (by decide) (fun c_25 => ?_) (fun c_25 => ?_)
              · refine lv_iconst (v := iv 0) hx hb dX8_declaration_142 (by decide) ?_
                exact sZret Cx hr hlk hW hL (by omega) ⟨au_22, rfl, by omega, by omega, by omega⟩ dX8_declaration_143
              · refine lv_iconst (v := iv 1) hx hb dX8_declaration_138 (by decide) ?_
                refine lv_goto (tgt := 143) hx hb dX8_declaration_139 (by decide) ?_
                exact sZret Cx hr hlk hW hL (by omega) ⟨au_22, rfl, by omega, by omega, by omega⟩ dX8_declaration_143
        · refine lv_aload_n hx hb dX8_declaration_99 rfl (lv_at hl 1 rfl) ?_
          refine lv_bipush (v := iv 9) hx hb dX8_declaration_100 (by decide) ?_
          refine sBi (sV (As := [.int (iv 9)]) (rest := []) (k := 12) Cx (t_X8_pass l G S hA hS (a := au_9) (k := 9) (by omega) (by omega)) (c_X8_92 Cx rfl rfl (rmk_ok (by omega) (by decide))) hW (by decide) rfl rfl rfl hl.1 rfl (Nat.le_of_ble_eq_true rfl) dX8_declaration_102 ⟨Nat.le_of_ble_eq_true rfl, Nat.le_of_ble_eq_true rfl⟩) hL (fun r_28 u_26 H locs k_27 hW hL => ?_)
          obtain ⟨au_26, eu_26, xu_26, yu_26, zu_26, vu_26⟩ := k_27
          rw [eu_26] at hW
          refine lv_pop hx hb dX8_declaration_105 rfl ?_
          refine lv_aload_n hx hb dX8_declaration_106 rfl (lv_at hl 1 rfl) ?_
          refine lv_bipush (v := iv 15) hx hb dX8_declaration_107 (by decide) ?_
          refine sBi (sV (As := [.int (iv 15)]) (rest := []) (k := 12) Cx (t_X8_pass l G S hA hS (a := au_26) (k := 15) (by omega) (by omega)) (c_X8_92 Cx rfl rfl (rmk_ok (by omega) (by decide))) hW (by decide) rfl rfl rfl hl.1 rfl (Nat.le_of_ble_eq_true rfl) dX8_declaration_109 ⟨Nat.le_of_ble_eq_true rfl, Nat.le_of_ble_eq_true rfl⟩) hL (fun r_31 u_29 H locs k_30 hW hL => ?_)
          obtain ⟨au_29, eu_29, xu_29, yu_29, zu_29, vu_29⟩ := k_30
          rw [eu_29] at hW
          exact sZret Cx hr hlk hW hL (by omega) ⟨au_29, rfl, by omega, by omega, by omega⟩ dX8_declaration_112
      · refine lv_iconst (v := iv 0) hx hb dX8_declaration_91 (by decide) ?_
        exact sZret Cx hr hlk hW hL (by omega) ⟨au_9, rfl, by omega, by omega, by omega⟩ dX8_declaration_92
    · refine lv_aload_n hx hb dX8_declaration_35 rfl (lv_at hl 1 rfl) ?_
      refine lv_bipush (v := iv 13) hx hb dX8_declaration_36 (by decide) ?_
      refine sBi (sV (As := [.int (iv 13)]) (rest := []) (k := 12) Cx (t_X8_pass l G S hA hS (a := au_4) (k := 13) (by omega) (by omega)) (c_X8_92 Cx rfl rfl (rmk_ok (by omega) (by decide))) hW (by decide) rfl rfl rfl hl.1 rfl (Nat.le_of_ble_eq_true rfl) dX8_declaration_38 ⟨Nat.le_of_ble_eq_true rfl, Nat.le_of_ble_eq_true rfl⟩) hL (fun r_34 u_32 H locs k_33 hW hL => ?_)
      obtain ⟨au_32, eu_32, xu_32, yu_32, zu_32, vu_32⟩ := k_33
      rw [eu_32] at hW
      refine r_if_eq (tgt := 82) hx hb ⟨(by omega), (by omega)⟩ dX8_declaration_41 (by decide) (fun c_35 => ?_) (fun c_35 => ?_)
      · refine lv_iconst (v := iv 0) hx hb dX8_declaration_82 (by decide) ?_
        exact sZret Cx hr hlk hW hL (by omega) ⟨au_32, rfl, by omega, by omega, by omega⟩ dX8_declaration_83
      · refine lv_aload_n hx hb dX8_declaration_44 rfl (lv_at hl 1 rfl) ?_
        refine lv_iconst (v := iv 3) hx hb dX8_declaration_45 (by decide) ?_
        refine sBi (sV (As := [.int (iv 3)]) (rest := []) (k := 12) Cx (t_X8_pass l G S hA hS (a := au_32) (k := 3) (by omega) (by omega)) (c_X8_92 Cx rfl rfl (rmk_ok (by omega) (by decide))) hW (by decide) rfl rfl rfl hl.1 rfl (Nat.le_of_ble_eq_true rfl) dX8_declaration_46 ⟨Nat.le_of_ble_eq_true rfl, Nat.le_of_ble_eq_true rfl⟩) hL (fun r_38 u_36 H locs k_37 hW hL => ?_)
        obtain ⟨au_36, eu_36, xu_36, yu_36, zu_36, vu_36⟩ := k_37
        rw [eu_36] at hW
        refine r_if_eq (tgt := 82) hx hb ⟨(by omega), (by omega)⟩ dX8_declaration_49 (by decide) (fun c_39 => ?_) (fun c_39 => ?_)
        · refine lv_iconst (v := iv 0) hx hb dX8_declaration_82 (by decide) ?_
          exact sZret Cx hr hlk hW hL (by omega) ⟨au_36, rfl, by omega, by omega, by omega⟩ dX8_declaration_83
        · refine lv_aload_n hx hb dX8_declaration_52 rfl (lv_at hl 1 rfl) ?_
          refine lv_bipush (v := iv 14) hx hb dX8_declaration_53 (by decide) ?_
          refine sBi (sV (As := [.int (iv 14)]) (rest := []) (k := 12) Cx (t_X8_pass l G S hA hS (a := au_36) (k := 14) (by omega) (by omega)) (c_X8_92 Cx rfl rfl (rmk_ok (by omega) (by decide))) hW (by decide) rfl rfl rfl hl.1 rfl (Nat.le_of_ble_eq_true rfl) dX8_declaration_55 ⟨Nat.le_of_ble_eq_true rfl, Nat.le_of_ble_eq_true rfl⟩) hL (fun r_42 u_40 H locs k_41 hW hL => ?_)
          obtain ⟨au_40, eu_40, xu_40, yu_40, zu_40, vu_40⟩ := k_41
          rw [eu_40] at hW
          refine r_if_eq (tgt := 82) hx hb ⟨(by omega), (by omega)⟩ dX8_declaration_58 (by decide) (fun c_43 => ?_) (fun c_43 => ?_)
          · refine lv_iconst (v := iv 0) hx hb dX8_declaration_82 (by decide) ?_
            exact sZret Cx hr hlk hW hL (by omega) ⟨au_40, rfl, by omega, by omega, by omega⟩ dX8_declaration_83
          · refine lv_aload_n hx hb dX8_declaration_61 rfl (lv_at hl 1 rfl) ?_
            refine lv_iconst (v := iv 3) hx hb dX8_declaration_62 (by decide) ?_
            refine sBi (sV (As := [.int (iv 3)]) (rest := []) (k := 12) Cx (t_X8_pass l G S hA hS (a := au_40) (k := 3) (by omega) (by omega)) (c_X8_92 Cx rfl rfl (rmk_ok (by omega) (by decide))) hW (by decide) rfl rfl rfl hl.1 rfl (Nat.le_of_ble_eq_true rfl) dX8_declaration_63 ⟨Nat.le_of_ble_eq_true rfl, Nat.le_of_ble_eq_true rfl⟩) hL (fun r_46 u_44 H locs k_45 hW hL => ?_)
            obtain ⟨au_44, eu_44, xu_44, yu_44, zu_44, vu_44⟩ := k_45
            rw [eu_44] at hW
            refine r_if_eq (tgt := 82) hx hb ⟨(by omega), (by omega)⟩ dX8_declaration_66 (by decide) (fun c_47 => ?_) (fun c_47 => ?_)
            · refine lv_iconst (v := iv 0) hx hb dX8_declaration_82 (by decide) ?_
              exact sZret Cx hr hlk hW hL (by omega) ⟨au_44, rfl, by omega, by omega, by omega⟩ dX8_declaration_83
            · refine lv_aload_n hx hb dX8_declaration_69 rfl (lv_at hl 1 rfl) ?_
              refine lv_bipush (v := iv 15) hx hb dX8_declaration_70 (by decide) ?_
              refine sBi (sV (As := [.int (iv 15)]) (rest := []) (k := 12) Cx (t_X8_pass l G S hA hS (a := au_44) (k := 15) (by omega) (by omega)) (c_X8_92 Cx rfl rfl (rmk_ok (by omega) (by decide))) hW (by decide) rfl rfl rfl hl.1 rfl (Nat.le_of_ble_eq_true rfl) dX8_declaration_72 ⟨Nat.le_of_ble_eq_true rfl, Nat.le_of_ble_eq_true rfl⟩) hL (fun r_50 u_48 H locs k_49 hW hL => ?_)
              obtain ⟨au_48, eu_48, xu_48, yu_48, zu_48, vu_48⟩ := k_49
              rw [eu_48] at hW
              refine r_if_eq (tgt := 82) hx hb ⟨(by omega), (by omega)⟩ dX8_declaration_75 (by decide) (fun c_51 => ?_) (fun c_51 => ?_)
              · refine lv_iconst (v := iv 0) hx hb dX8_declaration_82 (by decide) ?_
                exact sZret Cx hr hlk hW hL (by omega) ⟨au_48, rfl, by omega, by omega, by omega⟩ dX8_declaration_83
              · refine lv_iconst (v := iv 1) hx hb dX8_declaration_78 (by decide) ?_
                refine lv_goto (tgt := 83) hx hb dX8_declaration_79 (by decide) ?_
                exact sZret Cx hr hlk hW hL (by omega) ⟨au_48, rfl, by omega, by omega, by omega⟩ dX8_declaration_83
  · refine lv_iconst (v := iv 0) hx hb dX8_declaration_27 (by decide) ?_
    exact sZret Cx hr hlk hW hL (by omega) ⟨au_4, rfl, by omega, by omega, by omega⟩ dX8_declaration_28
