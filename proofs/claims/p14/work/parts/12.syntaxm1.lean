/-! Syntax: 12 the object, 13 kinds, 14 starts, 15 values -/
def SynOK (S : sS) : Prop := (0 ≤ S.1 12 3 ∧ S.1 12 3 ≤ 2001) ∧ (∀ i : Int, 0 ≤ i → i < 2001 → 0 ≤ S.2.1 13 i ∧ S.2.1 13 i ≤ 26) ∧ (∀ i : Int, 0 ≤ i → i < 2001 → 0 ≤ S.2.1 14 i ∧ S.2.1 14 i ≤ 2000) ∧ ∀ i : Int, 0 ≤ i → i < 2001 → -9223372036854775808 ≤ S.2.2.1 15 i ∧ S.2.2.1 15 i ≤ 9223372036854775807
def SynAt (G : sG) (S : sS) : Prop := S.2.2.2 12 0 = .ref (G.2.2.1 + 13) ∧ S.2.2.2 12 1 = .ref (G.2.2.1 + 14) ∧ S.2.2.2 12 2 = .ref (G.2.2.1 + 15)
def ExprC (l : Launch) (G : sG) (S : sS) (D : Nat) (dd : Int) : Prop := ∀ a : Int, 0 ≤ a ∧ a ≤ S.1 12 3 → Met l yX8_expression (.code yX8_expression cX8_expression 3 (some .boolean) :: tb) (rmk D 0 0) (sPc G 294 (uF S 12 4 a) [.ref (G.2.2.1 + 12), .int (iv dd)]) (sQi G 294 (fun r u => ∃ a2 : Int, u = uF S 12 4 a2 ∧ a ≤ a2 ∧ a2 ≤ S.1 12 3 ∧ (r = 0 ∨ r = 1))) 0 0 (sF G)
def TermC (l : Launch) (G : sG) (S : sS) (D : Nat) (dd : Int) : Prop := ∀ a : Int, 0 ≤ a ∧ a ≤ S.1 12 3 → Met l yX8_term (.code yX8_term cX8_term 3 (some .boolean) :: tb) (rmk D 0 0) (sPc G 294 (uF S 12 4 a) [.ref (G.2.2.1 + 12), .int (iv dd)]) (sQi G 294 (fun r u => ∃ a2 : Int, u = uF S 12 4 a2 ∧ a ≤ a2 ∧ a2 ≤ S.1 12 3 ∧ (r = 0 ∨ r = 1))) 0 0 (sF G)
def FactC (l : Launch) (G : sG) (S : sS) (D : Nat) (dd : Int) : Prop := ∀ a : Int, 0 ≤ a ∧ a ≤ S.1 12 3 → Met l yX8_factor (.code yX8_factor cX8_factor 2 (some .boolean) :: tb) (rmk D 0 0) (sPc G 294 (uF S 12 4 a) [.ref (G.2.2.1 + 12), .int (iv dd)]) (sQi G 294 (fun r u => ∃ a2 : Int, u = uF S 12 4 a2 ∧ a ≤ a2 ∧ a2 ≤ S.1 12 3 ∧ (r = 0 ∨ r = 1))) 0 0 (sF G)
set_option maxRecDepth 100000 in
set_option maxHeartbeats 4000000 in
theorem t_X8_kind (l : Launch) (G : sG) (S : sS) {a k : Int} (hA : SynAt G S) (hS : SynOK S) (hk : -2147483648 ≤ k ∧ k ≤ 2147483647) : Met l yX8_kind (.code yX8_kind cX8_kind 2 (some .int) :: tb) (rmk 1 0 0) (sPc G 294 (uF S 12 4 a) [.ref (G.2.2.1 + 12), .int (iv k)]) (sQi G 294 (fun r u => u = uF S 12 4 a ∧ 0 ≤ r ∧ r ≤ 26 ∧ (r ≠ 0 → 0 ≤ k ∧ k < S.1 12 3))) 0 0 (sF G) := by
  refine sEnter (by decide) (Nat.le_of_ble_eq_true rfl) ?_
  intro p e s m args below meth c Cx hr hlk hnm hW ls hl
  have Cx : sC G p m c cX8_kind 2 s args RX8 := Cx
  obtain ⟨hx, hb, hml, hown, hts⟩ := id Cx.1
  have hL : sL G [] := sL_nil
  have hl : lv_has ls 2 [(0, .ref (G.2.2.1 + 12)), (1, .int (iv k))] := hl
  obtain ⟨hr0, hr1, hr2⟩ := id hA
  obtain ⟨ht, hki, hst, hva⟩ := id hS
  refine lv_iload_n hx hb dX8_kind_0 rfl (lv_at hl 1 rfl) ?_
  refine r_if_lt (tgt := 21) hx hb ⟨(by omega), (by omega)⟩ dX8_kind_1 (by decide) (fun c_1 => ?_) (fun c_1 => ?_)
  · refine lv_iconst (v := iv 0) hx hb dX8_kind_21 (by decide) ?_
    exact sIret Cx hr hlk hW hL ⟨rfl, by omega, by omega, by omega⟩ dX8_kind_22
  · refine lv_iload_n hx hb dX8_kind_4 rfl (lv_at hl 1 rfl) ?_
    refine lv_aload_n hx hb dX8_kind_5 rfl (lv_at hl 0 rfl) ?_
    refine g_X8_22 Cx hW (k := 12) (by decide) rfl (v := S.1 12 3) (uF_ne (fun h => absurd h.2 (by decide))) dX8_kind_6 ?_
    refine r_icmp_ge (tgt := 21) hx hb ⟨(by omega), (by omega)⟩ ⟨(by omega), (by omega)⟩ dX8_kind_9 (by decide) (fun c_2 => ?_) (fun c_2 => ?_)
    · refine lv_iconst (v := iv 0) hx hb dX8_kind_21 (by decide) ?_
      exact sIret Cx hr hlk hW hL ⟨rfl, by omega, by omega, by omega⟩ dX8_kind_22
    · refine lv_aload_n hx hb dX8_kind_12 rfl (lv_at hl 0 rfl) ?_
      refine g_X8_11 Cx hW (k := 12) (by decide) rfl (v := .ref (G.2.2.1 + 13)) hr0 dX8_kind_13 ?_
      refine lv_iload_n hx hb dX8_kind_16 rfl (lv_at hl 1 rfl) ?_
      refine rIald Cx hW (k := 13) (by decide) rfl (by decide) (by omega) (by omega) dX8_kind_17 ?_
      refine r_i (b := S.2.1 13 k) rfl ?_
      have q_3 := hki k (by omega) (by omega)
      refine lv_goto (tgt := 22) hx hb dX8_kind_18 (by decide) ?_
      exact sIret Cx hr hlk hW hL ⟨rfl, by omega, by omega, by omega⟩ dX8_kind_22

set_option maxRecDepth 100000 in
set_option maxHeartbeats 4000000 in
theorem t_X8_is (l : Launch) (G : sG) (S : sS) {a k : Int} (hA : SynAt G S) (hS : SynOK S) (ha : 0 ≤ a ∧ a ≤ S.1 12 3) (hk : 0 ≤ k ∧ k ≤ 26) : Met l yX8_is (.code yX8_is cX8_is 2 (some .boolean) :: tb) (rmk 1 0 0) (sPc G 294 (uF S 12 4 a) [.ref (G.2.2.1 + 12), .int (iv k)]) (sQi G 294 (fun r u => u = uF S 12 4 a ∧ (r = 0 ∨ r = 1) ∧ (r = 1 → a < S.1 12 3))) 0 0 (sF G) := by
  refine sEnter (by decide) (Nat.le_of_ble_eq_true rfl) ?_
  intro p e s m args below meth c Cx hr hlk hnm hW ls hl
  have Cx : sC G p m c cX8_is 2 s args RX8 := Cx
  obtain ⟨hx, hb, hml, hown, hts⟩ := id Cx.1
  have hL : sL G [] := sL_nil
  have hl : lv_has ls 2 [(0, .ref (G.2.2.1 + 12)), (1, .int (iv k))] := hl
  obtain ⟨hr0, hr1, hr2⟩ := id hA
  obtain ⟨ht, hki, hst, hva⟩ := id hS
  refine lv_aload_n hx hb dX8_is_0 rfl (lv_at hl 0 rfl) ?_
  refine g_X8_26 Cx hW (k := 12) (by decide) rfl (v := a) uF_on dX8_is_1 ?_
  refine lv_aload_n hx hb dX8_is_4 rfl (lv_at hl 0 rfl) ?_
  refine g_X8_22 Cx hW (k := 12) (by decide) rfl (v := S.1 12 3) (uF_ne (fun h => absurd h.2 (by decide))) dX8_is_5 ?_
  refine r_icmp_ge (tgt := 28) hx hb ⟨(by omega), (by omega)⟩ ⟨(by omega), (by omega)⟩ dX8_is_8 (by decide) (fun c_1 => ?_) (fun c_1 => ?_)
  · refine lv_iconst (v := iv 0) hx hb dX8_is_28 (by decide) ?_
    exact sZret Cx hr hlk hW hL (by omega) ⟨rfl, by omega, by omega⟩ dX8_is_29
  · refine lv_aload_n hx hb dX8_is_11 rfl (lv_at hl 0 rfl) ?_
    refine g_X8_11 Cx hW (k := 12) (by decide) rfl (v := .ref (G.2.2.1 + 13)) hr0 dX8_is_12 ?_
    refine lv_aload_n hx hb dX8_is_15 rfl (lv_at hl 0 rfl) ?_
    refine g_X8_26 Cx hW (k := 12) (by decide) rfl (v := a) uF_on dX8_is_16 ?_
    refine rIald Cx hW (k := 13) (by decide) rfl (by decide) (by omega) (by omega) dX8_is_19 ?_
    refine r_i (b := S.2.1 13 a) rfl ?_
    have q_2 := hki a (by omega) (by omega)
    refine lv_iload_n hx hb dX8_is_20 rfl (lv_at hl 1 rfl) ?_
    refine r_icmp_ne (tgt := 28) hx hb ⟨(by omega), (by omega)⟩ ⟨(by omega), (by omega)⟩ dX8_is_21 (by decide) (fun c_3 => ?_) (fun c_3 => ?_)
    · refine lv_iconst (v := iv 0) hx hb dX8_is_28 (by decide) ?_
      exact sZret Cx hr hlk hW hL (by omega) ⟨rfl, by omega, by omega⟩ dX8_is_29
    · refine lv_iconst (v := iv 1) hx hb dX8_is_24 (by decide) ?_
      refine lv_goto (tgt := 29) hx hb dX8_is_25 (by decide) ?_
      exact sZret Cx hr hlk hW hL (by omega) ⟨rfl, by omega, by omega⟩ dX8_is_29

set_option maxRecDepth 100000 in
set_option maxHeartbeats 4000000 in
theorem t_X8_pass (l : Launch) (G : sG) (S : sS) {a k : Int} (hA : SynAt G S) (hS : SynOK S) (ha : 0 ≤ a ∧ a ≤ S.1 12 3) (hk : 0 ≤ k ∧ k ≤ 26) : Met l yX8_pass (.code yX8_pass cX8_pass 2 (some .boolean) :: tb) (rmk 1 0 0) (sPc G 294 (uF S 12 4 a) [.ref (G.2.2.1 + 12), .int (iv k)]) (sQi G 294 (fun r u => ∃ a2 : Int, u = uF S 12 4 a2 ∧ a ≤ a2 ∧ a2 ≤ S.1 12 3 ∧ (r = 0 ∨ r = 1) ∧ (r = 1 → a2 = a + 1))) 0 0 (sF G) := by
  refine sEnter (by decide) (Nat.le_of_ble_eq_true rfl) ?_
  intro p e s m args below meth c Cx hr hlk hnm hW ls hl
  have Cx : sC G p m c cX8_pass 2 s args RX8 := Cx
  obtain ⟨hx, hb, hml, hown, hts⟩ := id Cx.1
  have hL : sL G [] := sL_nil
  have hl : lv_has ls 2 [(0, .ref (G.2.2.1 + 12)), (1, .int (iv k))] := hl
  obtain ⟨hr0, hr1, hr2⟩ := id hA
  obtain ⟨ht, hki, hst, hva⟩ := id hS
  refine lv_aload_n hx hb dX8_pass_0 rfl (lv_at hl 0 rfl) ?_
  refine g_X8_26 Cx hW (k := 12) (by decide) rfl (v := a) uF_on dX8_pass_1 ?_
  refine lv_aload_n hx hb dX8_pass_4 rfl (lv_at hl 0 rfl) ?_
  refine g_X8_22 Cx hW (k := 12) (by decide) rfl (v := S.1 12 3) (uF_ne (fun h => absurd h.2 (by decide))) dX8_pass_5 ?_
  refine r_icmp_ge (tgt := 24) hx hb ⟨(by omega), (by omega)⟩ ⟨(by omega), (by omega)⟩ dX8_pass_8 (by decide) (fun c_1 => ?_) (fun c_1 => ?_)
  · refine lv_iconst (v := iv 0) hx hb dX8_pass_24 (by decide) ?_
    exact sZret Cx hr hlk hW hL (by omega) ⟨a, rfl, by omega, by omega, by omega, by omega⟩ dX8_pass_25
  · refine lv_aload_n hx hb dX8_pass_11 rfl (lv_at hl 0 rfl) ?_
    refine g_X8_11 Cx hW (k := 12) (by decide) rfl (v := .ref (G.2.2.1 + 13)) hr0 dX8_pass_12 ?_
    refine lv_aload_n hx hb dX8_pass_15 rfl (lv_at hl 0 rfl) ?_
    refine g_X8_26 Cx hW (k := 12) (by decide) rfl (v := a) uF_on dX8_pass_16 ?_
    refine rIald Cx hW (k := 13) (by decide) rfl (by decide) (by omega) (by omega) dX8_pass_19 ?_
    refine r_i (b := S.2.1 13 a) rfl ?_
    have q_2 := hki a (by omega) (by omega)
    refine lv_iload_n hx hb dX8_pass_20 rfl (lv_at hl 1 rfl) ?_
    refine r_icmp_eq (tgt := 26) hx hb ⟨(by omega), (by omega)⟩ ⟨(by omega), (by omega)⟩ dX8_pass_21 (by decide) (fun c_3 => ?_) (fun c_3 => ?_)
    · refine lv_aload_n hx hb dX8_pass_26 rfl (lv_at hl 0 rfl) ?_
      refine lv_dup hx hb dX8_pass_27 rfl ?_
      refine g_X8_26 Cx hW (k := 12) (by decide) rfl (v := a) uF_on dX8_pass_28 ?_
      refine lv_iconst (v := iv 1) hx hb dX8_pass_31 (by decide) ?_
      refine r_iadd hx hb dX8_pass_32 ?_
      refine p_X8_26 Cx hW hL (k := 12) (by decide) rfl dX8_pass_33 (fun H locs hW hL => ?_)
      rw [uF_uF] at hW
      refine lv_iconst (v := iv 1) hx hb dX8_pass_36 (by decide) ?_
      exact sZret Cx hr hlk hW hL (by omega) ⟨a + 1, rfl, by omega, by omega, by omega, by omega⟩ dX8_pass_37
    · refine lv_iconst (v := iv 0) hx hb dX8_pass_24 (by decide) ?_
      exact sZret Cx hr hlk hW hL (by omega) ⟨a, rfl, by omega, by omega, by omega, by omega⟩ dX8_pass_25

set_option maxRecDepth 100000 in
set_option maxHeartbeats 4000000 in
theorem t_X8_item (l : Launch) (G : sG) (S : sS) {a : Int} (hA : SynAt G S) (hS : SynOK S) (ha : 0 ≤ a ∧ a ≤ S.1 12 3) : Met l yX8_item (.code yX8_item cX8_item 1 (some .boolean) :: tb) (rmk 2 0 0) (sPc G 294 (uF S 12 4 a) [.ref (G.2.2.1 + 12)]) (sQi G 294 (fun r u => ∃ a2 : Int, u = uF S 12 4 a2 ∧ a ≤ a2 ∧ a2 ≤ S.1 12 3 ∧ (r = 0 ∨ r = 1))) 0 0 (sF G) := by
  refine sEnter (by decide) (Nat.le_of_ble_eq_true rfl) ?_
  intro p e s m args below meth c Cx hr hlk hnm hW ls hl
  have Cx : sC G p m c cX8_item 1 s args RX8 := Cx
  obtain ⟨hx, hb, hml, hown, hts⟩ := id Cx.1
  have hL : sL G [] := sL_nil
  have hl : lv_has ls 1 [(0, .ref (G.2.2.1 + 12))] := hl
  obtain ⟨hr0, hr1, hr2⟩ := id hA
  obtain ⟨ht, hki, hst, hva⟩ := id hS
  refine lv_aload_n hx hb dX8_item_0 rfl (lv_at hl 0 rfl) ?_
  refine lv_iconst (v := iv 3) hx hb dX8_item_1 (by decide) ?_
  refine sBi (sV (As := [.int (iv 3)]) (rest := []) (k := 12) Cx (t_X8_pass l G S hA hS (a := a) (k := 3) (by omega) (by omega)) (c_X8_92 Cx rfl rfl (rmk_ok (by omega) (by decide))) hW (by decide) rfl rfl rfl hl.1 rfl (Nat.le_of_ble_eq_true rfl) dX8_item_2 ⟨Nat.le_of_ble_eq_true rfl, Nat.le_of_ble_eq_true rfl⟩) hL (fun r_3 u_1 H locs k_2 hW hL => ?_)
  obtain ⟨au_1, eu_1, xu_1, yu_1, zu_1, vu_1⟩ := k_2
  rw [eu_1] at hW
  refine r_if_eq (tgt := 10) hx hb ⟨(by omega), (by omega)⟩ dX8_item_5 (by decide) (fun c_4 => ?_) (fun c_4 => ?_)
  · refine lv_aload_n hx hb dX8_item_10 rfl (lv_at hl 0 rfl) ?_
    refine lv_iconst (v := iv 2) hx hb dX8_item_11 (by decide) ?_
    refine sBi (sV (As := [.int (iv 2)]) (rest := []) (k := 12) Cx (t_X8_pass l G S hA hS (a := au_1) (k := 2) (by omega) (by omega)) (c_X8_92 Cx rfl rfl (rmk_ok (by omega) (by decide))) hW (by decide) rfl rfl rfl hl.1 rfl (Nat.le_of_ble_eq_true rfl) dX8_item_12 ⟨Nat.le_of_ble_eq_true rfl, Nat.le_of_ble_eq_true rfl⟩) hL (fun r_7 u_5 H locs k_6 hW hL => ?_)
    obtain ⟨au_5, eu_5, xu_5, yu_5, zu_5, vu_5⟩ := k_6
    rw [eu_5] at hW
    refine r_if_ne (tgt := 20) hx hb ⟨(by omega), (by omega)⟩ dX8_item_15 (by decide) (fun c_8 => ?_) (fun c_8 => ?_)
    · refine lv_aload_n hx hb dX8_item_20 rfl (lv_at hl 0 rfl) ?_
      refine lv_bipush (v := iv 21) hx hb dX8_item_21 (by decide) ?_
      refine sBi (sV (As := [.int (iv 21)]) (rest := []) (k := 12) Cx (t_X8_is l G S hA hS (a := au_5) (k := 21) (by omega) (by omega)) (c_X8_82 Cx rfl rfl (rmk_ok (by omega) (by decide))) hW (by decide) rfl rfl rfl hl.1 rfl (Nat.le_of_ble_eq_true rfl) dX8_item_23 ⟨Nat.le_of_ble_eq_true rfl, Nat.le_of_ble_eq_true rfl⟩) hL (fun r_11 u_9 H locs k_10 hW hL => ?_)
      obtain ⟨eu_9, xu_9, yu_9⟩ := k_10
      rw [eu_9] at hW
      refine r_if_ne (tgt := 38) hx hb ⟨(by omega), (by omega)⟩ dX8_item_26 (by decide) (fun c_12 => ?_) (fun c_12 => ?_)
      · refine lv_aload_n hx hb dX8_item_38 rfl (lv_at hl 0 rfl) ?_
        refine lv_dup hx hb dX8_item_39 rfl ?_
        refine g_X8_26 Cx hW (k := 12) (by decide) rfl (v := au_5) uF_on dX8_item_40 ?_
        refine lv_iconst (v := iv 1) hx hb dX8_item_43 (by decide) ?_
        refine r_iadd hx hb dX8_item_44 ?_
        refine p_X8_26 Cx hW hL (k := 12) (by decide) rfl dX8_item_45 (fun H locs hW hL => ?_)
        rw [uF_uF] at hW
        refine lv_aload_n hx hb dX8_item_48 rfl (lv_at hl 0 rfl) ?_
        refine lv_iconst (v := iv 3) hx hb dX8_item_49 (by decide) ?_
        refine sBi (sV (As := [.int (iv 3)]) (rest := []) (k := 12) Cx (t_X8_pass l G S hA hS (a := au_5 + 1) (k := 3) (by omega) (by omega)) (c_X8_92 Cx rfl rfl (rmk_ok (by omega) (by decide))) hW (by decide) rfl rfl rfl hl.1 rfl (Nat.le_of_ble_eq_true rfl) dX8_item_50 ⟨Nat.le_of_ble_eq_true rfl, Nat.le_of_ble_eq_true rfl⟩) hL (fun r_15 u_13 H locs k_14 hW hL => ?_)
        obtain ⟨au_13, eu_13, xu_13, yu_13, zu_13, vu_13⟩ := k_14
        rw [eu_13] at hW
        exact sZret Cx hr hlk hW hL (by omega) ⟨au_13, rfl, by omega, by omega, by omega⟩ dX8_item_53
      · refine lv_aload_n hx hb dX8_item_29 rfl (lv_at hl 0 rfl) ?_
        refine lv_bipush (v := iv 22) hx hb dX8_item_30 (by decide) ?_
        refine sBi (sV (As := [.int (iv 22)]) (rest := []) (k := 12) Cx (t_X8_is l G S hA hS (a := au_5) (k := 22) (by omega) (by omega)) (c_X8_82 Cx rfl rfl (rmk_ok (by omega) (by decide))) hW (by decide) rfl rfl rfl hl.1 rfl (Nat.le_of_ble_eq_true rfl) dX8_item_32 ⟨Nat.le_of_ble_eq_true rfl, Nat.le_of_ble_eq_true rfl⟩) hL (fun r_18 u_16 H locs k_17 hW hL => ?_)
        obtain ⟨eu_16, xu_16, yu_16⟩ := k_17
        rw [eu_16] at hW
        refine r_if_eq (tgt := 54) hx hb ⟨(by omega), (by omega)⟩ dX8_item_35 (by decide) (fun c_19 => ?_) (fun c_19 => ?_)
        · refine lv_iconst (v := iv 1) hx hb dX8_item_54 (by decide) ?_
          exact sZret Cx hr hlk hW hL (by omega) ⟨au_5, rfl, by omega, by omega, by omega⟩ dX8_item_55
        · refine lv_aload_n hx hb dX8_item_38 rfl (lv_at hl 0 rfl) ?_
          refine lv_dup hx hb dX8_item_39 rfl ?_
          refine g_X8_26 Cx hW (k := 12) (by decide) rfl (v := au_5) uF_on dX8_item_40 ?_
          refine lv_iconst (v := iv 1) hx hb dX8_item_43 (by decide) ?_
          refine r_iadd hx hb dX8_item_44 ?_
          refine p_X8_26 Cx hW hL (k := 12) (by decide) rfl dX8_item_45 (fun H locs hW hL => ?_)
          rw [uF_uF] at hW
          refine lv_aload_n hx hb dX8_item_48 rfl (lv_at hl 0 rfl) ?_
          refine lv_iconst (v := iv 3) hx hb dX8_item_49 (by decide) ?_
          refine sBi (sV (As := [.int (iv 3)]) (rest := []) (k := 12) Cx (t_X8_pass l G S hA hS (a := au_5 + 1) (k := 3) (by omega) (by omega)) (c_X8_92 Cx rfl rfl (rmk_ok (by omega) (by decide))) hW (by decide) rfl rfl rfl hl.1 rfl (Nat.le_of_ble_eq_true rfl) dX8_item_50 ⟨Nat.le_of_ble_eq_true rfl, Nat.le_of_ble_eq_true rfl⟩) hL (fun r_22 u_20 H locs k_21 hW hL => ?_)
          obtain ⟨au_20, eu_20, xu_20, yu_20, zu_20, vu_20⟩ := k_21
          rw [eu_20] at hW
          exact sZret Cx hr hlk hW hL (by omega) ⟨au_20, rfl, by omega, by omega, by omega⟩ dX8_item_53
    · refine lv_iconst (v := iv 0) hx hb dX8_item_18 (by decide) ?_
      exact sZret Cx hr hlk hW hL (by omega) ⟨au_5, rfl, by omega, by omega, by omega⟩ dX8_item_19
  · refine lv_iconst (v := iv 1) hx hb dX8_item_8 (by decide) ?_
    exact sZret Cx hr hlk hW hL (by omega) ⟨au_1, rfl, by omega, by omega, by omega⟩ dX8_item_9

set_option maxRecDepth 100000 in
set_option maxHeartbeats 4000000 in
theorem t_X8_items (l : Launch) (G : sG) (S : sS) {a : Int} (hA : SynAt G S) (hS : SynOK S) (ha : 0 ≤ a ∧ a ≤ S.1 12 3) : Met l yX8_items (.code yX8_items cX8_items 1 (some .boolean) :: tb) (rmk 3 0 0) (sPc G 294 (uF S 12 4 a) [.ref (G.2.2.1 + 12)]) (sQi G 294 (fun r u => ∃ a2 : Int, u = uF S 12 4 a2 ∧ a ≤ a2 ∧ a2 ≤ S.1 12 3 ∧ (r = 0 ∨ r = 1))) 0 0 (sF G) := by
  refine sEnter (by decide) (Nat.le_of_ble_eq_true rfl) ?_
  intro p e s m args below meth c Cx hr hlk hnm hW ls hl
  have Cx : sC G p m c cX8_items 1 s args RX8 := Cx
  obtain ⟨hx, hb, hml, hown, hts⟩ := id Cx.1
  have hL : sL G [] := sL_nil
  have hl : lv_has ls 1 [(0, .ref (G.2.2.1 + 12))] := hl
  obtain ⟨hr0, hr1, hr2⟩ := id hA
  obtain ⟨ht, hki, hst, hva⟩ := id hS
  refine lv_aload_n hx hb dX8_items_0 rfl (lv_at hl 0 rfl) ?_
  refine sBi (sV (As := []) (rest := []) (k := 12) Cx (t_X8_item l G S hA hS (a := a) (by omega)) (c_X8_116 Cx rfl rfl (rmk_ok (by omega) (by decide))) hW (by decide) rfl rfl rfl hl.1 rfl (Nat.le_of_ble_eq_true rfl) dX8_items_1 ⟨Nat.le_of_ble_eq_true rfl, Nat.le_of_ble_eq_true rfl⟩) hL (fun r_3 u_1 H locs k_2 hW hL => ?_)
  obtain ⟨au_1, eu_1, xu_1, yu_1, zu_1⟩ := k_2
  rw [eu_1] at hW
  refine r_if_ne (tgt := 9) hx hb ⟨(by omega), (by omega)⟩ dX8_items_4 (by decide) (fun c_4 => ?_) (fun c_4 => ?_)
  · refine lv_aload_n hx hb dX8_items_9 rfl (lv_at hl 0 rfl) ?_
    refine lv_bipush (v := iv 16) hx hb dX8_items_10 (by decide) ?_
    refine sBi (sV (As := [.int (iv 16)]) (rest := []) (k := 12) Cx (t_X8_pass l G S hA hS (a := au_1) (k := 16) (by omega) (by omega)) (c_X8_92 Cx rfl rfl (rmk_ok (by omega) (by decide))) hW (by decide) rfl rfl rfl hl.1 rfl (Nat.le_of_ble_eq_true rfl) dX8_items_12 ⟨Nat.le_of_ble_eq_true rfl, Nat.le_of_ble_eq_true rfl⟩) hL (fun r_7 u_5 H locs k_6 hW hL => ?_)
    obtain ⟨au_5, eu_5, xu_5, yu_5, zu_5, vu_5⟩ := k_6
    rw [eu_5] at hW
    refine r_if_eq (tgt := 27) hx hb ⟨(by omega), (by omega)⟩ dX8_items_15 (by decide) (fun c_8 => ?_) (fun c_8 => ?_)
    · refine lv_aload_n hx hb dX8_items_27 rfl (lv_at hl 0 rfl) ?_
      refine lv_bipush (v := iv 18) hx hb dX8_items_28 (by decide) ?_
      refine sBi (sV (As := [.int (iv 18)]) (rest := []) (k := 12) Cx (t_X8_pass l G S hA hS (a := au_5) (k := 18) (by omega) (by omega)) (c_X8_92 Cx rfl rfl (rmk_ok (by omega) (by decide))) hW (by decide) rfl rfl rfl hl.1 rfl (Nat.le_of_ble_eq_true rfl) dX8_items_30 ⟨Nat.le_of_ble_eq_true rfl, Nat.le_of_ble_eq_true rfl⟩) hL (fun r_11 u_9 H locs k_10 hW hL => ?_)
      obtain ⟨au_9, eu_9, xu_9, yu_9, zu_9, vu_9⟩ := k_10
      rw [eu_9] at hW
      exact sZret Cx hr hlk hW hL (by omega) ⟨au_9, rfl, by omega, by omega, by omega⟩ dX8_items_33
    · refine lv_aload_n hx hb dX8_items_18 rfl (lv_at hl 0 rfl) ?_
      refine sBi (sV (As := []) (rest := []) (k := 12) Cx (t_X8_item l G S hA hS (a := au_5) (by omega)) (c_X8_116 Cx rfl rfl (rmk_ok (by omega) (by decide))) hW (by decide) rfl rfl rfl hl.1 rfl (Nat.le_of_ble_eq_true rfl) dX8_items_19 ⟨Nat.le_of_ble_eq_true rfl, Nat.le_of_ble_eq_true rfl⟩) hL (fun r_14 u_12 H locs k_13 hW hL => ?_)
      obtain ⟨au_12, eu_12, xu_12, yu_12, zu_12⟩ := k_13
      rw [eu_12] at hW
      refine r_if_ne (tgt := 27) hx hb ⟨(by omega), (by omega)⟩ dX8_items_22 (by decide) (fun c_15 => ?_) (fun c_15 => ?_)
      · refine lv_aload_n hx hb dX8_items_27 rfl (lv_at hl 0 rfl) ?_
        refine lv_bipush (v := iv 18) hx hb dX8_items_28 (by decide) ?_
        refine sBi (sV (As := [.int (iv 18)]) (rest := []) (k := 12) Cx (t_X8_pass l G S hA hS (a := au_12) (k := 18) (by omega) (by omega)) (c_X8_92 Cx rfl rfl (rmk_ok (by omega) (by decide))) hW (by decide) rfl rfl rfl hl.1 rfl (Nat.le_of_ble_eq_true rfl) dX8_items_30 ⟨Nat.le_of_ble_eq_true rfl, Nat.le_of_ble_eq_true rfl⟩) hL (fun r_18 u_16 H locs k_17 hW hL => ?_)
        obtain ⟨au_16, eu_16, xu_16, yu_16, zu_16, vu_16⟩ := k_17
        rw [eu_16] at hW
        exact sZret Cx hr hlk hW hL (by omega) ⟨au_16, rfl, by omega, by omega, by omega⟩ dX8_items_33
      · refine lv_iconst (v := iv 0) hx hb dX8_items_25 (by decide) ?_
        exact sZret Cx hr hlk hW hL (by omega) ⟨au_12, rfl, by omega, by omega, by omega⟩ dX8_items_26
  · refine lv_iconst (v := iv 0) hx hb dX8_items_7 (by decide) ?_
    exact sZret Cx hr hlk hW hL (by omega) ⟨au_1, rfl, by omega, by omega, by omega⟩ dX8_items_8

set_option maxRecDepth 100000 in
set_option maxHeartbeats 4000000 in
theorem t_X8_factor (l : Launch) (G : sG) (S : sS) {D d1 d2 : Nat} {dd a : Int} (hA : SynAt G S) (hS : SynOK S) (hdd : 0 ≤ dd ∧ dd ≤ 30) (h1 : d1 < D) (h2 : d2 < D) (h4 : 4 ≤ D) (hE : dd < 30 → ExprC l G S d1 (dd + 1)) (hF : dd < 30 → FactC l G S d2 (dd + 1)) (ha : 0 ≤ a ∧ a ≤ S.1 12 3) : Met l yX8_factor (.code yX8_factor cX8_factor 2 (some .boolean) :: tb) (rmk D 0 0) (sPc G 294 (uF S 12 4 a) [.ref (G.2.2.1 + 12), .int (iv dd)]) (sQi G 294 (fun r u => ∃ a2 : Int, u = uF S 12 4 a2 ∧ a ≤ a2 ∧ a2 ≤ S.1 12 3 ∧ (r = 0 ∨ r = 1))) 0 0 (sF G) := by
  refine sEnter (by decide) (Nat.le_of_ble_eq_true rfl) ?_
  intro p e s m args below meth c Cx hr hlk hnm hW ls hl
  have Cx : sC G p m c cX8_factor 2 s args RX8 := Cx
  obtain ⟨hx, hb, hml, hown, hts⟩ := id Cx.1
  have hL : sL G [] := sL_nil
  have hl : lv_has ls 2 [(0, .ref (G.2.2.1 + 12)), (1, .int (iv dd))] := hl
  obtain ⟨hr0, hr1, hr2⟩ := id hA
  obtain ⟨ht, hki, hst, hva⟩ := id hS
  refine lv_iload_n hx hb dX8_factor_0 rfl (lv_at hl 1 rfl) ?_
  refine lv_bipush (v := iv 30) hx hb dX8_factor_1 (by decide) ?_
  refine r_icmp_lt (tgt := 8) hx hb ⟨(by omega), (by omega)⟩ ⟨(by omega), (by omega)⟩ dX8_factor_3 (by decide) (fun c_1 => ?_) (fun c_1 => ?_)
  · refine lv_aload_n hx hb dX8_factor_8 rfl (lv_at hl 0 rfl) ?_
    refine lv_aload_n hx hb dX8_factor_9 rfl (lv_at hl 0 rfl) ?_
    refine g_X8_26 Cx hW (k := 12) (by decide) rfl (v := a) uF_on dX8_factor_10 ?_
    refine sBi (sV (As := [.int (iv a)]) (rest := []) (k := 12) Cx (t_X8_kind l G S hA hS (a := a) (k := a) ⟨by omega, by omega⟩) (c_X8_98 Cx rfl rfl (rmk_ok (by omega) (by decide))) hW (by decide) rfl rfl rfl hl.1 rfl (Nat.le_of_ble_eq_true rfl) dX8_factor_13 ⟨Nat.le_of_ble_eq_true rfl, Nat.le_of_ble_eq_true rfl⟩) hL (fun r_4 u_2 H locs k_3 hW hL => ?_)
    obtain ⟨eu_2, xu_2, yu_2, zu_2⟩ := k_3
    rw [eu_2] at hW
    by_cases c_5 : r_4 = 2
    · refine lv_lookup (off := 186) (tgt := 202) hx hb dX8_factor_16 (by decide) (by rw [c_5]; decide) (by decide) ?_
      refine lv_aload_n hx hb dX8_factor_202 rfl (lv_at hl 0 rfl) ?_
      refine lv_dup hx hb dX8_factor_203 rfl ?_
      refine g_X8_26 Cx hW (k := 12) (by decide) rfl (v := a) uF_on dX8_factor_204 ?_
      refine lv_iconst (v := iv 1) hx hb dX8_factor_207 (by decide) ?_
      refine r_iadd hx hb dX8_factor_208 ?_
      refine p_X8_26 Cx hW hL (k := 12) (by decide) rfl dX8_factor_209 (fun H locs hW hL => ?_)
      rw [uF_uF] at hW
      refine lv_aload_n hx hb dX8_factor_212 rfl (lv_at hl 0 rfl) ?_
      refine lv_bipush (v := iv 17) hx hb dX8_factor_213 (by decide) ?_
      refine sBi (sV (As := [.int (iv 17)]) (rest := []) (k := 12) Cx (t_X8_pass l G S hA hS (a := a + 1) (k := 17) (by omega) (by omega)) (c_X8_92 Cx rfl rfl (rmk_ok (by omega) (by decide))) hW (by decide) rfl rfl rfl hl.1 rfl (Nat.le_of_ble_eq_true rfl) dX8_factor_215 ⟨Nat.le_of_ble_eq_true rfl, Nat.le_of_ble_eq_true rfl⟩) hL (fun r_8 u_6 H locs k_7 hW hL => ?_)
      obtain ⟨au_6, eu_6, xu_6, yu_6, zu_6, vu_6⟩ := k_7
      rw [eu_6] at hW
      refine r_if_eq (tgt := 228) hx hb ⟨(by omega), (by omega)⟩ dX8_factor_218 (by decide) (fun c_9 => ?_) (fun c_9 => ?_)
      · refine lv_iconst (v := iv 1) hx hb dX8_factor_228 (by decide) ?_
        refine lv_goto (tgt := 233) hx hb dX8_factor_229 (by decide) ?_
        exact sZret Cx hr hlk hW hL (by omega) ⟨au_6, rfl, by omega, by omega, by omega⟩ dX8_factor_233
      · refine lv_aload_n hx hb dX8_factor_221 rfl (lv_at hl 0 rfl) ?_
        refine sBi (sV (As := []) (rest := []) (k := 12) Cx (t_X8_items l G S hA hS (a := au_6) (by omega)) (c_X8_113 Cx rfl rfl (rmk_ok (by omega) (by decide))) hW (by decide) rfl rfl rfl hl.1 rfl (Nat.le_of_ble_eq_true rfl) dX8_factor_222 ⟨Nat.le_of_ble_eq_true rfl, Nat.le_of_ble_eq_true rfl⟩) hL (fun r_12 u_10 H locs k_11 hW hL => ?_)
        obtain ⟨au_10, eu_10, xu_10, yu_10, zu_10⟩ := k_11
        rw [eu_10] at hW
        refine r_if_eq (tgt := 232) hx hb ⟨(by omega), (by omega)⟩ dX8_factor_225 (by decide) (fun c_13 => ?_) (fun c_13 => ?_)
        · refine lv_iconst (v := iv 0) hx hb dX8_factor_232 (by decide) ?_
          exact sZret Cx hr hlk hW hL (by omega) ⟨au_10, rfl, by omega, by omega, by omega⟩ dX8_factor_233
        · refine lv_iconst (v := iv 1) hx hb dX8_factor_228 (by decide) ?_
          refine lv_goto (tgt := 233) hx hb dX8_factor_229 (by decide) ?_
          exact sZret Cx hr hlk hW hL (by omega) ⟨au_10, rfl, by omega, by omega, by omega⟩ dX8_factor_233
    by_cases c_14 : r_4 = 3
    · refine lv_lookup (off := 52) (tgt := 68) hx hb dX8_factor_16 (by decide) (by rw [c_14]; decide) (by decide) ?_
      refine lv_aload_n hx hb dX8_factor_68 rfl (lv_at hl 0 rfl) ?_
      refine lv_dup hx hb dX8_factor_69 rfl ?_
      refine g_X8_26 Cx hW (k := 12) (by decide) rfl (v := a) uF_on dX8_factor_70 ?_
      refine lv_iconst (v := iv 1) hx hb dX8_factor_73 (by decide) ?_
      refine r_iadd hx hb dX8_factor_74 ?_
      refine p_X8_26 Cx hW hL (k := 12) (by decide) rfl dX8_factor_75 (fun H locs hW hL => ?_)
      rw [uF_uF] at hW
      refine lv_iconst (v := iv 1) hx hb dX8_factor_78 (by decide) ?_
      exact sZret Cx hr hlk hW hL (by omega) ⟨a + 1, rfl, by omega, by omega, by omega⟩ dX8_factor_79
    by_cases c_15 : r_4 = 11
    · refine lv_lookup (off := 117) (tgt := 133) hx hb dX8_factor_16 (by decide) (by rw [c_15]; decide) (by decide) ?_
      refine lv_aload_n hx hb dX8_factor_133 rfl (lv_at hl 0 rfl) ?_
      refine lv_dup hx hb dX8_factor_134 rfl ?_
      refine g_X8_26 Cx hW (k := 12) (by decide) rfl (v := a) uF_on dX8_factor_135 ?_
      refine lv_iconst (v := iv 1) hx hb dX8_factor_138 (by decide) ?_
      refine r_iadd hx hb dX8_factor_139 ?_
      refine p_X8_26 Cx hW hL (k := 12) (by decide) rfl dX8_factor_140 (fun H locs hW hL => ?_)
      rw [uF_uF] at hW
      refine lv_aload_n hx hb dX8_factor_143 rfl (lv_at hl 0 rfl) ?_
      refine lv_iconst (v := iv 2) hx hb dX8_factor_144 (by decide) ?_
      refine sBi (sV (As := [.int (iv 2)]) (rest := []) (k := 12) Cx (t_X8_pass l G S hA hS (a := a + 1) (k := 2) (by omega) (by omega)) (c_X8_92 Cx rfl rfl (rmk_ok (by omega) (by decide))) hW (by decide) rfl rfl rfl hl.1 rfl (Nat.le_of_ble_eq_true rfl) dX8_factor_145 ⟨Nat.le_of_ble_eq_true rfl, Nat.le_of_ble_eq_true rfl⟩) hL (fun r_18 u_16 H locs k_17 hW hL => ?_)
      obtain ⟨au_16, eu_16, xu_16, yu_16, zu_16, vu_16⟩ := k_17
      rw [eu_16] at hW
      refine r_if_eq (tgt := 200) hx hb ⟨(by omega), (by omega)⟩ dX8_factor_148 (by decide) (fun c_19 => ?_) (fun c_19 => ?_)
      · refine lv_iconst (v := iv 0) hx hb dX8_factor_200 (by decide) ?_
        exact sZret Cx hr hlk hW hL (by omega) ⟨au_16, rfl, by omega, by omega, by omega⟩ dX8_factor_201
      · refine lv_aload_n hx hb dX8_factor_151 rfl (lv_at hl 0 rfl) ?_
        refine lv_bipush (v := iv 12) hx hb dX8_factor_152 (by decide) ?_
        refine sBi (sV (As := [.int (iv 12)]) (rest := []) (k := 12) Cx (t_X8_pass l G S hA hS (a := au_16) (k := 12) (by omega) (by omega)) (c_X8_92 Cx rfl rfl (rmk_ok (by omega) (by decide))) hW (by decide) rfl rfl rfl hl.1 rfl (Nat.le_of_ble_eq_true rfl) dX8_factor_154 ⟨Nat.le_of_ble_eq_true rfl, Nat.le_of_ble_eq_true rfl⟩) hL (fun r_22 u_20 H locs k_21 hW hL => ?_)
        obtain ⟨au_20, eu_20, xu_20, yu_20, zu_20, vu_20⟩ := k_21
        rw [eu_20] at hW
        refine r_if_eq (tgt := 200) hx hb ⟨(by omega), (by omega)⟩ dX8_factor_157 (by decide) (fun c_23 => ?_) (fun c_23 => ?_)
        · refine lv_iconst (v := iv 0) hx hb dX8_factor_200 (by decide) ?_
          exact sZret Cx hr hlk hW hL (by omega) ⟨au_20, rfl, by omega, by omega, by omega⟩ dX8_factor_201
        · refine lv_aload_n hx hb dX8_factor_160 rfl (lv_at hl 0 rfl) ?_
          refine lv_iconst (v := iv 2) hx hb dX8_factor_161 (by decide) ?_
          refine sBi (sV (As := [.int (iv 2)]) (rest := []) (k := 12) Cx (t_X8_pass l G S hA hS (a := au_20) (k := 2) (by omega) (by omega)) (c_X8_92 Cx rfl rfl (rmk_ok (by omega) (by decide))) hW (by decide) rfl rfl rfl hl.1 rfl (Nat.le_of_ble_eq_true rfl) dX8_factor_162 ⟨Nat.le_of_ble_eq_true rfl, Nat.le_of_ble_eq_true rfl⟩) hL (fun r_26 u_24 H locs k_25 hW hL => ?_)
          obtain ⟨au_24, eu_24, xu_24, yu_24, zu_24, vu_24⟩ := k_25
          rw [eu_24] at hW
          refine r_if_eq (tgt := 200) hx hb ⟨(by omega), (by omega)⟩ dX8_factor_165 (by decide) (fun c_27 => ?_) (fun c_27 => ?_)
          · refine lv_iconst (v := iv 0) hx hb dX8_factor_200 (by decide) ?_
            exact sZret Cx hr hlk hW hL (by omega) ⟨au_24, rfl, by omega, by omega, by omega⟩ dX8_factor_201
          · refine lv_aload_n hx hb dX8_factor_168 rfl (lv_at hl 0 rfl) ?_
            refine lv_bipush (v := iv 19) hx hb dX8_factor_169 (by decide) ?_
            refine sBi (sV (As := [.int (iv 19)]) (rest := []) (k := 12) Cx (t_X8_pass l G S hA hS (a := au_24) (k := 19) (by omega) (by omega)) (c_X8_92 Cx rfl rfl (rmk_ok (by omega) (by decide))) hW (by decide) rfl rfl rfl hl.1 rfl (Nat.le_of_ble_eq_true rfl) dX8_factor_171 ⟨Nat.le_of_ble_eq_true rfl, Nat.le_of_ble_eq_true rfl⟩) hL (fun r_30 u_28 H locs k_29 hW hL => ?_)
            obtain ⟨au_28, eu_28, xu_28, yu_28, zu_28, vu_28⟩ := k_29
            rw [eu_28] at hW
            refine r_if_eq (tgt := 200) hx hb ⟨(by omega), (by omega)⟩ dX8_factor_174 (by decide) (fun c_31 => ?_) (fun c_31 => ?_)
            · refine lv_iconst (v := iv 0) hx hb dX8_factor_200 (by decide) ?_
              exact sZret Cx hr hlk hW hL (by omega) ⟨au_28, rfl, by omega, by omega, by omega⟩ dX8_factor_201
            · refine lv_aload_n hx hb dX8_factor_177 rfl (lv_at hl 0 rfl) ?_
              refine lv_iload_n hx hb dX8_factor_178 rfl (lv_at hl 1 rfl) ?_
              refine lv_iconst (v := iv 1) hx hb dX8_factor_179 (by decide) ?_
              refine r_iadd hx hb dX8_factor_180 ?_
              refine sBi (sV (As := [.int (iv (dd + 1))]) (rest := []) (k := 12) Cx (hE (by omega) au_28 (by omega)) (c_X8_89 Cx rfl rfl (rmk_ok (by omega) (by decide))) hW (by decide) rfl rfl rfl hl.1 rfl (Nat.le_of_ble_eq_true rfl) dX8_factor_181 ⟨Nat.le_of_ble_eq_true rfl, Nat.le_of_ble_eq_true rfl⟩) hL (fun r_34 u_32 H locs k_33 hW hL => ?_)
              obtain ⟨au_32, eu_32, xu_32, yu_32, zu_32⟩ := k_33
              rw [eu_32] at hW
              refine r_if_eq (tgt := 200) hx hb ⟨(by omega), (by omega)⟩ dX8_factor_184 (by decide) (fun c_35 => ?_) (fun c_35 => ?_)
              · refine lv_iconst (v := iv 0) hx hb dX8_factor_200 (by decide) ?_
                exact sZret Cx hr hlk hW hL (by omega) ⟨au_32, rfl, by omega, by omega, by omega⟩ dX8_factor_201
              · refine lv_aload_n hx hb dX8_factor_187 rfl (lv_at hl 0 rfl) ?_
                refine lv_bipush (v := iv 20) hx hb dX8_factor_188 (by decide) ?_
                refine sBi (sV (As := [.int (iv 20)]) (rest := []) (k := 12) Cx (t_X8_pass l G S hA hS (a := au_32) (k := 20) (by omega) (by omega)) (c_X8_92 Cx rfl rfl (rmk_ok (by omega) (by decide))) hW (by decide) rfl rfl rfl hl.1 rfl (Nat.le_of_ble_eq_true rfl) dX8_factor_190 ⟨Nat.le_of_ble_eq_true rfl, Nat.le_of_ble_eq_true rfl⟩) hL (fun r_38 u_36 H locs k_37 hW hL => ?_)
                obtain ⟨au_36, eu_36, xu_36, yu_36, zu_36, vu_36⟩ := k_37
                rw [eu_36] at hW
                refine r_if_eq (tgt := 200) hx hb ⟨(by omega), (by omega)⟩ dX8_factor_193 (by decide) (fun c_39 => ?_) (fun c_39 => ?_)
                · refine lv_iconst (v := iv 0) hx hb dX8_factor_200 (by decide) ?_
                  exact sZret Cx hr hlk hW hL (by omega) ⟨au_36, rfl, by omega, by omega, by omega⟩ dX8_factor_201
                · refine lv_iconst (v := iv 1) hx hb dX8_factor_196 (by decide) ?_
                  refine lv_goto (tgt := 201) hx hb dX8_factor_197 (by decide) ?_
                  exact sZret Cx hr hlk hW hL (by omega) ⟨au_36, rfl, by omega, by omega, by omega⟩ dX8_factor_201
    by_cases c_40 : r_4 = 19
    · refine lv_lookup (off := 82) (tgt := 98) hx hb dX8_factor_16 (by decide) (by rw [c_40]; decide) (by decide) ?_
      refine lv_aload_n hx hb dX8_factor_98 rfl (lv_at hl 0 rfl) ?_
      refine lv_dup hx hb dX8_factor_99 rfl ?_
      refine g_X8_26 Cx hW (k := 12) (by decide) rfl (v := a) uF_on dX8_factor_100 ?_
      refine lv_iconst (v := iv 1) hx hb dX8_factor_103 (by decide) ?_
      refine r_iadd hx hb dX8_factor_104 ?_
      refine p_X8_26 Cx hW hL (k := 12) (by decide) rfl dX8_factor_105 (fun H locs hW hL => ?_)
      rw [uF_uF] at hW
      refine lv_aload_n hx hb dX8_factor_108 rfl (lv_at hl 0 rfl) ?_
      refine lv_iload_n hx hb dX8_factor_109 rfl (lv_at hl 1 rfl) ?_
      refine lv_iconst (v := iv 1) hx hb dX8_factor_110 (by decide) ?_
      refine r_iadd hx hb dX8_factor_111 ?_
      refine sBi (sV (As := [.int (iv (dd + 1))]) (rest := []) (k := 12) Cx (hE (by omega) (a + 1) (by omega)) (c_X8_89 Cx rfl rfl (rmk_ok (by omega) (by decide))) hW (by decide) rfl rfl rfl hl.1 rfl (Nat.le_of_ble_eq_true rfl) dX8_factor_112 ⟨Nat.le_of_ble_eq_true rfl, Nat.le_of_ble_eq_true rfl⟩) hL (fun r_43 u_41 H locs k_42 hW hL => ?_)
      obtain ⟨au_41, eu_41, xu_41, yu_41, zu_41⟩ := k_42
      rw [eu_41] at hW
      refine r_if_eq (tgt := 131) hx hb ⟨(by omega), (by omega)⟩ dX8_factor_115 (by decide) (fun c_44 => ?_) (fun c_44 => ?_)
      · refine lv_iconst (v := iv 0) hx hb dX8_factor_131 (by decide) ?_
        exact sZret Cx hr hlk hW hL (by omega) ⟨au_41, rfl, by omega, by omega, by omega⟩ dX8_factor_132
      · refine lv_aload_n hx hb dX8_factor_118 rfl (lv_at hl 0 rfl) ?_
        refine lv_bipush (v := iv 20) hx hb dX8_factor_119 (by decide) ?_
        refine sBi (sV (As := [.int (iv 20)]) (rest := []) (k := 12) Cx (t_X8_pass l G S hA hS (a := au_41) (k := 20) (by omega) (by omega)) (c_X8_92 Cx rfl rfl (rmk_ok (by omega) (by decide))) hW (by decide) rfl rfl rfl hl.1 rfl (Nat.le_of_ble_eq_true rfl) dX8_factor_121 ⟨Nat.le_of_ble_eq_true rfl, Nat.le_of_ble_eq_true rfl⟩) hL (fun r_47 u_45 H locs k_46 hW hL => ?_)
        obtain ⟨au_45, eu_45, xu_45, yu_45, zu_45, vu_45⟩ := k_46
        rw [eu_45] at hW
        refine r_if_eq (tgt := 131) hx hb ⟨(by omega), (by omega)⟩ dX8_factor_124 (by decide) (fun c_48 => ?_) (fun c_48 => ?_)
        · refine lv_iconst (v := iv 0) hx hb dX8_factor_131 (by decide) ?_
          exact sZret Cx hr hlk hW hL (by omega) ⟨au_45, rfl, by omega, by omega, by omega⟩ dX8_factor_132
        · refine lv_iconst (v := iv 1) hx hb dX8_factor_127 (by decide) ?_
          refine lv_goto (tgt := 132) hx hb dX8_factor_128 (by decide) ?_
          exact sZret Cx hr hlk hW hL (by omega) ⟨au_45, rfl, by omega, by omega, by omega⟩ dX8_factor_132
    by_cases c_49 : r_4 = 22
    · refine lv_lookup (off := 64) (tgt := 80) hx hb dX8_factor_16 (by decide) (by rw [c_49]; decide) (by decide) ?_
      refine lv_aload_n hx hb dX8_factor_80 rfl (lv_at hl 0 rfl) ?_
      refine lv_dup hx hb dX8_factor_81 rfl ?_
      refine g_X8_26 Cx hW (k := 12) (by decide) rfl (v := a) uF_on dX8_factor_82 ?_
      refine lv_iconst (v := iv 1) hx hb dX8_factor_85 (by decide) ?_
      refine r_iadd hx hb dX8_factor_86 ?_
      refine p_X8_26 Cx hW hL (k := 12) (by decide) rfl dX8_factor_87 (fun H locs hW hL => ?_)
      rw [uF_uF] at hW
      refine lv_aload_n hx hb dX8_factor_90 rfl (lv_at hl 0 rfl) ?_
      refine lv_iload_n hx hb dX8_factor_91 rfl (lv_at hl 1 rfl) ?_
      refine lv_iconst (v := iv 1) hx hb dX8_factor_92 (by decide) ?_
      refine r_iadd hx hb dX8_factor_93 ?_
      refine sBi (sV (As := [.int (iv (dd + 1))]) (rest := []) (k := 12) Cx (hF (by omega) (a + 1) (by omega)) (c_X8_110 Cx rfl rfl (rmk_ok (by omega) (by decide))) hW (by decide) rfl rfl rfl hl.1 rfl (Nat.le_of_ble_eq_true rfl) dX8_factor_94 ⟨Nat.le_of_ble_eq_true rfl, Nat.le_of_ble_eq_true rfl⟩) hL (fun r_52 u_50 H locs k_51 hW hL => ?_)
      obtain ⟨au_50, eu_50, xu_50, yu_50, zu_50⟩ := k_51
      rw [eu_50] at hW
      exact sZret Cx hr hlk hW hL (by omega) ⟨au_50, rfl, by omega, by omega, by omega⟩ dX8_factor_97
    refine lv_lookup (off := 218) (tgt := 234) hx hb dX8_factor_16 (by decide) (by rw [iv_toInt ⟨(by omega), (by omega)⟩]; exact lk_out (by simp [List.forall_mem_cons]; omega)) (by decide) ?_
    refine lv_iconst (v := iv 0) hx hb dX8_factor_234 (by decide) ?_
    exact sZret Cx hr hlk hW hL (by omega) ⟨a, rfl, by omega, by omega, by omega⟩ dX8_factor_235
  · refine lv_iconst (v := iv 0) hx hb dX8_factor_6 (by decide) ?_
    exact sZret Cx hr hlk hW hL (by omega) ⟨a, rfl, by omega, by omega, by omega⟩ dX8_factor_7

set_option maxRecDepth 100000 in
set_option maxHeartbeats 4000000 in
theorem t_X8_term (l : Launch) (G : sG) (S : sS) {D d1 : Nat} {dd a : Int} (hA : SynAt G S) (hS : SynOK S) (hdd : 0 ≤ dd ∧ dd ≤ 30) (h1 : d1 < D) (h4 : 4 ≤ D) (hF : FactC l G S d1 dd) (ha : 0 ≤ a ∧ a ≤ S.1 12 3) : Met l yX8_term (.code yX8_term cX8_term 3 (some .boolean) :: tb) (rmk D 0 0) (sPc G 294 (uF S 12 4 a) [.ref (G.2.2.1 + 12), .int (iv dd)]) (sQi G 294 (fun r u => ∃ a2 : Int, u = uF S 12 4 a2 ∧ a ≤ a2 ∧ a2 ≤ S.1 12 3 ∧ (r = 0 ∨ r = 1))) 0 0 (sF G) := by
  refine sEnter (by decide) (Nat.le_of_ble_eq_true rfl) ?_
  intro p e s m args below meth c Cx hr hlk hnm hW ls hl
  have Cx : sC G p m c cX8_term 3 s args RX8 := Cx
  obtain ⟨hx, hb, hml, hown, hts⟩ := id Cx.1
  have hL : sL G [] := sL_nil
  have hl : lv_has ls 3 [(0, .ref (G.2.2.1 + 12)), (1, .int (iv dd))] := hl
  obtain ⟨hr0, hr1, hr2⟩ := id hA
  obtain ⟨ht, hki, hst, hva⟩ := id hS
  refine lv_aload_n hx hb dX8_term_0 rfl (lv_at hl 0 rfl) ?_
  refine lv_iload_n hx hb dX8_term_1 rfl (lv_at hl 1 rfl) ?_
  refine sBi (sV (As := [.int (iv dd)]) (rest := []) (k := 12) Cx (hF a (by omega)) (c_X8_110 Cx rfl rfl (rmk_ok (by omega) (by decide))) hW (by decide) rfl rfl rfl hl.1 rfl (Nat.le_of_ble_eq_true rfl) dX8_term_2 ⟨Nat.le_of_ble_eq_true rfl, Nat.le_of_ble_eq_true rfl⟩) hL (fun r_3 u_1 H locs k_2 hW hL => ?_)
  obtain ⟨au_1, eu_1, xu_1, yu_1, zu_1⟩ := k_2
  rw [eu_1] at hW
  refine r_if_ne (tgt := 10) hx hb ⟨(by omega), (by omega)⟩ dX8_term_5 (by decide) (fun c_4 => ?_) (fun c_4 => ?_)
  · refine lv_iconst (v := iv 0) hx hb dX8_term_10 (by decide) ?_
    refine lv_istore_n (lv' := [(2, .int (iv 0)), (0, .ref (G.2.2.1 + 12)), (1, .int (iv dd))]) hx hb dX8_term_11 rfl hl (by decide) rfl (fun ls hl => ?_)
    have loop_12 : ∀ (fuel : Nat) (i : Int) (b : Int) (H : Heap) (locs : List Loc) (ls : Array Slot), (S.1 12 3 - i).toNat < fuel → (0 ≤ i ∧ i ≤ S.1 12 3) → (a ≤ b ∧ b ≤ S.1 12 3) → sW G 294 (uF S 12 4 b) H → sL G locs → lv_has ls 3 [(2, .int (iv i)), (0, .ref (G.2.2.1 + 12)), (1, .int (iv dd))] → W p l e (rmk D 0 0) s m args below meth c H locs 0 0 (MQ below (sQi G 294 (fun r u => ∃ a2 : Int, u = uF S 12 4 a2 ∧ a ≤ a2 ∧ a2 ≤ S.1 12 3 ∧ (r = 0 ∨ r = 1))) args s 0 0 (sF G)) (F0 m 12 ls []) := by
      intro fuel
      induction fuel with
      | zero => intro i b H locs ls hmeas hi hb2 hW hL hl; exact absurd hmeas (Nat.not_lt_zero _)
      | succ fuel ih_12 =>
        intro i b H locs ls hmeas hi hb2 hW hL hl
        refine lv_iload_n hx hb dX8_term_12 rfl (lv_at hl 0 rfl) ?_
        refine lv_aload_n hx hb dX8_term_13 rfl (lv_at hl 1 rfl) ?_
        refine g_X8_22 Cx hW (k := 12) (by decide) rfl (v := S.1 12 3) (uF_ne (fun h => absurd h.2 (by decide))) dX8_term_14 ?_
        refine r_icmp_ge (tgt := 55) hx hb ⟨(by omega), (by omega)⟩ ⟨(by omega), (by omega)⟩ dX8_term_17 (by decide) (fun c_5 => ?_) (fun c_5 => ?_)
        · refine lv_iconst (v := iv 1) hx hb dX8_term_55 (by decide) ?_
          exact sZret Cx hr hlk hW hL (by omega) ⟨b, rfl, by omega, by omega, by omega⟩ dX8_term_56
        · refine lv_aload_n hx hb dX8_term_20 rfl (lv_at hl 1 rfl) ?_
          refine lv_bipush (v := iv 23) hx hb dX8_term_21 (by decide) ?_
          refine sBi (sV (As := [.int (iv 23)]) (rest := []) (k := 12) Cx (t_X8_is l G S hA hS (a := b) (k := 23) (by omega) (by omega)) (c_X8_82 Cx rfl rfl (rmk_ok (by omega) (by decide))) hW (by decide) rfl rfl rfl hl.1 rfl (Nat.le_of_ble_eq_true rfl) dX8_term_23 ⟨Nat.le_of_ble_eq_true rfl, Nat.le_of_ble_eq_true rfl⟩) hL (fun r_8 u_6 H locs k_7 hW hL => ?_)
          obtain ⟨eu_6, xu_6, yu_6⟩ := k_7
          rw [eu_6] at hW
          refine r_if_eq (tgt := 55) hx hb ⟨(by omega), (by omega)⟩ dX8_term_26 (by decide) (fun c_9 => ?_) (fun c_9 => ?_)
          · refine lv_iconst (v := iv 1) hx hb dX8_term_55 (by decide) ?_
            exact sZret Cx hr hlk hW hL (by omega) ⟨b, rfl, by omega, by omega, by omega⟩ dX8_term_56
          · refine lv_aload_n hx hb dX8_term_29 rfl (lv_at hl 1 rfl) ?_
            refine lv_dup hx hb dX8_term_30 rfl ?_
            refine g_X8_26 Cx hW (k := 12) (by decide) rfl (v := b) uF_on dX8_term_31 ?_
            refine lv_iconst (v := iv 1) hx hb dX8_term_34 (by decide) ?_
            refine r_iadd hx hb dX8_term_35 ?_
            refine p_X8_26 Cx hW hL (k := 12) (by decide) rfl dX8_term_36 (fun H locs hW hL => ?_)
            rw [uF_uF] at hW
            refine lv_aload_n hx hb dX8_term_39 rfl (lv_at hl 1 rfl) ?_
            refine lv_iload_n hx hb dX8_term_40 rfl (lv_at hl 2 rfl) ?_
            refine sBi (sV (As := [.int (iv dd)]) (rest := []) (k := 12) Cx (hF (b + 1) (by omega)) (c_X8_110 Cx rfl rfl (rmk_ok (by omega) (by decide))) hW (by decide) rfl rfl rfl hl.1 rfl (Nat.le_of_ble_eq_true rfl) dX8_term_41 ⟨Nat.le_of_ble_eq_true rfl, Nat.le_of_ble_eq_true rfl⟩) hL (fun r_12 u_10 H locs k_11 hW hL => ?_)
            obtain ⟨au_10, eu_10, xu_10, yu_10, zu_10⟩ := k_11
            rw [eu_10] at hW
            refine r_if_ne (tgt := 49) hx hb ⟨(by omega), (by omega)⟩ dX8_term_44 (by decide) (fun c_13 => ?_) (fun c_13 => ?_)
            · refine lv_iinc (v := iv (i + 1)) (lv' := [(2, .int (iv (i + 1))), (0, .ref (G.2.2.1 + 12)), (1, .int (iv dd))]) hx hb dX8_term_49 hl (k := 0) rfl ((Int32.ofInt_add _ _).symm) (by decide) rfl (fun ls hl => ?_)
              refine lv_goto (tgt := 12) hx hb dX8_term_52 (by decide) ?_
              exact ih_12 (i + 1) au_10 _ _ _ (by omega) (by omega) (by omega) hW hL (lv_sub hl [0, 1, 2] rfl)
            · refine lv_iconst (v := iv 0) hx hb dX8_term_47 (by decide) ?_
              exact sZret Cx hr hlk hW hL (by omega) ⟨au_10, rfl, by omega, by omega, by omega⟩ dX8_term_48
    exact loop_12 (_ + 1) 0 au_1 _ _ _ (Nat.lt_succ_self _) (by omega) (by omega) hW hL (lv_sub hl [0, 1, 2] rfl)
  · refine lv_iconst (v := iv 0) hx hb dX8_term_8 (by decide) ?_
    exact sZret Cx hr hlk hW hL (by omega) ⟨au_1, rfl, by omega, by omega, by omega⟩ dX8_term_9

set_option maxRecDepth 100000 in
set_option maxHeartbeats 4000000 in
theorem t_X8_expression (l : Launch) (G : sG) (S : sS) {D d1 : Nat} {dd a : Int} (hA : SynAt G S) (hS : SynOK S) (hdd : 0 ≤ dd ∧ dd ≤ 30) (h1 : d1 < D) (h4 : 4 ≤ D) (hT : TermC l G S d1 dd) (ha : 0 ≤ a ∧ a ≤ S.1 12 3) : Met l yX8_expression (.code yX8_expression cX8_expression 3 (some .boolean) :: tb) (rmk D 0 0) (sPc G 294 (uF S 12 4 a) [.ref (G.2.2.1 + 12), .int (iv dd)]) (sQi G 294 (fun r u => ∃ a2 : Int, u = uF S 12 4 a2 ∧ a ≤ a2 ∧ a2 ≤ S.1 12 3 ∧ (r = 0 ∨ r = 1))) 0 0 (sF G) := by
  refine sEnter (by decide) (Nat.le_of_ble_eq_true rfl) ?_
  intro p e s m args below meth c Cx hr hlk hnm hW ls hl
  have Cx : sC G p m c cX8_expression 3 s args RX8 := Cx
  obtain ⟨hx, hb, hml, hown, hts⟩ := id Cx.1
  have hL : sL G [] := sL_nil
  have hl : lv_has ls 3 [(0, .ref (G.2.2.1 + 12)), (1, .int (iv dd))] := hl
  obtain ⟨hr0, hr1, hr2⟩ := id hA
  obtain ⟨ht, hki, hst, hva⟩ := id hS
  refine lv_aload_n hx hb dX8_expression_0 rfl (lv_at hl 0 rfl) ?_
  refine lv_iload_n hx hb dX8_expression_1 rfl (lv_at hl 1 rfl) ?_
  refine sBi (sV (As := [.int (iv dd)]) (rest := []) (k := 12) Cx (hT a (by omega)) (c_X8_107 Cx rfl rfl (rmk_ok (by omega) (by decide))) hW (by decide) rfl rfl rfl hl.1 rfl (Nat.le_of_ble_eq_true rfl) dX8_expression_2 ⟨Nat.le_of_ble_eq_true rfl, Nat.le_of_ble_eq_true rfl⟩) hL (fun r_3 u_1 H locs k_2 hW hL => ?_)
  obtain ⟨au_1, eu_1, xu_1, yu_1, zu_1⟩ := k_2
  rw [eu_1] at hW
  refine r_if_ne (tgt := 10) hx hb ⟨(by omega), (by omega)⟩ dX8_expression_5 (by decide) (fun c_4 => ?_) (fun c_4 => ?_)
  · refine lv_iconst (v := iv 0) hx hb dX8_expression_10 (by decide) ?_
    refine lv_istore_n (lv' := [(2, .int (iv 0)), (0, .ref (G.2.2.1 + 12)), (1, .int (iv dd))]) hx hb dX8_expression_11 rfl hl (by decide) rfl (fun ls hl => ?_)
    have loop_12 : ∀ (fuel : Nat) (i : Int) (b : Int) (H : Heap) (locs : List Loc) (ls : Array Slot), (S.1 12 3 - i).toNat < fuel → (0 ≤ i ∧ i ≤ S.1 12 3) → (a ≤ b ∧ b ≤ S.1 12 3) → sW G 294 (uF S 12 4 b) H → sL G locs → lv_has ls 3 [(2, .int (iv i)), (0, .ref (G.2.2.1 + 12)), (1, .int (iv dd))] → W p l e (rmk D 0 0) s m args below meth c H locs 0 0 (MQ below (sQi G 294 (fun r u => ∃ a2 : Int, u = uF S 12 4 a2 ∧ a ≤ a2 ∧ a2 ≤ S.1 12 3 ∧ (r = 0 ∨ r = 1))) args s 0 0 (sF G)) (F0 m 12 ls []) := by
      intro fuel
      induction fuel with
      | zero => intro i b H locs ls hmeas hi hb2 hW hL hl; exact absurd hmeas (Nat.not_lt_zero _)
      | succ fuel ih_12 =>
        intro i b H locs ls hmeas hi hb2 hW hL hl
        refine lv_iload_n hx hb dX8_expression_12 rfl (lv_at hl 0 rfl) ?_
        refine lv_aload_n hx hb dX8_expression_13 rfl (lv_at hl 1 rfl) ?_
        refine g_X8_22 Cx hW (k := 12) (by decide) rfl (v := S.1 12 3) (uF_ne (fun h => absurd h.2 (by decide))) dX8_expression_14 ?_
        refine r_icmp_ge (tgt := 64) hx hb ⟨(by omega), (by omega)⟩ ⟨(by omega), (by omega)⟩ dX8_expression_17 (by decide) (fun c_5 => ?_) (fun c_5 => ?_)
        · refine lv_iconst (v := iv 1) hx hb dX8_expression_64 (by decide) ?_
          exact sZret Cx hr hlk hW hL (by omega) ⟨b, rfl, by omega, by omega, by omega⟩ dX8_expression_65
        · refine lv_aload_n hx hb dX8_expression_20 rfl (lv_at hl 1 rfl) ?_
          refine lv_bipush (v := iv 21) hx hb dX8_expression_21 (by decide) ?_
          refine sBi (sV (As := [.int (iv 21)]) (rest := []) (k := 12) Cx (t_X8_is l G S hA hS (a := b) (k := 21) (by omega) (by omega)) (c_X8_82 Cx rfl rfl (rmk_ok (by omega) (by decide))) hW (by decide) rfl rfl rfl hl.1 rfl (Nat.le_of_ble_eq_true rfl) dX8_expression_23 ⟨Nat.le_of_ble_eq_true rfl, Nat.le_of_ble_eq_true rfl⟩) hL (fun r_8 u_6 H locs k_7 hW hL => ?_)
          obtain ⟨eu_6, xu_6, yu_6⟩ := k_7
          rw [eu_6] at hW
          refine r_if_ne (tgt := 38) hx hb ⟨(by omega), (by omega)⟩ dX8_expression_26 (by decide) (fun c_9 => ?_) (fun c_9 => ?_)
          · refine lv_aload_n hx hb dX8_expression_38 rfl (lv_at hl 1 rfl) ?_
            refine lv_dup hx hb dX8_expression_39 rfl ?_
            refine g_X8_26 Cx hW (k := 12) (by decide) rfl (v := b) uF_on dX8_expression_40 ?_
            refine lv_iconst (v := iv 1) hx hb dX8_expression_43 (by decide) ?_
            refine r_iadd hx hb dX8_expression_44 ?_
            refine p_X8_26 Cx hW hL (k := 12) (by decide) rfl dX8_expression_45 (fun H locs hW hL => ?_)
            rw [uF_uF] at hW
            refine lv_aload_n hx hb dX8_expression_48 rfl (lv_at hl 1 rfl) ?_
            refine lv_iload_n hx hb dX8_expression_49 rfl (lv_at hl 2 rfl) ?_
            refine sBi (sV (As := [.int (iv dd)]) (rest := []) (k := 12) Cx (hT (b + 1) (by omega)) (c_X8_107 Cx rfl rfl (rmk_ok (by omega) (by decide))) hW (by decide) rfl rfl rfl hl.1 rfl (Nat.le_of_ble_eq_true rfl) dX8_expression_50 ⟨Nat.le_of_ble_eq_true rfl, Nat.le_of_ble_eq_true rfl⟩) hL (fun r_12 u_10 H locs k_11 hW hL => ?_)
            obtain ⟨au_10, eu_10, xu_10, yu_10, zu_10⟩ := k_11
            rw [eu_10] at hW
            refine r_if_ne (tgt := 58) hx hb ⟨(by omega), (by omega)⟩ dX8_expression_53 (by decide) (fun c_13 => ?_) (fun c_13 => ?_)
            · refine lv_iinc (v := iv (i + 1)) (lv' := [(2, .int (iv (i + 1))), (0, .ref (G.2.2.1 + 12)), (1, .int (iv dd))]) hx hb dX8_expression_58 hl (k := 0) rfl ((Int32.ofInt_add _ _).symm) (by decide) rfl (fun ls hl => ?_)
              refine lv_goto (tgt := 12) hx hb dX8_expression_61 (by decide) ?_
              exact ih_12 (i + 1) au_10 _ _ _ (by omega) (by omega) (by omega) hW hL (lv_sub hl [0, 1, 2] rfl)
            · refine lv_iconst (v := iv 0) hx hb dX8_expression_56 (by decide) ?_
              exact sZret Cx hr hlk hW hL (by omega) ⟨au_10, rfl, by omega, by omega, by omega⟩ dX8_expression_57
          · refine lv_aload_n hx hb dX8_expression_29 rfl (lv_at hl 1 rfl) ?_
            refine lv_bipush (v := iv 22) hx hb dX8_expression_30 (by decide) ?_
            refine sBi (sV (As := [.int (iv 22)]) (rest := []) (k := 12) Cx (t_X8_is l G S hA hS (a := b) (k := 22) (by omega) (by omega)) (c_X8_82 Cx rfl rfl (rmk_ok (by omega) (by decide))) hW (by decide) rfl rfl rfl hl.1 rfl (Nat.le_of_ble_eq_true rfl) dX8_expression_32 ⟨Nat.le_of_ble_eq_true rfl, Nat.le_of_ble_eq_true rfl⟩) hL (fun r_16 u_14 H locs k_15 hW hL => ?_)
            obtain ⟨eu_14, xu_14, yu_14⟩ := k_15
            rw [eu_14] at hW
            refine r_if_eq (tgt := 64) hx hb ⟨(by omega), (by omega)⟩ dX8_expression_35 (by decide) (fun c_17 => ?_) (fun c_17 => ?_)
            · refine lv_iconst (v := iv 1) hx hb dX8_expression_64 (by decide) ?_
              exact sZret Cx hr hlk hW hL (by omega) ⟨b, rfl, by omega, by omega, by omega⟩ dX8_expression_65
            · refine lv_aload_n hx hb dX8_expression_38 rfl (lv_at hl 1 rfl) ?_
              refine lv_dup hx hb dX8_expression_39 rfl ?_
              refine g_X8_26 Cx hW (k := 12) (by decide) rfl (v := b) uF_on dX8_expression_40 ?_
              refine lv_iconst (v := iv 1) hx hb dX8_expression_43 (by decide) ?_
              refine r_iadd hx hb dX8_expression_44 ?_
              refine p_X8_26 Cx hW hL (k := 12) (by decide) rfl dX8_expression_45 (fun H locs hW hL => ?_)
              rw [uF_uF] at hW
              refine lv_aload_n hx hb dX8_expression_48 rfl (lv_at hl 1 rfl) ?_
              refine lv_iload_n hx hb dX8_expression_49 rfl (lv_at hl 2 rfl) ?_
              refine sBi (sV (As := [.int (iv dd)]) (rest := []) (k := 12) Cx (hT (b + 1) (by omega)) (c_X8_107 Cx rfl rfl (rmk_ok (by omega) (by decide))) hW (by decide) rfl rfl rfl hl.1 rfl (Nat.le_of_ble_eq_true rfl) dX8_expression_50 ⟨Nat.le_of_ble_eq_true rfl, Nat.le_of_ble_eq_true rfl⟩) hL (fun r_20 u_18 H locs k_19 hW hL => ?_)
              obtain ⟨au_18, eu_18, xu_18, yu_18, zu_18⟩ := k_19
              rw [eu_18] at hW
              refine r_if_ne (tgt := 58) hx hb ⟨(by omega), (by omega)⟩ dX8_expression_53 (by decide) (fun c_21 => ?_) (fun c_21 => ?_)
              · refine lv_iinc (v := iv (i + 1)) (lv' := [(2, .int (iv (i + 1))), (0, .ref (G.2.2.1 + 12)), (1, .int (iv dd))]) hx hb dX8_expression_58 hl (k := 0) rfl ((Int32.ofInt_add _ _).symm) (by decide) rfl (fun ls hl => ?_)
                refine lv_goto (tgt := 12) hx hb dX8_expression_61 (by decide) ?_
                exact ih_12 (i + 1) au_18 _ _ _ (by omega) (by omega) (by omega) hW hL (lv_sub hl [0, 1, 2] rfl)
              · refine lv_iconst (v := iv 0) hx hb dX8_expression_56 (by decide) ?_
                exact sZret Cx hr hlk hW hL (by omega) ⟨au_18, rfl, by omega, by omega, by omega⟩ dX8_expression_57
    exact loop_12 (_ + 1) 0 au_1 _ _ _ (Nat.lt_succ_self _) (by omega) (by omega) hW hL (lv_sub hl [0, 1, 2] rfl)
  · refine lv_iconst (v := iv 0) hx hb dX8_expression_8 (by decide) ?_
    exact sZret Cx hr hlk hW hL (by omega) ⟨au_1, rfl, by omega, by omega, by omega⟩ dX8_expression_9

theorem syn_all (l : Launch) (G : sG) (S : sS) (hA : SynAt G S) (hS : SynOK S) : ∀ (n : Nat) (dd : Int), 0 ≤ dd → dd ≤ 30 → 30 - dd ≤ n → FactC l G S (3 * n + 4) dd ∧ TermC l G S (3 * n + 5) dd ∧ ExprC l G S (3 * n + 6) dd := by
  intro n
  have fin : ∀ (n : Nat) (dd : Int), 0 ≤ dd → dd ≤ 30 → FactC l G S (3 * n + 4) dd → FactC l G S (3 * n + 4) dd ∧ TermC l G S (3 * n + 5) dd ∧ ExprC l G S (3 * n + 6) dd := fun n dd h0 h1 hF =>
    have hT : TermC l G S (3 * n + 5) dd := fun a ha => t_X8_term l G S hA hS ⟨h0, h1⟩ (d1 := 3 * n + 4) (by omega) (by omega) hF ha
    ⟨hF, hT, fun a ha => t_X8_expression l G S hA hS ⟨h0, h1⟩ (d1 := 3 * n + 5) (by omega) (by omega) hT ha⟩
  induction n with
  | zero =>
    intro dd h0 h1 h2
    exact fin 0 dd h0 h1 (fun a ha => t_X8_factor l G S hA hS ⟨h0, h1⟩ (d1 := 0) (d2 := 0) (by omega) (by omega) (by omega) (fun h => absurd h (by omega)) (fun h => absurd h (by omega)) ha)
  | succ n ih =>
    intro dd h0 h1 h2
    exact fin (n + 1) dd h0 h1 (fun a ha => t_X8_factor l G S hA hS ⟨h0, h1⟩ (d1 := 3 * n + 6) (d2 := 3 * n + 4) (by omega) (by omega) (by omega) (fun h => (ih (dd + 1) (by omega) (by omega) (by omega)).2.2) (fun h => (ih (dd + 1) (by omega) (by omega) (by omega)).1) ha)
theorem syn_expr (l : Launch) (G : sG) (S : sS) (hA : SynAt G S) (hS : SynOK S) : ExprC l G S 96 0 := (syn_all l G S hA hS 30 0 (by decide) (by decide) (by decide)).2.2
