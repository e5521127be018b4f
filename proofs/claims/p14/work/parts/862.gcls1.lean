/-! The class's parser and the grammar -/
def OZ (S : sS) : Prop := 0 < S.1 12 3 ∧ kd S (S.1 12 3 - 1) ≤ 1
theorem kd_in {S : sS} {t : Int} (h0 : 0 ≤ t) (h1 : t < S.1 12 3) : kd S t = S.2.1 13 t := if_pos ⟨h0, h1⟩
theorem kd_out {S : sS} : ∀ t, S.1 12 3 ≤ t → kd S t = 0 := fun t h => if_neg (by omega)
theorem OZ.ne {S : sS} {a c : Int} (h : OZ S) (e : kd S a = c) (hc : 2 ≤ c) (h1 : a ≤ S.1 12 3 - 1) : a + 1 ≤ S.1 12 3 - 1 := by
  by_cases q : a = S.1 12 3 - 1
  · have := h.2; rw [← q] at this; omega
  · omega
def OPost (S : sS) (a : Int) (o : Option Int) (r : Int) (u : sS) : Prop := ∃ a2 : Int, u = uF S 12 4 a2 ∧ a ≤ a2 ∧ a2 ≤ S.1 12 3 - 1 ∧ (0 ≤ r ∧ r ≤ 1) ∧ Hd (r = 1 → o = some a2) ∧ Hd (r = 0 → o = none)
def OExC (l : Launch) (G : sG) (S : sS) (D : Nat) (n : Nat) (dd : Int) : Prop := ∀ a : Int, 0 ≤ a ∧ a ≤ S.1 12 3 - 1 → Met l yX8_expression (.code yX8_expression cX8_expression 3 (some .boolean) :: tb) (rmk D 0 0) (sPc G 294 (uF S 12 4 a) [.ref (G.2.2.1 + 12), .int (iv dd)]) (sQi G 294 (OPost S a (ogU (S.1 12 3) (kd S) (ogF (S.1 12 3) (kd S) n) a))) 0 0 (sF G)
def OTeC (l : Launch) (G : sG) (S : sS) (D : Nat) (n : Nat) (dd : Int) : Prop := ∀ a : Int, 0 ≤ a ∧ a ≤ S.1 12 3 - 1 → Met l yX8_term (.code yX8_term cX8_term 3 (some .boolean) :: tb) (rmk D 0 0) (sPc G 294 (uF S 12 4 a) [.ref (G.2.2.1 + 12), .int (iv dd)]) (sQi G 294 (OPost S a (ogP (S.1 12 3) (kd S) (ogF (S.1 12 3) (kd S) n) a))) 0 0 (sF G)
def OFaC (l : Launch) (G : sG) (S : sS) (D : Nat) (n : Nat) (dd : Int) : Prop := ∀ a : Int, 0 ≤ a ∧ a ≤ S.1 12 3 - 1 → Met l yX8_factor (.code yX8_factor cX8_factor 2 (some .boolean) :: tb) (rmk D 0 0) (sPc G 294 (uF S 12 4 a) [.ref (G.2.2.1 + 12), .int (iv dd)]) (sQi G 294 (OPost S a (ogF (S.1 12 3) (kd S) n a))) 0 0 (sF G)
set_option maxRecDepth 100000 in
set_option maxHeartbeats 4000000 in
theorem o_X8_kind (l : Launch) (G : sG) (S : sS) {a k : Int} (hA : SynAt G S) (hS : SynOK S) (hZ : OZ S) (hk : -2147483648 ≤ k ∧ k ≤ 2147483647) : Met l yX8_kind (.code yX8_kind cX8_kind 2 (some .int) :: tb) (rmk 1 0 0) (sPc G 294 (uF S 12 4 a) [.ref (G.2.2.1 + 12), .int (iv k)]) (sQi G 294 (fun r u => u = uF S 12 4 a ∧ 0 ≤ r ∧ r ≤ 26 ∧ r = kd S k)) 0 0 (sF G) := by
  refine sEnter (by decide) (Nat.le_of_ble_eq_true rfl) ?_
  intro p e s m args below meth c Cx hr hlk hnm hW ls hl
  have Cx : sC G p m c cX8_kind 2 s args RX8 := Cx
  obtain ⟨hx, hb, hml, hown, hts⟩ := id Cx.1
  have hL : sL G [] := sL_nil
  have hl : lv_has ls 2 [(0, .ref (G.2.2.1 + 12)), (1, .int (iv k))] := hl
  obtain ⟨hr0, hr1, hr2⟩ := id hA
  obtain ⟨ht, hki, hst, hva⟩ := id hS
  have hz0 := hZ.1
  refine lv_iload_n hx hb dX8_kind_0 rfl (lv_at hl 1 rfl) ?_
  refine r_if_lt (tgt := 21) hx hb ⟨(by omega), (by omega)⟩ dX8_kind_1 (by decide) (fun c_1 => ?_) (fun c_1 => ?_)
  · refine lv_iconst (v := iv 0) hx hb dX8_kind_21 (by decide) ?_
    exact sIret Cx hr hlk hW hL ⟨rfl, by omega, by omega, (by unfold kd; rw [if_neg (by omega)])⟩ dX8_kind_22
  · refine lv_iload_n hx hb dX8_kind_4 rfl (lv_at hl 1 rfl) ?_
    refine lv_aload_n hx hb dX8_kind_5 rfl (lv_at hl 0 rfl) ?_
    refine g_X8_22 Cx hW (k := 12) (by decide) rfl (v := S.1 12 3) (uF_ne (fun h => absurd h.2 (by decide))) dX8_kind_6 ?_
    refine r_icmp_ge (tgt := 21) hx hb ⟨(by omega), (by omega)⟩ ⟨(by omega), (by omega)⟩ dX8_kind_9 (by decide) (fun c_2 => ?_) (fun c_2 => ?_)
    · refine lv_iconst (v := iv 0) hx hb dX8_kind_21 (by decide) ?_
      exact sIret Cx hr hlk hW hL ⟨rfl, by omega, by omega, (by unfold kd; rw [if_neg (by omega)])⟩ dX8_kind_22
    · refine lv_aload_n hx hb dX8_kind_12 rfl (lv_at hl 0 rfl) ?_
      refine g_X8_11 Cx hW (k := 12) (by decide) rfl (v := .ref (G.2.2.1 + 13)) hr0 dX8_kind_13 ?_
      refine lv_iload_n hx hb dX8_kind_16 rfl (lv_at hl 1 rfl) ?_
      refine rIald Cx hW (k := 13) (by decide) rfl (by decide) (by omega) (by omega) dX8_kind_17 ?_
      refine r_i (b := S.2.1 13 k) rfl ?_
      have q_3 := hki k (by omega) (by omega)
      refine lv_goto (tgt := 22) hx hb dX8_kind_18 (by decide) ?_
      exact sIret Cx hr hlk hW hL ⟨rfl, by omega, by omega, (by unfold kd; rw [if_pos ⟨by omega, by omega⟩])⟩ dX8_kind_22

set_option maxRecDepth 100000 in
set_option maxHeartbeats 4000000 in
theorem o_X8_is (l : Launch) (G : sG) (S : sS) {a k : Int} (hA : SynAt G S) (hS : SynOK S) (hZ : OZ S) (ha : 0 ≤ a ∧ a ≤ S.1 12 3 - 1) (hk : 0 ≤ k ∧ k ≤ 26) : Met l yX8_is (.code yX8_is cX8_is 2 (some .boolean) :: tb) (rmk 1 0 0) (sPc G 294 (uF S 12 4 a) [.ref (G.2.2.1 + 12), .int (iv k)]) (sQi G 294 (fun r u => u = uF S 12 4 a ∧ (0 ≤ r ∧ r ≤ 1) ∧ Hd (r = 1 → kd S a = k) ∧ Hd (r = 0 → ¬ kd S a = k))) 0 0 (sF G) := by
  refine sEnter (by decide) (Nat.le_of_ble_eq_true rfl) ?_
  intro p e s m args below meth c Cx hr hlk hnm hW ls hl
  have Cx : sC G p m c cX8_is 2 s args RX8 := Cx
  obtain ⟨hx, hb, hml, hown, hts⟩ := id Cx.1
  have hL : sL G [] := sL_nil
  have hl : lv_has ls 2 [(0, .ref (G.2.2.1 + 12)), (1, .int (iv k))] := hl
  obtain ⟨hr0, hr1, hr2⟩ := id hA
  obtain ⟨ht, hki, hst, hva⟩ := id hS
  have hz0 := hZ.1
  refine lv_aload_n hx hb dX8_is_0 rfl (lv_at hl 0 rfl) ?_
  refine g_X8_26 Cx hW (k := 12) (by decide) rfl (v := a) uF_on dX8_is_1 ?_
  refine lv_aload_n hx hb dX8_is_4 rfl (lv_at hl 0 rfl) ?_
  refine g_X8_22 Cx hW (k := 12) (by decide) rfl (v := S.1 12 3) (uF_ne (fun h => absurd h.2 (by decide))) dX8_is_5 ?_
  refine r_icmp_ge (tgt := 28) hx hb ⟨(by omega), (by omega)⟩ ⟨(by omega), (by omega)⟩ dX8_is_8 (by decide) (fun c_1 => ?_) (fun c_1 => ?_)
  · refine lv_iconst (v := iv 0) hx hb dX8_is_28 (by decide) ?_
    exact sZret Cx hr hlk hW hL (by omega) ⟨rfl, by omega, (fun h => absurd h (by decide)), (fun _ => by rw [kd_in (by omega) (by omega)]; omega)⟩ dX8_is_29
  · refine lv_aload_n hx hb dX8_is_11 rfl (lv_at hl 0 rfl) ?_
    refine g_X8_11 Cx hW (k := 12) (by decide) rfl (v := .ref (G.2.2.1 + 13)) hr0 dX8_is_12 ?_
    refine lv_aload_n hx hb dX8_is_15 rfl (lv_at hl 0 rfl) ?_
    refine g_X8_26 Cx hW (k := 12) (by decide) rfl (v := a) uF_on dX8_is_16 ?_
    refine rIald Cx hW (k := 13) (by decide) rfl (by decide) (by omega) (by omega) dX8_is_19 ?_
    refine r_i (b := S.2.1 13 a) rfl ?_
    have q_2 := hki a (by omega) (by omega)
    refine lv_iload_n hx hb dX8_is_20 rfl (lv_at hl 1 rfl) ?_
    refine r_icmp_ne (tgt := 28) hx hb ⟨(by omega), (by omega)⟩ ⟨(by omega), (by omega)⟩ dX8_is_21 (by decide) (fun c_3 => ?_) (fun c_3 => ?_)
    · refine lv_iconst (v := iv 0) hx hb dX8_is_28 (by decide) ?_
      exact sZret Cx hr hlk hW hL (by omega) ⟨rfl, by omega, (fun h => absurd h (by decide)), (fun _ => by rw [kd_in (by omega) (by omega)]; omega)⟩ dX8_is_29
    · refine lv_iconst (v := iv 1) hx hb dX8_is_24 (by decide) ?_
      refine lv_goto (tgt := 29) hx hb dX8_is_25 (by decide) ?_
      exact sZret Cx hr hlk hW hL (by omega) ⟨rfl, by omega, (fun _ => by rw [kd_in (by omega) (by omega)]; omega), (fun h => absurd h (by decide))⟩ dX8_is_29

set_option maxRecDepth 100000 in
set_option maxHeartbeats 4000000 in
theorem o_X8_pass (l : Launch) (G : sG) (S : sS) {a k : Int} (hA : SynAt G S) (hS : SynOK S) (hZ : OZ S) (ha : 0 ≤ a ∧ a ≤ S.1 12 3 - 1) (hk : 2 ≤ k ∧ k ≤ 26) : Met l yX8_pass (.code yX8_pass cX8_pass 2 (some .boolean) :: tb) (rmk 1 0 0) (sPc G 294 (uF S 12 4 a) [.ref (G.2.2.1 + 12), .int (iv k)]) (sQi G 294 (fun r u => ∃ a2 : Int, u = uF S 12 4 a2 ∧ a ≤ a2 ∧ a2 ≤ S.1 12 3 - 1 ∧ (0 ≤ r ∧ r ≤ 1 ∧ a2 = a + r) ∧ Hd (r = 1 → kd S a = k ∧ a2 = a + 1) ∧ Hd (r = 0 → ¬ kd S a = k ∧ a2 = a))) 0 0 (sF G) := by
  refine sEnter (by decide) (Nat.le_of_ble_eq_true rfl) ?_
  intro p e s m args below meth c Cx hr hlk hnm hW ls hl
  have Cx : sC G p m c cX8_pass 2 s args RX8 := Cx
  obtain ⟨hx, hb, hml, hown, hts⟩ := id Cx.1
  have hL : sL G [] := sL_nil
  have hl : lv_has ls 2 [(0, .ref (G.2.2.1 + 12)), (1, .int (iv k))] := hl
  obtain ⟨hr0, hr1, hr2⟩ := id hA
  obtain ⟨ht, hki, hst, hva⟩ := id hS
  have hz0 := hZ.1
  refine lv_aload_n hx hb dX8_pass_0 rfl (lv_at hl 0 rfl) ?_
  refine g_X8_26 Cx hW (k := 12) (by decide) rfl (v := a) uF_on dX8_pass_1 ?_
  refine lv_aload_n hx hb dX8_pass_4 rfl (lv_at hl 0 rfl) ?_
  refine g_X8_22 Cx hW (k := 12) (by decide) rfl (v := S.1 12 3) (uF_ne (fun h => absurd h.2 (by decide))) dX8_pass_5 ?_
  refine r_icmp_ge (tgt := 24) hx hb ⟨(by omega), (by omega)⟩ ⟨(by omega), (by omega)⟩ dX8_pass_8 (by decide) (fun c_1 => ?_) (fun c_1 => ?_)
  · refine lv_iconst (v := iv 0) hx hb dX8_pass_24 (by decide) ?_
    exact sZret Cx hr hlk hW hL (by omega) ⟨a, rfl, by omega, by omega, by omega, (fun h => absurd h (by decide)), (fun _ => ⟨by rw [kd_in (by omega) (by omega)]; omega, rfl⟩)⟩ dX8_pass_25
  · refine lv_aload_n hx hb dX8_pass_11 rfl (lv_at hl 0 rfl) ?_
    refine g_X8_11 Cx hW (k := 12) (by decide) rfl (v := .ref (G.2.2.1 + 13)) hr0 dX8_pass_12 ?_
    refine lv_aload_n hx hb dX8_pass_15 rfl (lv_at hl 0 rfl) ?_
    refine g_X8_26 Cx hW (k := 12) (by decide) rfl (v := a) uF_on dX8_pass_16 ?_
    refine rIald Cx hW (k := 13) (by decide) rfl (by decide) (by omega) (by omega) dX8_pass_19 ?_
    refine r_i (b := S.2.1 13 a) rfl ?_
    have q_2 := hki a (by omega) (by omega)
    refine lv_iload_n hx hb dX8_pass_20 rfl (lv_at hl 1 rfl) ?_
    refine r_icmp_eq (tgt := 26) hx hb ⟨(by omega), (by omega)⟩ ⟨(by omega), (by omega)⟩ dX8_pass_21 (by decide) (fun c_3 => ?_) (fun c_3 => ?_)
    · refine lv_aload_n hx hb dX8_pass_26 rfl (lv_at hl 0 rfl) ?_
      refine lv_dup hx hb dX8_pass_27 rfl ?_
      refine g_X8_26 Cx hW (k := 12) (by decide) rfl (v := a) uF_on dX8_pass_28 ?_
      refine lv_iconst (v := iv 1) hx hb dX8_pass_31 (by decide) ?_
      refine r_iadd hx hb dX8_pass_32 ?_
      refine p_X8_26 Cx hW hL (k := 12) (by decide) rfl dX8_pass_33 (fun H locs hW hL => ?_)
      rw [uF_uF] at hW
      refine lv_iconst (v := iv 1) hx hb dX8_pass_36 (by decide) ?_
      exact sZret Cx hr hlk hW hL (by omega) ⟨a + 1, rfl, by omega, (by have q1 := OZ.ne hZ (a := a) (c := k) (by rw [kd_in (by omega) (by omega)]; omega) (by omega) (by omega); omega), by omega, (fun _ => ⟨by rw [kd_in (by omega) (by omega)]; omega, by omega⟩), (fun h => absurd h (by decide))⟩ dX8_pass_37
    · refine lv_iconst (v := iv 0) hx hb dX8_pass_24 (by decide) ?_
      exact sZret Cx hr hlk hW hL (by omega) ⟨a, rfl, by omega, by omega, by omega, (fun h => absurd h (by decide)), (fun _ => ⟨by rw [kd_in (by omega) (by omega)]; omega, rfl⟩)⟩ dX8_pass_25

set_option maxRecDepth 100000 in
set_option maxHeartbeats 4000000 in
theorem o_X8_indexes (l : Launch) (G : sG) (S : sS) {a : Int} (hA : SynAt G S) (hS : SynOK S) (hZ : OZ S) (ha : 0 ≤ a ∧ a ≤ S.1 12 3 - 1) : Met l yX8_indexes (.code yX8_indexes cX8_indexes 1 (some .boolean) :: tb) (rmk 2 0 0) (sPc G 294 (uF S 12 4 a) [.ref (G.2.2.1 + 12)]) (sQi G 294 (OPost S a (ogI (kd S) a))) 0 0 (sF G) := by
  refine sEnter (by decide) (Nat.le_of_ble_eq_true rfl) ?_
  intro p e s m args below meth c Cx hr hlk hnm hW ls hl
  have Cx : sC G p m c cX8_indexes 1 s args RX8 := Cx
  obtain ⟨hx, hb, hml, hown, hts⟩ := id Cx.1
  have hL : sL G [] := sL_nil
  have hl : lv_has ls 1 [(0, .ref (G.2.2.1 + 12))] := hl
  obtain ⟨hr0, hr1, hr2⟩ := id hA
  obtain ⟨ht, hki, hst, hva⟩ := id hS
  have hz0 := hZ.1
  refine lv_aload_n hx hb dX8_indexes_0 rfl (lv_at hl 0 rfl) ?_
  refine lv_bipush (v := iv 17) hx hb dX8_indexes_1 (by decide) ?_
  refine sBi (sV (As := [.int (iv 17)]) (rest := []) (k := 12) Cx (o_X8_pass l G S hA hS hZ (a := a) (k := 17) (by omega) (by omega)) (c_X8_92 Cx rfl rfl (rmk_ok (by omega) (by decide))) hW (by decide) rfl rfl rfl hl.1 rfl (Nat.le_of_ble_eq_true rfl) dX8_indexes_3 ⟨Nat.le_of_ble_eq_true rfl, Nat.le_of_ble_eq_true rfl⟩) hL (fun r_3 u_1 H locs k_2 hW hL => ?_)
  obtain ⟨au_1, eu_1, xu_1, yu_1, zu_1, pu_1, nu_1⟩ := k_2
  rw [eu_1] at hW
  refine r_if_ne (tgt := 11) hx hb ⟨(by omega), (by omega)⟩ dX8_indexes_6 (by decide) (fun c_4 => ?_) (fun c_4 => ?_)
  · refine lv_aload_n hx hb dX8_indexes_11 rfl (lv_at hl 0 rfl) ?_
    refine lv_iconst (v := iv 2) hx hb dX8_indexes_12 (by decide) ?_
    refine sBi (sV (As := [.int (iv 2)]) (rest := []) (k := 12) Cx (o_X8_pass l G S hA hS hZ (a := au_1) (k := 2) (by omega) (by omega)) (c_X8_92 Cx rfl rfl (rmk_ok (by omega) (by decide))) hW (by decide) rfl rfl rfl hl.1 rfl (Nat.le_of_ble_eq_true rfl) dX8_indexes_13 ⟨Nat.le_of_ble_eq_true rfl, Nat.le_of_ble_eq_true rfl⟩) hL (fun r_7 u_5 H locs k_6 hW hL => ?_)
    obtain ⟨au_5, eu_5, xu_5, yu_5, zu_5, pu_5, nu_5⟩ := k_6
    rw [eu_5] at hW
    refine r_if_ne (tgt := 21) hx hb ⟨(by omega), (by omega)⟩ dX8_indexes_16 (by decide) (fun c_8 => ?_) (fun c_8 => ?_)
    · refine lv_aload_n hx hb dX8_indexes_21 rfl (lv_at hl 0 rfl) ?_
      refine lv_bipush (v := iv 16) hx hb dX8_indexes_22 (by decide) ?_
      refine sBi (sV (As := [.int (iv 16)]) (rest := []) (k := 12) Cx (o_X8_pass l G S hA hS hZ (a := au_5) (k := 16) (by omega) (by omega)) (c_X8_92 Cx rfl rfl (rmk_ok (by omega) (by decide))) hW (by decide) rfl rfl rfl hl.1 rfl (Nat.le_of_ble_eq_true rfl) dX8_indexes_24 ⟨Nat.le_of_ble_eq_true rfl, Nat.le_of_ble_eq_true rfl⟩) hL (fun r_11 u_9 H locs k_10 hW hL => ?_)
      obtain ⟨au_9, eu_9, xu_9, yu_9, zu_9, pu_9, nu_9⟩ := k_10
      rw [eu_9] at hW
      refine r_if_eq (tgt := 40) hx hb ⟨(by omega), (by omega)⟩ dX8_indexes_27 (by decide) (fun c_12 => ?_) (fun c_12 => ?_)
      · refine lv_aload_n hx hb dX8_indexes_40 rfl (lv_at hl 0 rfl) ?_
        refine lv_bipush (v := iv 18) hx hb dX8_indexes_41 (by decide) ?_
        refine sBi (sV (As := [.int (iv 18)]) (rest := []) (k := 12) Cx (o_X8_pass l G S hA hS hZ (a := au_9) (k := 18) (by omega) (by omega)) (c_X8_92 Cx rfl rfl (rmk_ok (by omega) (by decide))) hW (by decide) rfl rfl rfl hl.1 rfl (Nat.le_of_ble_eq_true rfl) dX8_indexes_43 ⟨Nat.le_of_ble_eq_true rfl, Nat.le_of_ble_eq_true rfl⟩) hL (fun r_15 u_13 H locs k_14 hW hL => ?_)
        obtain ⟨au_13, eu_13, xu_13, yu_13, zu_13, pu_13, nu_13⟩ := k_14
        rw [eu_13] at hW
        exact sZret Cx hr hlk hW hL (by omega) ⟨au_13, rfl, by omega, by omega, by omega, (fun h => by obtain ⟨fu_1, su_1⟩ := pu_1 (by omega); subst au_1; obtain ⟨fu_5, su_5⟩ := pu_5 (by omega); subst au_5; obtain ⟨fu_9, su_9⟩ := nu_9 (by omega); subst au_9; obtain ⟨fu_13, su_13⟩ := pu_13 h; subst au_13; simp only [ogI, ogT, fu_1, fu_5, fu_9, fu_13, reduceIte, Option.bind_some, Option.bind_none, or_true, true_or, or_self, or_false, false_or, Int.reduceEq, Option.some.injEq, reduceCtorEq]), (fun h => by obtain ⟨fu_1, su_1⟩ := pu_1 (by omega); subst au_1; obtain ⟨fu_5, su_5⟩ := pu_5 (by omega); subst au_5; obtain ⟨fu_9, su_9⟩ := nu_9 (by omega); subst au_9; obtain ⟨fu_13, su_13⟩ := nu_13 h; subst au_13; simp only [ogI, ogT, fu_1, fu_5, fu_9, fu_13, reduceIte, Option.bind_some, Option.bind_none, or_true, true_or, or_self, or_false, false_or, Int.reduceEq, Option.some.injEq, reduceCtorEq])⟩ dX8_indexes_46
      · refine lv_aload_n hx hb dX8_indexes_30 rfl (lv_at hl 0 rfl) ?_
        refine lv_iconst (v := iv 2) hx hb dX8_indexes_31 (by decide) ?_
        refine sBi (sV (As := [.int (iv 2)]) (rest := []) (k := 12) Cx (o_X8_pass l G S hA hS hZ (a := au_9) (k := 2) (by omega) (by omega)) (c_X8_92 Cx rfl rfl (rmk_ok (by omega) (by decide))) hW (by decide) rfl rfl rfl hl.1 rfl (Nat.le_of_ble_eq_true rfl) dX8_indexes_32 ⟨Nat.le_of_ble_eq_true rfl, Nat.le_of_ble_eq_true rfl⟩) hL (fun r_18 u_16 H locs k_17 hW hL => ?_)
        obtain ⟨au_16, eu_16, xu_16, yu_16, zu_16, pu_16, nu_16⟩ := k_17
        rw [eu_16] at hW
        refine r_if_ne (tgt := 40) hx hb ⟨(by omega), (by omega)⟩ dX8_indexes_35 (by decide) (fun c_19 => ?_) (fun c_19 => ?_)
        · refine lv_aload_n hx hb dX8_indexes_40 rfl (lv_at hl 0 rfl) ?_
          refine lv_bipush (v := iv 18) hx hb dX8_indexes_41 (by decide) ?_
          refine sBi (sV (As := [.int (iv 18)]) (rest := []) (k := 12) Cx (o_X8_pass l G S hA hS hZ (a := au_16) (k := 18) (by omega) (by omega)) (c_X8_92 Cx rfl rfl (rmk_ok (by omega) (by decide))) hW (by decide) rfl rfl rfl hl.1 rfl (Nat.le_of_ble_eq_true rfl) dX8_indexes_43 ⟨Nat.le_of_ble_eq_true rfl, Nat.le_of_ble_eq_true rfl⟩) hL (fun r_22 u_20 H locs k_21 hW hL => ?_)
          obtain ⟨au_20, eu_20, xu_20, yu_20, zu_20, pu_20, nu_20⟩ := k_21
          rw [eu_20] at hW
          exact sZret Cx hr hlk hW hL (by omega) ⟨au_20, rfl, by omega, by omega, by omega, (fun h => by obtain ⟨fu_1, su_1⟩ := pu_1 (by omega); subst au_1; obtain ⟨fu_5, su_5⟩ := pu_5 (by omega); subst au_5; obtain ⟨fu_9, su_9⟩ := pu_9 (by omega); subst au_9; obtain ⟨fu_16, su_16⟩ := pu_16 (by omega); subst au_16; obtain ⟨fu_20, su_20⟩ := pu_20 h; subst au_20; simp only [ogI, ogT, fu_1, fu_5, fu_9, fu_16, fu_20, reduceIte, Option.bind_some, Option.bind_none, or_true, true_or, or_self, or_false, false_or, Int.reduceEq, Option.some.injEq, reduceCtorEq]), (fun h => by obtain ⟨fu_1, su_1⟩ := pu_1 (by omega); subst au_1; obtain ⟨fu_5, su_5⟩ := pu_5 (by omega); subst au_5; obtain ⟨fu_9, su_9⟩ := pu_9 (by omega); subst au_9; obtain ⟨fu_16, su_16⟩ := pu_16 (by omega); subst au_16; obtain ⟨fu_20, su_20⟩ := nu_20 h; subst au_20; simp only [ogI, ogT, fu_1, fu_5, fu_9, fu_16, fu_20, reduceIte, Option.bind_some, Option.bind_none, or_true, true_or, or_self, or_false, false_or, Int.reduceEq, Option.some.injEq, reduceCtorEq])⟩ dX8_indexes_46
        · refine lv_iconst (v := iv 0) hx hb dX8_indexes_38 (by decide) ?_
          exact sZret Cx hr hlk hW hL (by omega) ⟨au_16, rfl, by omega, by omega, by omega, (fun h => absurd h (by decide)), (fun _ => by obtain ⟨fu_1, su_1⟩ := pu_1 (by omega); subst au_1; obtain ⟨fu_5, su_5⟩ := pu_5 (by omega); subst au_5; obtain ⟨fu_9, su_9⟩ := pu_9 (by omega); subst au_9; obtain ⟨fu_16, su_16⟩ := nu_16 (by omega); subst au_16; simp only [ogI, ogT, fu_1, fu_5, fu_9, fu_16, reduceIte, Option.bind_some, Option.bind_none, or_true, true_or, or_self, or_false, false_or, Int.reduceEq, Option.some.injEq, reduceCtorEq])⟩ dX8_indexes_39
    · refine lv_iconst (v := iv 0) hx hb dX8_indexes_19 (by decide) ?_
      exact sZret Cx hr hlk hW hL (by omega) ⟨au_5, rfl, by omega, by omega, by omega, (fun h => absurd h (by decide)), (fun _ => by obtain ⟨fu_1, su_1⟩ := pu_1 (by omega); subst au_1; obtain ⟨fu_5, su_5⟩ := nu_5 (by omega); subst au_5; simp only [ogI, ogT, fu_1, fu_5, reduceIte, Option.bind_some, Option.bind_none, or_true, true_or, or_self, or_false, false_or, Int.reduceEq, Option.some.injEq, reduceCtorEq])⟩ dX8_indexes_20
  · refine lv_iconst (v := iv 1) hx hb dX8_indexes_9 (by decide) ?_
    exact sZret Cx hr hlk hW hL (by omega) ⟨au_1, rfl, by omega, by omega, by omega, (fun _ => by obtain ⟨fu_1, su_1⟩ := nu_1 (by omega); subst au_1; simp only [ogI, ogT, fu_1, reduceIte, Option.bind_some, Option.bind_none, or_true, true_or, or_self, or_false, false_or, Int.reduceEq, Option.some.injEq, reduceCtorEq]), (fun h => absurd h (by decide))⟩ dX8_indexes_10

set_option maxRecDepth 100000 in
set_option maxHeartbeats 4000000 in
theorem o_X8_item (l : Launch) (G : sG) (S : sS) {a : Int} (hA : SynAt G S) (hS : SynOK S) (hZ : OZ S) (ha : 0 ≤ a ∧ a ≤ S.1 12 3 - 1) : Met l yX8_item (.code yX8_item cX8_item 1 (some .boolean) :: tb) (rmk 2 0 0) (sPc G 294 (uF S 12 4 a) [.ref (G.2.2.1 + 12)]) (sQi G 294 (OPost S a (ogX (kd S) a))) 0 0 (sF G) := by
  refine sEnter (by decide) (Nat.le_of_ble_eq_true rfl) ?_
  intro p e s m args below meth c Cx hr hlk hnm hW ls hl
  have Cx : sC G p m c cX8_item 1 s args RX8 := Cx
  obtain ⟨hx, hb, hml, hown, hts⟩ := id Cx.1
  have hL : sL G [] := sL_nil
  have hl : lv_has ls 1 [(0, .ref (G.2.2.1 + 12))] := hl
  obtain ⟨hr0, hr1, hr2⟩ := id hA
  obtain ⟨ht, hki, hst, hva⟩ := id hS
  have hz0 := hZ.1
  refine lv_aload_n hx hb dX8_item_0 rfl (lv_at hl 0 rfl) ?_
  refine lv_iconst (v := iv 3) hx hb dX8_item_1 (by decide) ?_
  refine sBi (sV (As := [.int (iv 3)]) (rest := []) (k := 12) Cx (o_X8_pass l G S hA hS hZ (a := a) (k := 3) (by omega) (by omega)) (c_X8_92 Cx rfl rfl (rmk_ok (by omega) (by decide))) hW (by decide) rfl rfl rfl hl.1 rfl (Nat.le_of_ble_eq_true rfl) dX8_item_2 ⟨Nat.le_of_ble_eq_true rfl, Nat.le_of_ble_eq_true rfl⟩) hL (fun r_3 u_1 H locs k_2 hW hL => ?_)
  obtain ⟨au_1, eu_1, xu_1, yu_1, zu_1, pu_1, nu_1⟩ := k_2
  rw [eu_1] at hW
  refine r_if_eq (tgt := 10) hx hb ⟨(by omega), (by omega)⟩ dX8_item_5 (by decide) (fun c_4 => ?_) (fun c_4 => ?_)
  · refine lv_aload_n hx hb dX8_item_10 rfl (lv_at hl 0 rfl) ?_
    refine lv_iconst (v := iv 2) hx hb dX8_item_11 (by decide) ?_
    refine sBi (sV (As := [.int (iv 2)]) (rest := []) (k := 12) Cx (o_X8_pass l G S hA hS hZ (a := au_1) (k := 2) (by omega) (by omega)) (c_X8_92 Cx rfl rfl (rmk_ok (by omega) (by decide))) hW (by decide) rfl rfl rfl hl.1 rfl (Nat.le_of_ble_eq_true rfl) dX8_item_12 ⟨Nat.le_of_ble_eq_true rfl, Nat.le_of_ble_eq_true rfl⟩) hL (fun r_7 u_5 H locs k_6 hW hL => ?_)
    obtain ⟨au_5, eu_5, xu_5, yu_5, zu_5, pu_5, nu_5⟩ := k_6
    rw [eu_5] at hW
    refine r_if_ne (tgt := 20) hx hb ⟨(by omega), (by omega)⟩ dX8_item_15 (by decide) (fun c_8 => ?_) (fun c_8 => ?_)
    · refine lv_aload_n hx hb dX8_item_20 rfl (lv_at hl 0 rfl) ?_
      refine lv_bipush (v := iv 21) hx hb dX8_item_21 (by decide) ?_
      refine sBi (sV (As := [.int (iv 21)]) (rest := []) (k := 12) Cx (o_X8_is l G S hA hS hZ (a := au_5) (k := 21) (by omega) (by omega)) (c_X8_82 Cx rfl rfl (rmk_ok (by omega) (by decide))) hW (by decide) rfl rfl rfl hl.1 rfl (Nat.le_of_ble_eq_true rfl) dX8_item_23 ⟨Nat.le_of_ble_eq_true rfl, Nat.le_of_ble_eq_true rfl⟩) hL (fun r_11 u_9 H locs k_10 hW hL => ?_)
      obtain ⟨eu_9, zu_9, pu_9, nu_9⟩ := k_10
      rw [eu_9] at hW
      have wu_9 : au_5 + r_11 ≤ S.1 12 3 - 1 := (by by_cases h9 : r_11 = 1; (have := OZ.ne hZ (pu_9 h9) (by omega) (by omega); omega); omega)
      refine r_if_ne (tgt := 38) hx hb ⟨(by omega), (by omega)⟩ dX8_item_26 (by decide) (fun c_12 => ?_) (fun c_12 => ?_)
      · refine lv_aload_n hx hb dX8_item_38 rfl (lv_at hl 0 rfl) ?_
        refine lv_dup hx hb dX8_item_39 rfl ?_
        refine g_X8_26 Cx hW (k := 12) (by decide) rfl (v := au_5) uF_on dX8_item_40 ?_
        refine lv_iconst (v := iv 1) hx hb dX8_item_43 (by decide) ?_
        refine r_iadd hx hb dX8_item_44 ?_
        refine p_X8_26 Cx hW hL (k := 12) (by decide) rfl dX8_item_45 (fun H locs hW hL => ?_)
        rw [uF_uF] at hW
        refine lv_aload_n hx hb dX8_item_48 rfl (lv_at hl 0 rfl) ?_
        refine lv_iconst (v := iv 3) hx hb dX8_item_49 (by decide) ?_
        refine sBi (sV (As := [.int (iv 3)]) (rest := []) (k := 12) Cx (o_X8_pass l G S hA hS hZ (a := au_5 + 1) (k := 3) (by omega) (by omega)) (c_X8_92 Cx rfl rfl (rmk_ok (by omega) (by decide))) hW (by decide) rfl rfl rfl hl.1 rfl (Nat.le_of_ble_eq_true rfl) dX8_item_50 ⟨Nat.le_of_ble_eq_true rfl, Nat.le_of_ble_eq_true rfl⟩) hL (fun r_15 u_13 H locs k_14 hW hL => ?_)
        obtain ⟨au_13, eu_13, xu_13, yu_13, zu_13, pu_13, nu_13⟩ := k_14
        rw [eu_13] at hW
        exact sZret Cx hr hlk hW hL (by omega) ⟨au_13, rfl, by omega, by omega, by omega, (fun h => by obtain ⟨fu_1, su_1⟩ := nu_1 (by omega); subst au_1; obtain ⟨fu_5, su_5⟩ := pu_5 (by omega); subst au_5; have fu_9 := pu_9 (by omega); obtain ⟨fu_13, su_13⟩ := pu_13 h; subst au_13; simp only [ogX, ogT, fu_1, fu_5, fu_9, fu_13, reduceIte, Option.bind_some, Option.bind_none, or_true, true_or, or_self, or_false, false_or, Int.reduceEq, Option.some.injEq, reduceCtorEq]), (fun h => by obtain ⟨fu_1, su_1⟩ := nu_1 (by omega); subst au_1; obtain ⟨fu_5, su_5⟩ := pu_5 (by omega); subst au_5; have fu_9 := pu_9 (by omega); obtain ⟨fu_13, su_13⟩ := nu_13 h; subst au_13; simp only [ogX, ogT, fu_1, fu_5, fu_9, fu_13, reduceIte, Option.bind_some, Option.bind_none, or_true, true_or, or_self, or_false, false_or, Int.reduceEq, Option.some.injEq, reduceCtorEq])⟩ dX8_item_53
      · refine lv_aload_n hx hb dX8_item_29 rfl (lv_at hl 0 rfl) ?_
        refine lv_bipush (v := iv 22) hx hb dX8_item_30 (by decide) ?_
        refine sBi (sV (As := [.int (iv 22)]) (rest := []) (k := 12) Cx (o_X8_is l G S hA hS hZ (a := au_5) (k := 22) (by omega) (by omega)) (c_X8_82 Cx rfl rfl (rmk_ok (by omega) (by decide))) hW (by decide) rfl rfl rfl hl.1 rfl (Nat.le_of_ble_eq_true rfl) dX8_item_32 ⟨Nat.le_of_ble_eq_true rfl, Nat.le_of_ble_eq_true rfl⟩) hL (fun r_18 u_16 H locs k_17 hW hL => ?_)
        obtain ⟨eu_16, zu_16, pu_16, nu_16⟩ := k_17
        rw [eu_16] at hW
        have wu_16 : au_5 + r_18 ≤ S.1 12 3 - 1 := (by by_cases h9 : r_18 = 1; (have := OZ.ne hZ (pu_16 h9) (by omega) (by omega); omega); omega)
        refine r_if_eq (tgt := 54) hx hb ⟨(by omega), (by omega)⟩ dX8_item_35 (by decide) (fun c_19 => ?_) (fun c_19 => ?_)
        · refine lv_iconst (v := iv 1) hx hb dX8_item_54 (by decide) ?_
          exact sZret Cx hr hlk hW hL (by omega) ⟨au_5, rfl, by omega, by omega, by omega, (fun _ => by obtain ⟨fu_1, su_1⟩ := nu_1 (by omega); subst au_1; obtain ⟨fu_5, su_5⟩ := pu_5 (by omega); subst au_5; have fu_9 := nu_9 (by omega); have fu_16 := nu_16 (by omega); simp only [ogX, ogT, fu_1, fu_5, fu_9, fu_16, reduceIte, Option.bind_some, Option.bind_none, or_true, true_or, or_self, or_false, false_or, Int.reduceEq, Option.some.injEq, reduceCtorEq]), (fun h => absurd h (by decide))⟩ dX8_item_55
        · refine lv_aload_n hx hb dX8_item_38 rfl (lv_at hl 0 rfl) ?_
          refine lv_dup hx hb dX8_item_39 rfl ?_
          refine g_X8_26 Cx hW (k := 12) (by decide) rfl (v := au_5) uF_on dX8_item_40 ?_
          refine lv_iconst (v := iv 1) hx hb dX8_item_43 (by decide) ?_
          refine r_iadd hx hb dX8_item_44 ?_
          refine p_X8_26 Cx hW hL (k := 12) (by decide) rfl dX8_item_45 (fun H locs hW hL => ?_)
          rw [uF_uF] at hW
          refine lv_aload_n hx hb dX8_item_48 rfl (lv_at hl 0 rfl) ?_
          refine lv_iconst (v := iv 3) hx hb dX8_item_49 (by decide) ?_
          refine sBi (sV (As := [.int (iv 3)]) (rest := []) (k := 12) Cx (o_X8_pass l G S hA hS hZ (a := au_5 + 1) (k := 3) (by omega) (by omega)) (c_X8_92 Cx rfl rfl (rmk_ok (by omega) (by decide))) hW (by decide) rfl rfl rfl hl.1 rfl (Nat.le_of_ble_eq_true rfl) dX8_item_50 ⟨Nat.le_of_ble_eq_true rfl, Nat.le_of_ble_eq_true rfl⟩) hL (fun r_22 u_20 H locs k_21 hW hL => ?_)
          obtain ⟨au_20, eu_20, xu_20, yu_20, zu_20, pu_20, nu_20⟩ := k_21
          rw [eu_20] at hW
          exact sZret Cx hr hlk hW hL (by omega) ⟨au_20, rfl, by omega, by omega, by omega, (fun h => by obtain ⟨fu_1, su_1⟩ := nu_1 (by omega); subst au_1; obtain ⟨fu_5, su_5⟩ := pu_5 (by omega); subst au_5; have fu_9 := nu_9 (by omega); have fu_16 := pu_16 (by omega); obtain ⟨fu_20, su_20⟩ := pu_20 h; subst au_20; simp only [ogX, ogT, fu_1, fu_5, fu_9, fu_16, fu_20, reduceIte, Option.bind_some, Option.bind_none, or_true, true_or, or_self, or_false, false_or, Int.reduceEq, Option.some.injEq, reduceCtorEq]), (fun h => by obtain ⟨fu_1, su_1⟩ := nu_1 (by omega); subst au_1; obtain ⟨fu_5, su_5⟩ := pu_5 (by omega); subst au_5; have fu_9 := nu_9 (by omega); have fu_16 := pu_16 (by omega); obtain ⟨fu_20, su_20⟩ := nu_20 h; subst au_20; simp only [ogX, ogT, fu_1, fu_5, fu_9, fu_16, fu_20, reduceIte, Option.bind_some, Option.bind_none, or_true, true_or, or_self, or_false, false_or, Int.reduceEq, Option.some.injEq, reduceCtorEq])⟩ dX8_item_53
    · refine lv_iconst (v := iv 0) hx hb dX8_item_18 (by decide) ?_
      exact sZret Cx hr hlk hW hL (by omega) ⟨au_5, rfl, by omega, by omega, by omega, (fun h => absurd h (by decide)), (fun _ => by obtain ⟨fu_1, su_1⟩ := nu_1 (by omega); subst au_1; obtain ⟨fu_5, su_5⟩ := nu_5 (by omega); subst au_5; simp only [ogX, ogT, fu_1, fu_5, reduceIte, Option.bind_some, Option.bind_none, or_true, true_or, or_self, or_false, false_or, Int.reduceEq, Option.some.injEq, reduceCtorEq])⟩ dX8_item_19
  · refine lv_iconst (v := iv 1) hx hb dX8_item_8 (by decide) ?_
    exact sZret Cx hr hlk hW hL (by omega) ⟨au_1, rfl, by omega, by omega, by omega, (fun _ => by obtain ⟨fu_1, su_1⟩ := pu_1 (by omega); subst au_1; simp only [ogX, ogT, fu_1, reduceIte, Option.bind_some, Option.bind_none, or_true, true_or, or_self, or_false, false_or, Int.reduceEq, Option.some.injEq, reduceCtorEq]), (fun h => absurd h (by decide))⟩ dX8_item_9

set_option maxRecDepth 100000 in
set_option maxHeartbeats 4000000 in
theorem o_X8_items (l : Launch) (G : sG) (S : sS) {a : Int} (hA : SynAt G S) (hS : SynOK S) (hZ : OZ S) (ha : 0 ≤ a ∧ a ≤ S.1 12 3 - 1) : Met l yX8_items (.code yX8_items cX8_items 1 (some .boolean) :: tb) (rmk 3 0 0) (sPc G 294 (uF S 12 4 a) [.ref (G.2.2.1 + 12)]) (sQi G 294 (OPost S a (ogXs (kd S) a))) 0 0 (sF G) := by
  refine sEnter (by decide) (Nat.le_of_ble_eq_true rfl) ?_
  intro p e s m args below meth c Cx hr hlk hnm hW ls hl
  have Cx : sC G p m c cX8_items 1 s args RX8 := Cx
  obtain ⟨hx, hb, hml, hown, hts⟩ := id Cx.1
  have hL : sL G [] := sL_nil
  have hl : lv_has ls 1 [(0, .ref (G.2.2.1 + 12))] := hl
  obtain ⟨hr0, hr1, hr2⟩ := id hA
  obtain ⟨ht, hki, hst, hva⟩ := id hS
  have hz0 := hZ.1
  refine lv_aload_n hx hb dX8_items_0 rfl (lv_at hl 0 rfl) ?_
  refine sBi (sV (As := []) (rest := []) (k := 12) Cx (o_X8_item l G S hA hS hZ (a := a) (by omega)) (c_X8_116 Cx rfl rfl (rmk_ok (by omega) (by decide))) hW (by decide) rfl rfl rfl hl.1 rfl (Nat.le_of_ble_eq_true rfl) dX8_items_1 ⟨Nat.le_of_ble_eq_true rfl, Nat.le_of_ble_eq_true rfl⟩) hL (fun r_3 u_1 H locs k_2 hW hL => ?_)
  obtain ⟨au_1, eu_1, xu_1, yu_1, zu_1, pu_1, nu_1⟩ := k_2
  rw [eu_1] at hW
  refine r_if_ne (tgt := 9) hx hb ⟨(by omega), (by omega)⟩ dX8_items_4 (by decide) (fun c_4 => ?_) (fun c_4 => ?_)
  · refine lv_aload_n hx hb dX8_items_9 rfl (lv_at hl 0 rfl) ?_
    refine lv_bipush (v := iv 16) hx hb dX8_items_10 (by decide) ?_
    refine sBi (sV (As := [.int (iv 16)]) (rest := []) (k := 12) Cx (o_X8_pass l G S hA hS hZ (a := au_1) (k := 16) (by omega) (by omega)) (c_X8_92 Cx rfl rfl (rmk_ok (by omega) (by decide))) hW (by decide) rfl rfl rfl hl.1 rfl (Nat.le_of_ble_eq_true rfl) dX8_items_12 ⟨Nat.le_of_ble_eq_true rfl, Nat.le_of_ble_eq_true rfl⟩) hL (fun r_7 u_5 H locs k_6 hW hL => ?_)
    obtain ⟨au_5, eu_5, xu_5, yu_5, zu_5, pu_5, nu_5⟩ := k_6
    rw [eu_5] at hW
    refine r_if_eq (tgt := 27) hx hb ⟨(by omega), (by omega)⟩ dX8_items_15 (by decide) (fun c_8 => ?_) (fun c_8 => ?_)
    · refine lv_aload_n hx hb dX8_items_27 rfl (lv_at hl 0 rfl) ?_
      refine lv_bipush (v := iv 18) hx hb dX8_items_28 (by decide) ?_
      refine sBi (sV (As := [.int (iv 18)]) (rest := []) (k := 12) Cx (o_X8_pass l G S hA hS hZ (a := au_5) (k := 18) (by omega) (by omega)) (c_X8_92 Cx rfl rfl (rmk_ok (by omega) (by decide))) hW (by decide) rfl rfl rfl hl.1 rfl (Nat.le_of_ble_eq_true rfl) dX8_items_30 ⟨Nat.le_of_ble_eq_true rfl, Nat.le_of_ble_eq_true rfl⟩) hL (fun r_11 u_9 H locs k_10 hW hL => ?_)
      obtain ⟨au_9, eu_9, xu_9, yu_9, zu_9, pu_9, nu_9⟩ := k_10
      rw [eu_9] at hW
      exact sZret Cx hr hlk hW hL (by omega) ⟨au_9, rfl, by omega, by omega, by omega, (fun h => by have fu_1 := pu_1 (by omega); obtain ⟨fu_5, su_5⟩ := nu_5 (by omega); subst au_5; obtain ⟨fu_9, su_9⟩ := pu_9 h; subst au_9; simp only [ogXs, ogT, fu_1, fu_5, fu_9, reduceIte, Option.bind_some, Option.bind_none, or_true, true_or, or_self, or_false, false_or, Int.reduceEq, Option.some.injEq, reduceCtorEq]), (fun h => by have fu_1 := pu_1 (by omega); obtain ⟨fu_5, su_5⟩ := nu_5 (by omega); subst au_5; obtain ⟨fu_9, su_9⟩ := nu_9 h; subst au_9; simp only [ogXs, ogT, fu_1, fu_5, fu_9, reduceIte, Option.bind_some, Option.bind_none, or_true, true_or, or_self, or_false, false_or, Int.reduceEq, Option.some.injEq, reduceCtorEq])⟩ dX8_items_33
    · refine lv_aload_n hx hb dX8_items_18 rfl (lv_at hl 0 rfl) ?_
      refine sBi (sV (As := []) (rest := []) (k := 12) Cx (o_X8_item l G S hA hS hZ (a := au_5) (by omega)) (c_X8_116 Cx rfl rfl (rmk_ok (by omega) (by decide))) hW (by decide) rfl rfl rfl hl.1 rfl (Nat.le_of_ble_eq_true rfl) dX8_items_19 ⟨Nat.le_of_ble_eq_true rfl, Nat.le_of_ble_eq_true rfl⟩) hL (fun r_14 u_12 H locs k_13 hW hL => ?_)
      obtain ⟨au_12, eu_12, xu_12, yu_12, zu_12, pu_12, nu_12⟩ := k_13
      rw [eu_12] at hW
      refine r_if_ne (tgt := 27) hx hb ⟨(by omega), (by omega)⟩ dX8_items_22 (by decide) (fun c_15 => ?_) (fun c_15 => ?_)
      · refine lv_aload_n hx hb dX8_items_27 rfl (lv_at hl 0 rfl) ?_
        refine lv_bipush (v := iv 18) hx hb dX8_items_28 (by decide) ?_
        refine sBi (sV (As := [.int (iv 18)]) (rest := []) (k := 12) Cx (o_X8_pass l G S hA hS hZ (a := au_12) (k := 18) (by omega) (by omega)) (c_X8_92 Cx rfl rfl (rmk_ok (by omega) (by decide))) hW (by decide) rfl rfl rfl hl.1 rfl (Nat.le_of_ble_eq_true rfl) dX8_items_30 ⟨Nat.le_of_ble_eq_true rfl, Nat.le_of_ble_eq_true rfl⟩) hL (fun r_18 u_16 H locs k_17 hW hL => ?_)
        obtain ⟨au_16, eu_16, xu_16, yu_16, zu_16, pu_16, nu_16⟩ := k_17
        rw [eu_16] at hW
        exact sZret Cx hr hlk hW hL (by omega) ⟨au_16, rfl, by omega, by omega, by omega, (fun h => by have fu_1 := pu_1 (by omega); obtain ⟨fu_5, su_5⟩ := pu_5 (by omega); subst au_5; have fu_12 := pu_12 (by omega); obtain ⟨fu_16, su_16⟩ := pu_16 h; subst au_16; simp only [ogXs, ogT, fu_1, fu_5, fu_12, fu_16, reduceIte, Option.bind_some, Option.bind_none, or_true, true_or, or_self, or_false, false_or, Int.reduceEq, Option.some.injEq, reduceCtorEq]), (fun h => by have fu_1 := pu_1 (by omega); obtain ⟨fu_5, su_5⟩ := pu_5 (by omega); subst au_5; have fu_12 := pu_12 (by omega); obtain ⟨fu_16, su_16⟩ := nu_16 h; subst au_16; simp only [ogXs, ogT, fu_1, fu_5, fu_12, fu_16, reduceIte, Option.bind_some, Option.bind_none, or_true, true_or, or_self, or_false, false_or, Int.reduceEq, Option.some.injEq, reduceCtorEq])⟩ dX8_items_33
      · refine lv_iconst (v := iv 0) hx hb dX8_items_25 (by decide) ?_
        exact sZret Cx hr hlk hW hL (by omega) ⟨au_12, rfl, by omega, by omega, by omega, (fun h => absurd h (by decide)), (fun _ => by have fu_1 := pu_1 (by omega); obtain ⟨fu_5, su_5⟩ := pu_5 (by omega); subst au_5; have fu_12 := nu_12 (by omega); simp only [ogXs, ogT, fu_1, fu_5, fu_12, reduceIte, Option.bind_some, Option.bind_none, or_true, true_or, or_self, or_false, false_or, Int.reduceEq, Option.some.injEq, reduceCtorEq])⟩ dX8_items_26
  · refine lv_iconst (v := iv 0) hx hb dX8_items_7 (by decide) ?_
    exact sZret Cx hr hlk hW hL (by omega) ⟨au_1, rfl, by omega, by omega, by omega, (fun h => absurd h (by decide)), (fun _ => by have fu_1 := nu_1 (by omega); simp only [ogXs, ogT, fu_1, reduceIte, Option.bind_some, Option.bind_none, or_true, true_or, or_self, or_false, false_or, Int.reduceEq, Option.some.injEq, reduceCtorEq])⟩ dX8_items_8

set_option maxRecDepth 100000 in
set_option maxHeartbeats 4000000 in
theorem o_X8_valueList (l : Launch) (G : sG) (S : sS) {a : Int} (hA : SynAt G S) (hS : SynOK S) (hZ : OZ S) (ha : 0 ≤ a ∧ a ≤ S.1 12 3 - 1) : Met l yX8_valueList (.code yX8_valueList cX8_valueList 2 (some .boolean) :: tb) (rmk 2 0 0) (sPc G 294 (uF S 12 4 a) [.ref (G.2.2.1 + 12)]) (sQi G 294 (OPost S a (ogVs (S.1 12 3) (kd S) a))) 0 0 (sF G) := by
  refine sEnter (by decide) (Nat.le_of_ble_eq_true rfl) ?_
  intro p e s m args below meth c Cx hr hlk hnm hW ls hl
  have Cx : sC G p m c cX8_valueList 2 s args RX8 := Cx
  obtain ⟨hx, hb, hml, hown, hts⟩ := id Cx.1
  have hL : sL G [] := sL_nil
  have hl : lv_has ls 2 [(0, .ref (G.2.2.1 + 12))] := hl
  obtain ⟨hr0, hr1, hr2⟩ := id hA
  obtain ⟨ht, hki, hst, hva⟩ := id hS
  have hz0 := hZ.1
  refine lv_iconst (v := iv 0) hx hb dX8_valueList_0 (by decide) ?_
  refine lv_istore_n (lv' := [(1, .int (iv 0)), (0, .ref (G.2.2.1 + 12))]) hx hb dX8_valueList_1 rfl hl (by decide) rfl (fun ls hl => ?_)
  have loop_2 : ∀ (fuel : Nat) (i : Int) (b : Int) (H : Heap) (locs : List Loc) (ls : Array Slot), ((S.1 12 3) - i).toNat < fuel → (0 ≤ i ∧ i ≤ b) → (a ≤ b ∧ b ≤ (S.1 12 3) - 1) → (ogVs (S.1 12 3) (kd S) a = ogVs (S.1 12 3) (kd S) b) → sW G 294 (uF S 12 4 b) H → sL G locs → lv_has ls 2 [(1, .int (iv i)), (0, .ref (G.2.2.1 + 12))] → W p l e (rmk 2 0 0) s m args below meth c H locs 0 0 (MQ below (sQi G 294 (OPost S a (ogVs (S.1 12 3) (kd S) a))) args s 0 0 (sF G)) (F0 m 2 ls []) := by
    intro fuel
    induction fuel with
    | zero => intro i b H locs ls hmeas hi hb2 hG hW hL hl; exact absurd hmeas (Nat.not_lt_zero _)
    | succ fuel ih_2 =>
      intro i b H locs ls hmeas hi hb2 hG hW hL hl
      refine lv_iload_n hx hb dX8_valueList_2 rfl (lv_at hl 0 rfl) ?_
      refine lv_aload_n hx hb dX8_valueList_3 rfl (lv_at hl 1 rfl) ?_
      refine g_X8_22 Cx hW (k := 12) (by decide) rfl (v := S.1 12 3) (uF_ne (fun h => absurd h.2 (by decide))) dX8_valueList_4 ?_
      refine r_icmp_ge (tgt := 44) hx hb ⟨(by omega), (by omega)⟩ ⟨(by omega), (by omega)⟩ dX8_valueList_7 (by decide) (fun c_1 => ?_) (fun c_1 => ?_)
      · refine lv_iconst (v := iv 0) hx hb dX8_valueList_44 (by decide) ?_
        exact sZret Cx hr hlk hW hL (by omega) ⟨b, rfl, by omega, by omega, by omega, (fun h => absurd h (by decide)), (fun _ => by exfalso; omega)⟩ dX8_valueList_45
      · refine lv_aload_n hx hb dX8_valueList_10 rfl (lv_at hl 1 rfl) ?_
        refine lv_bipush (v := iv 22) hx hb dX8_valueList_11 (by decide) ?_
        refine sBi (sV (As := [.int (iv 22)]) (rest := []) (k := 12) Cx (o_X8_pass l G S hA hS hZ (a := b) (k := 22) (by omega) (by omega)) (c_X8_92 Cx rfl rfl (rmk_ok (by omega) (by decide))) hW (by decide) rfl rfl rfl hl.1 rfl (Nat.le_of_ble_eq_true rfl) dX8_valueList_13 ⟨Nat.le_of_ble_eq_true rfl, Nat.le_of_ble_eq_true rfl⟩) hL (fun r_4 u_2 H locs k_3 hW hL => ?_)
        obtain ⟨au_2, eu_2, xu_2, yu_2, zu_2, pu_2, nu_2⟩ := k_3
        rw [eu_2] at hW
        refine lv_pop hx hb dX8_valueList_16 rfl ?_
        refine lv_aload_n hx hb dX8_valueList_17 rfl (lv_at hl 1 rfl) ?_
        refine lv_iconst (v := iv 3) hx hb dX8_valueList_18 (by decide) ?_
        refine sBi (sV (As := [.int (iv 3)]) (rest := []) (k := 12) Cx (o_X8_pass l G S hA hS hZ (a := au_2) (k := 3) (by omega) (by omega)) (c_X8_92 Cx rfl rfl (rmk_ok (by omega) (by decide))) hW (by decide) rfl rfl rfl hl.1 rfl (Nat.le_of_ble_eq_true rfl) dX8_valueList_19 ⟨Nat.le_of_ble_eq_true rfl, Nat.le_of_ble_eq_true rfl⟩) hL (fun r_7 u_5 H locs k_6 hW hL => ?_)
        obtain ⟨au_5, eu_5, xu_5, yu_5, zu_5, pu_5, nu_5⟩ := k_6
        rw [eu_5] at hW
        refine r_if_ne (tgt := 27) hx hb ⟨(by omega), (by omega)⟩ dX8_valueList_22 (by decide) (fun c_8 => ?_) (fun c_8 => ?_)
        · refine lv_aload_n hx hb dX8_valueList_27 rfl (lv_at hl 1 rfl) ?_
          refine lv_bipush (v := iv 16) hx hb dX8_valueList_28 (by decide) ?_
          refine sBi (sV (As := [.int (iv 16)]) (rest := []) (k := 12) Cx (o_X8_pass l G S hA hS hZ (a := au_5) (k := 16) (by omega) (by omega)) (c_X8_92 Cx rfl rfl (rmk_ok (by omega) (by decide))) hW (by decide) rfl rfl rfl hl.1 rfl (Nat.le_of_ble_eq_true rfl) dX8_valueList_30 ⟨Nat.le_of_ble_eq_true rfl, Nat.le_of_ble_eq_true rfl⟩) hL (fun r_11 u_9 H locs k_10 hW hL => ?_)
          obtain ⟨au_9, eu_9, xu_9, yu_9, zu_9, pu_9, nu_9⟩ := k_10
          rw [eu_9] at hW
          refine r_if_ne (tgt := 38) hx hb ⟨(by omega), (by omega)⟩ dX8_valueList_33 (by decide) (fun c_12 => ?_) (fun c_12 => ?_)
          · refine lv_iinc (v := iv (i + 1)) (lv' := [(1, .int (iv (i + 1))), (0, .ref (G.2.2.1 + 12))]) hx hb dX8_valueList_38 hl (k := 0) rfl ((Int32.ofInt_add _ _).symm) (by decide) rfl (fun ls hl => ?_)
            refine lv_goto (tgt := 2) hx hb dX8_valueList_41 (by decide) ?_
            exact ih_2 (i + 1) au_9 _ _ _ (by omega) (by omega) (by omega) (by rw [hG]; by_cases h1 : r_4 = 0; (obtain ⟨f1, s1⟩ := nu_2 (by omega); subst au_2; obtain ⟨f2, s2⟩ := pu_5 (by omega); subst au_5; obtain ⟨f3, s3⟩ := pu_9 (by omega); subst au_9; rw [show ogVs (S.1 12 3) (kd S) b = ogW (S.1 12 3) (fun p => (kd S) p = 16) (fun p => ogV (kd S) (p + 1)) (b + 1) from (by simp only [ogVs, ogV, ogT, f1, f2, reduceIte, Option.bind_some, Option.bind_none, Int.reduceEq])]; exact ogW16s kd_out f3); (obtain ⟨f1, s1⟩ := pu_2 (by omega); subst au_2; obtain ⟨f2, s2⟩ := pu_5 (by omega); subst au_5; obtain ⟨f3, s3⟩ := pu_9 (by omega); subst au_9; rw [show ogVs (S.1 12 3) (kd S) b = ogW (S.1 12 3) (fun p => (kd S) p = 16) (fun p => ogV (kd S) (p + 1)) (b + 1 + 1) from (by simp only [ogVs, ogV, ogT, f1, f2, reduceIte, Option.bind_some, Option.bind_none, Int.reduceEq])]; exact ogW16s kd_out f3)) hW hL (lv_sub hl [0, 1] rfl)
          · refine lv_iconst (v := iv 1) hx hb dX8_valueList_36 (by decide) ?_
            exact sZret Cx hr hlk hW hL (by omega) ⟨au_9, rfl, by omega, by omega, by omega, (fun _ => by rw [hG]; by_cases hu_2 : r_4 = 0; (obtain ⟨fu_2, su_2⟩ := nu_2 hu_2; subst au_2; obtain ⟨fu_5, su_5⟩ := pu_5 (by omega); subst au_5; obtain ⟨fu_9, su_9⟩ := nu_9 (by omega); subst au_9; simp only [ogVs, ogV, ogT, fu_2, fu_5, fu_9, reduceIte, Option.bind_some, Option.bind_none, or_true, true_or, or_self, or_false, false_or, Int.reduceEq, Option.some.injEq, reduceCtorEq]; exact ogW_no fu_9); (obtain ⟨fu_2, su_2⟩ := pu_2 (by omega); subst au_2; obtain ⟨fu_5, su_5⟩ := pu_5 (by omega); subst au_5; obtain ⟨fu_9, su_9⟩ := nu_9 (by omega); subst au_9; simp only [ogVs, ogV, ogT, fu_2, fu_5, fu_9, reduceIte, Option.bind_some, Option.bind_none, or_true, true_or, or_self, or_false, false_or, Int.reduceEq, Option.some.injEq, reduceCtorEq]; exact ogW_no fu_9)), (fun h => absurd h (by decide))⟩ dX8_valueList_37
        · refine lv_iconst (v := iv 0) hx hb dX8_valueList_25 (by decide) ?_
          exact sZret Cx hr hlk hW hL (by omega) ⟨au_5, rfl, by omega, by omega, by omega, (fun h => absurd h (by decide)), (fun _ => by rw [hG]; by_cases hu_2 : r_4 = 0; (obtain ⟨fu_2, su_2⟩ := nu_2 hu_2; subst au_2; obtain ⟨fu_5, su_5⟩ := nu_5 (by omega); subst au_5; simp only [ogVs, ogV, ogT, fu_2, fu_5, reduceIte, Option.bind_some, Option.bind_none, or_true, true_or, or_self, or_false, false_or, Int.reduceEq, Option.some.injEq, reduceCtorEq]); (obtain ⟨fu_2, su_2⟩ := pu_2 (by omega); subst au_2; obtain ⟨fu_5, su_5⟩ := nu_5 (by omega); subst au_5; simp only [ogVs, ogV, ogT, fu_2, fu_5, reduceIte, Option.bind_some, Option.bind_none, or_true, true_or, or_self, or_false, false_or, Int.reduceEq, Option.some.injEq, reduceCtorEq]))⟩ dX8_valueList_26
  exact loop_2 (_ + 1) 0 a _ _ _ (Nat.lt_succ_self _) (by omega) (by omega) rfl hW hL (lv_sub hl [0, 1] rfl)

set_option maxRecDepth 100000 in
set_option maxHeartbeats 4000000 in
theorem o_X8_declaration (l : Launch) (G : sG) (S : sS) {a : Int} (hA : SynAt G S) (hS : SynOK S) (hZ : OZ S) (ha : 0 ≤ a ∧ a ≤ S.1 12 3 - 1) (hlt : 6 ≤ kd S a ∧ kd S a ≤ 8) : Met l yX8_declaration (.code yX8_declaration cX8_declaration 2 (some .boolean) :: tb) (rmk 3 0 0) (sPc G 294 (uF S 12 4 a) [.ref (G.2.2.1 + 12)]) (sQi G 294 (OPost S a (ogD (S.1 12 3) (kd S) a))) 0 0 (sF G) := by
  refine sEnter (by decide) (Nat.le_of_ble_eq_true rfl) ?_
  intro p e s m args below meth c Cx hr hlk hnm hW ls hl
  have Cx : sC G p m c cX8_declaration 2 s args RX8 := Cx
  obtain ⟨hx, hb, hml, hown, hts⟩ := id Cx.1
  have hL : sL G [] := sL_nil
  have hl : lv_has ls 2 [(0, .ref (G.2.2.1 + 12))] := hl
  obtain ⟨hr0, hr1, hr2⟩ := id hA
  obtain ⟨ht, hki, hst, hva⟩ := id hS
  have hz0 := hZ.1
  have hne := OZ.ne hZ (a := a) (c := kd S a) rfl (by omega) (by omega)
  refine lv_aload_n hx hb dX8_declaration_0 rfl (lv_at hl 0 rfl) ?_
  refine lv_aload_n hx hb dX8_declaration_1 rfl (lv_at hl 0 rfl) ?_
  refine g_X8_26 Cx hW (k := 12) (by decide) rfl (v := a) uF_on dX8_declaration_2 ?_
  refine sBi (sV (As := [.int (iv a)]) (rest := []) (k := 12) Cx (o_X8_kind l G S hA hS hZ (a := a) (k := a) ⟨by omega, by omega⟩) (c_X8_98 Cx rfl rfl (rmk_ok (by omega) (by decide))) hW (by decide) rfl rfl rfl hl.1 rfl (Nat.le_of_ble_eq_true rfl) dX8_declaration_5 ⟨Nat.le_of_ble_eq_true rfl, Nat.le_of_ble_eq_true rfl⟩) hL (fun r_3 u_1 H locs k_2 hW hL => ?_)
  obtain ⟨eu_1, xu_1, yu_1, zu_1⟩ := k_2
  rw [eu_1] at hW
  refine lv_istore_n (lv' := [(1, .int (iv r_3)), (0, .ref (G.2.2.1 + 12))]) hx hb dX8_declaration_8 rfl hl (by decide) rfl (fun ls hl => ?_)
  refine lv_aload_n hx hb dX8_declaration_9 rfl (lv_at hl 1 rfl) ?_
  refine lv_dup hx hb dX8_declaration_10 rfl ?_
  refine g_X8_26 Cx hW (k := 12) (by decide) rfl (v := a) uF_on dX8_declaration_11 ?_
  refine lv_iconst (v := iv 1) hx hb dX8_declaration_14 (by decide) ?_
  refine r_iadd hx hb dX8_declaration_15 ?_
  refine p_X8_26 Cx hW hL (k := 12) (by decide) rfl dX8_declaration_16 (fun H locs hW hL => ?_)
  rw [uF_uF] at hW
  refine lv_aload_n hx hb dX8_declaration_19 rfl (lv_at hl 1 rfl) ?_
  refine lv_iconst (v := iv 2) hx hb dX8_declaration_20 (by decide) ?_
  refine sBi (sV (As := [.int (iv 2)]) (rest := []) (k := 12) Cx (o_X8_pass l G S hA hS hZ (a := a + 1) (k := 2) (by omega) (by omega)) (c_X8_92 Cx rfl rfl (rmk_ok (by omega) (by decide))) hW (by decide) rfl rfl rfl hl.1 rfl (Nat.le_of_ble_eq_true rfl) dX8_declaration_21 ⟨Nat.le_of_ble_eq_true rfl, Nat.le_of_ble_eq_true rfl⟩) hL (fun r_6 u_4 H locs k_5 hW hL => ?_)
  obtain ⟨au_4, eu_4, xu_4, yu_4, zu_4, pu_4, nu_4⟩ := k_5
  rw [eu_4] at hW
  refine r_if_ne (tgt := 29) hx hb ⟨(by omega), (by omega)⟩ dX8_declaration_24 (by decide) (fun c_7 => ?_) (fun c_7 => ?_)
  · refine lv_iload_n hx hb dX8_declaration_29 rfl (lv_at hl 0 rfl) ?_
    refine lv_bipush (v := iv 6) hx hb dX8_declaration_30 (by decide) ?_
    refine r_icmp_ne (tgt := 84) hx hb ⟨(by omega), (by omega)⟩ ⟨(by omega), (by omega)⟩ dX8_declaration_32 (by decide) (fun c_8 => ?_) (fun c_8 => ?_)
    · refine lv_aload_n hx hb dX8_declaration_84 rfl (lv_at hl 1 rfl) ?_
      refine sBi (sV (As := []) (rest := []) (k := 12) Cx (o_X8_indexes l G S hA hS hZ (a := au_4) (by omega)) (c_X8_101 Cx rfl rfl (rmk_ok (by omega) (by decide))) hW (by decide) rfl rfl rfl hl.1 rfl (Nat.le_of_ble_eq_true rfl) dX8_declaration_85 ⟨Nat.le_of_ble_eq_true rfl, Nat.le_of_ble_eq_true rfl⟩) hL (fun r_11 u_9 H locs k_10 hW hL => ?_)
      obtain ⟨au_9, eu_9, xu_9, yu_9, zu_9, pu_9, nu_9⟩ := k_10
      rw [eu_9] at hW
      refine r_if_ne (tgt := 93) hx hb ⟨(by omega), (by omega)⟩ dX8_declaration_88 (by decide) (fun c_12 => ?_) (fun c_12 => ?_)
      · refine lv_iload_n hx hb dX8_declaration_93 rfl (lv_at hl 0 rfl) ?_
        refine lv_bipush (v := iv 8) hx hb dX8_declaration_94 (by decide) ?_
        refine r_icmp_ne (tgt := 113) hx hb ⟨(by omega), (by omega)⟩ ⟨(by omega), (by omega)⟩ dX8_declaration_96 (by decide) (fun c_13 => ?_) (fun c_13 => ?_)
        · refine lv_aload_n hx hb dX8_declaration_113 rfl (lv_at hl 1 rfl) ?_
          refine lv_bipush (v := iv 13) hx hb dX8_declaration_114 (by decide) ?_
          refine sBi (sV (As := [.int (iv 13)]) (rest := []) (k := 12) Cx (o_X8_pass l G S hA hS hZ (a := au_9) (k := 13) (by omega) (by omega)) (c_X8_92 Cx rfl rfl (rmk_ok (by omega) (by decide))) hW (by decide) rfl rfl rfl hl.1 rfl (Nat.le_of_ble_eq_true rfl) dX8_declaration_116 ⟨Nat.le_of_ble_eq_true rfl, Nat.le_of_ble_eq_true rfl⟩) hL (fun r_16 u_14 H locs k_15 hW hL => ?_)
          obtain ⟨au_14, eu_14, xu_14, yu_14, zu_14, pu_14, nu_14⟩ := k_15
          rw [eu_14] at hW
          refine r_if_eq (tgt := 142) hx hb ⟨(by omega), (by omega)⟩ dX8_declaration_119 (by decide) (fun c_17 => ?_) (fun c_17 => ?_)
          · refine lv_iconst (v := iv 0) hx hb dX8_declaration_142 (by decide) ?_
            exact sZret Cx hr hlk hW hL (by omega) ⟨au_14, rfl, by omega, by omega, by omega, (fun h => absurd h (by decide)), (fun _ => by have fu_1k0 : ¬ kd S a = 6 := (by omega); have fu_1k1 : ¬ kd S a = 8 := (by omega); obtain ⟨fu_4, su_4⟩ := pu_4 (by omega); subst au_4; have fu_9 := pu_9 (by omega); obtain ⟨fu_14, su_14⟩ := nu_14 (by omega); subst au_14; simp only [ogD, ogT, fu_1k0, fu_1k1, fu_4, fu_9, fu_14, reduceIte, Option.bind_some, Option.bind_none, or_true, true_or, or_self, or_false, false_or, Int.reduceEq, Option.some.injEq, reduceCtorEq])⟩ dX8_declaration_143
          · refine lv_aload_n hx hb dX8_declaration_122 rfl (lv_at hl 1 rfl) ?_
            refine sBi (sV (As := []) (rest := []) (k := 12) Cx (o_X8_valueList l G S hA hS hZ (a := au_14) (by omega)) (c_X8_104 Cx rfl rfl (rmk_ok (by omega) (by decide))) hW (by decide) rfl rfl rfl hl.1 rfl (Nat.le_of_ble_eq_true rfl) dX8_declaration_123 ⟨Nat.le_of_ble_eq_true rfl, Nat.le_of_ble_eq_true rfl⟩) hL (fun r_20 u_18 H locs k_19 hW hL => ?_)
            obtain ⟨au_18, eu_18, xu_18, yu_18, zu_18, pu_18, nu_18⟩ := k_19
            rw [eu_18] at hW
            refine r_if_eq (tgt := 142) hx hb ⟨(by omega), (by omega)⟩ dX8_declaration_126 (by decide) (fun c_21 => ?_) (fun c_21 => ?_)
            · refine lv_iconst (v := iv 0) hx hb dX8_declaration_142 (by decide) ?_
              exact sZret Cx hr hlk hW hL (by omega) ⟨au_18, rfl, by omega, by omega, by omega, (fun h => absurd h (by decide)), (fun _ => by have fu_1k0 : ¬ kd S a = 6 := (by omega); have fu_1k1 : ¬ kd S a = 8 := (by omega); obtain ⟨fu_4, su_4⟩ := pu_4 (by omega); subst au_4; have fu_9 := pu_9 (by omega); obtain ⟨fu_14, su_14⟩ := pu_14 (by omega); subst au_14; have fu_18 := nu_18 (by omega); simp only [ogD, ogT, fu_1k0, fu_1k1, fu_4, fu_9, fu_14, fu_18, reduceIte, Option.bind_some, Option.bind_none, or_true, true_or, or_self, or_false, false_or, Int.reduceEq, Option.some.injEq, reduceCtorEq])⟩ dX8_declaration_143
            · refine lv_aload_n hx hb dX8_declaration_129 rfl (lv_at hl 1 rfl) ?_
              refine lv_bipush (v := iv 15) hx hb dX8_declaration_130 (by decide) ?_
              refine sBi (sV (As := [.int (iv 15)]) (rest := []) (k := 12) Cx (o_X8_pass l G S hA hS hZ (a := au_18) (k := 15) (by omega) (by omega)) (c_X8_92 Cx rfl rfl (rmk_ok (by omega) (by decide))) hW (by decide) rfl rfl rfl hl.1 rfl (Nat.le_of_ble_eq_true rfl) dX8_declaration_132 ⟨Nat.le_of_ble_eq_true rfl, Nat.le_of_ble_eq_true rfl⟩) hL (fun r_24 u_22 H locs k_23 hW hL => ?_)
              obtain ⟨au_22, eu_22, xu_22, yu_22, zu_22, pu_22, nu_22⟩ := k_23
              rw [eu_22] at hW
              refine r_if_eq (tgt := 142) hx hb ⟨(by omega), (by omega)⟩ dX8_declaration_135 (by decide) (fun c_25 => ?_) (fun c_25 => ?_)
              · refine lv_iconst (v := iv 0) hx hb dX8_declaration_142 (by decide) ?_
                exact sZret Cx hr hlk hW hL (by omega) ⟨au_22, rfl, by omega, by omega, by omega, (fun h => absurd h (by decide)), (fun _ => by have fu_1k0 : ¬ kd S a = 6 := (by omega); have fu_1k1 : ¬ kd S a = 8 := (by omega); obtain ⟨fu_4, su_4⟩ := pu_4 (by omega); subst au_4; have fu_9 := pu_9 (by omega); obtain ⟨fu_14, su_14⟩ := pu_14 (by omega); subst au_14; have fu_18 := pu_18 (by omega); obtain ⟨fu_22, su_22⟩ := nu_22 (by omega); subst au_22; simp only [ogD, ogT, fu_1k0, fu_1k1, fu_4, fu_9, fu_14, fu_18, fu_22, reduceIte, Option.bind_some, Option.bind_none, or_true, true_or, or_self, or_false, false_or, Int.reduceEq, Option.some.injEq, reduceCtorEq])⟩ dX8_declaration_143
              · refine lv_iconst (v := iv 1) hx hb dX8_declaration_138 (by decide) ?_
                refine lv_goto (tgt := 143) hx hb dX8_declaration_139 (by decide) ?_
                exact sZret Cx hr hlk hW hL (by omega) ⟨au_22, rfl, by omega, by omega, by omega, (fun _ => by have fu_1k0 : ¬ kd S a = 6 := (by omega); have fu_1k1 : ¬ kd S a = 8 := (by omega); obtain ⟨fu_4, su_4⟩ := pu_4 (by omega); subst au_4; have fu_9 := pu_9 (by omega); obtain ⟨fu_14, su_14⟩ := pu_14 (by omega); subst au_14; have fu_18 := pu_18 (by omega); obtain ⟨fu_22, su_22⟩ := pu_22 (by omega); subst au_22; simp only [ogD, ogT, fu_1k0, fu_1k1, fu_4, fu_9, fu_14, fu_18, fu_22, reduceIte, Option.bind_some, Option.bind_none, or_true, true_or, or_self, or_false, false_or, Int.reduceEq, Option.some.injEq, reduceCtorEq]), (fun h => absurd h (by decide))⟩ dX8_declaration_143
        · refine lv_aload_n hx hb dX8_declaration_99 rfl (lv_at hl 1 rfl) ?_
          refine lv_bipush (v := iv 9) hx hb dX8_declaration_100 (by decide) ?_
          refine sBi (sV (As := [.int (iv 9)]) (rest := []) (k := 12) Cx (o_X8_pass l G S hA hS hZ (a := au_9) (k := 9) (by omega) (by omega)) (c_X8_92 Cx rfl rfl (rmk_ok (by omega) (by decide))) hW (by decide) rfl rfl rfl hl.1 rfl (Nat.le_of_ble_eq_true rfl) dX8_declaration_102 ⟨Nat.le_of_ble_eq_true rfl, Nat.le_of_ble_eq_true rfl⟩) hL (fun r_28 u_26 H locs k_27 hW hL => ?_)
          obtain ⟨au_26, eu_26, xu_26, yu_26, zu_26, pu_26, nu_26⟩ := k_27
          rw [eu_26] at hW
          refine lv_pop hx hb dX8_declaration_105 rfl ?_
          refine lv_aload_n hx hb dX8_declaration_106 rfl (lv_at hl 1 rfl) ?_
          refine lv_bipush (v := iv 15) hx hb dX8_declaration_107 (by decide) ?_
          refine sBi (sV (As := [.int (iv 15)]) (rest := []) (k := 12) Cx (o_X8_pass l G S hA hS hZ (a := au_26) (k := 15) (by omega) (by omega)) (c_X8_92 Cx rfl rfl (rmk_ok (by omega) (by decide))) hW (by decide) rfl rfl rfl hl.1 rfl (Nat.le_of_ble_eq_true rfl) dX8_declaration_109 ⟨Nat.le_of_ble_eq_true rfl, Nat.le_of_ble_eq_true rfl⟩) hL (fun r_31 u_29 H locs k_30 hW hL => ?_)
          obtain ⟨au_29, eu_29, xu_29, yu_29, zu_29, pu_29, nu_29⟩ := k_30
          rw [eu_29] at hW
          exact sZret Cx hr hlk hW hL (by omega) ⟨au_29, rfl, by omega, by omega, by omega, (fun h => by have fu_1k0 : ¬ kd S a = 6 := (by omega); have fu_1k1 : kd S a = 8 := (by omega); obtain ⟨fu_4, su_4⟩ := pu_4 (by omega); subst au_4; have fu_9 := pu_9 (by omega); by_cases hu_26 : r_28 = 0; (obtain ⟨fu_26, su_26⟩ := nu_26 hu_26; subst au_26; obtain ⟨fu_29, su_29⟩ := pu_29 h; subst au_29; simp only [ogD, ogT, fu_1k0, fu_1k1, fu_4, fu_9, fu_26, fu_29, reduceIte, Option.bind_some, Option.bind_none, or_true, true_or, or_self, or_false, false_or, Int.reduceEq, Option.some.injEq, reduceCtorEq]); (obtain ⟨fu_26, su_26⟩ := pu_26 (by omega); subst au_26; obtain ⟨fu_29, su_29⟩ := pu_29 h; subst au_29; simp only [ogD, ogT, fu_1k0, fu_1k1, fu_4, fu_9, fu_26, fu_29, reduceIte, Option.bind_some, Option.bind_none, or_true, true_or, or_self, or_false, false_or, Int.reduceEq, Option.some.injEq, reduceCtorEq])), (fun h => by have fu_1k0 : ¬ kd S a = 6 := (by omega); have fu_1k1 : kd S a = 8 := (by omega); obtain ⟨fu_4, su_4⟩ := pu_4 (by omega); subst au_4; have fu_9 := pu_9 (by omega); by_cases hu_26 : r_28 = 0; (obtain ⟨fu_26, su_26⟩ := nu_26 hu_26; subst au_26; obtain ⟨fu_29, su_29⟩ := nu_29 h; subst au_29; simp only [ogD, ogT, fu_1k0, fu_1k1, fu_4, fu_9, fu_26, fu_29, reduceIte, Option.bind_some, Option.bind_none, or_true, true_or, or_self, or_false, false_or, Int.reduceEq, Option.some.injEq, reduceCtorEq]); (obtain ⟨fu_26, su_26⟩ := pu_26 (by omega); subst au_26; obtain ⟨fu_29, su_29⟩ := nu_29 h; subst au_29; simp only [ogD, ogT, fu_1k0, fu_1k1, fu_4, fu_9, fu_26, fu_29, reduceIte, Option.bind_some, Option.bind_none, or_true, true_or, or_self, or_false, false_or, Int.reduceEq, Option.some.injEq, reduceCtorEq]))⟩ dX8_declaration_112
      · refine lv_iconst (v := iv 0) hx hb dX8_declaration_91 (by decide) ?_
        exact sZret Cx hr hlk hW hL (by omega) ⟨au_9, rfl, by omega, by omega, by omega, (fun h => absurd h (by decide)), (fun _ => by have fu_1k0 : ¬ kd S a = 6 := (by omega); obtain ⟨fu_4, su_4⟩ := pu_4 (by omega); subst au_4; have fu_9 := nu_9 (by omega); simp only [ogD, ogT, fu_1k0, fu_4, fu_9, reduceIte, Option.bind_some, Option.bind_none, or_true, true_or, or_self, or_false, false_or, Int.reduceEq, Option.some.injEq, reduceCtorEq])⟩ dX8_declaration_92
    · refine lv_aload_n hx hb dX8_declaration_35 rfl (lv_at hl 1 rfl) ?_
      refine lv_bipush (v := iv 13) hx hb dX8_declaration_36 (by decide) ?_
      refine sBi (sV (As := [.int (iv 13)]) (rest := []) (k := 12) Cx (o_X8_pass l G S hA hS hZ (a := au_4) (k := 13) (by omega) (by omega)) (c_X8_92 Cx rfl rfl (rmk_ok (by omega) (by decide))) hW (by decide) rfl rfl rfl hl.1 rfl (Nat.le_of_ble_eq_true rfl) dX8_declaration_38 ⟨Nat.le_of_ble_eq_true rfl, Nat.le_of_ble_eq_true rfl⟩) hL (fun r_34 u_32 H locs k_33 hW hL => ?_)
      obtain ⟨au_32, eu_32, xu_32, yu_32, zu_32, pu_32, nu_32⟩ := k_33
      rw [eu_32] at hW
      refine r_if_eq (tgt := 82) hx hb ⟨(by omega), (by omega)⟩ dX8_declaration_41 (by decide) (fun c_35 => ?_) (fun c_35 => ?_)
      · refine lv_iconst (v := iv 0) hx hb dX8_declaration_82 (by decide) ?_
        exact sZret Cx hr hlk hW hL (by omega) ⟨au_32, rfl, by omega, by omega, by omega, (fun h => absurd h (by decide)), (fun _ => by have fu_1k0 : kd S a = 6 := (by omega); obtain ⟨fu_4, su_4⟩ := pu_4 (by omega); subst au_4; obtain ⟨fu_32, su_32⟩ := nu_32 (by omega); subst au_32; simp only [ogD, ogT, fu_1k0, fu_4, fu_32, reduceIte, Option.bind_some, Option.bind_none, or_true, true_or, or_self, or_false, false_or, Int.reduceEq, Option.some.injEq, reduceCtorEq])⟩ dX8_declaration_83
      · refine lv_aload_n hx hb dX8_declaration_44 rfl (lv_at hl 1 rfl) ?_
        refine lv_iconst (v := iv 3) hx hb dX8_declaration_45 (by decide) ?_
        refine sBi (sV (As := [.int (iv 3)]) (rest := []) (k := 12) Cx (o_X8_pass l G S hA hS hZ (a := au_32) (k := 3) (by omega) (by omega)) (c_X8_92 Cx rfl rfl (rmk_ok (by omega) (by decide))) hW (by decide) rfl rfl rfl hl.1 rfl (Nat.le_of_ble_eq_true rfl) dX8_declaration_46 ⟨Nat.le_of_ble_eq_true rfl, Nat.le_of_ble_eq_true rfl⟩) hL (fun r_38 u_36 H locs k_37 hW hL => ?_)
        obtain ⟨au_36, eu_36, xu_36, yu_36, zu_36, pu_36, nu_36⟩ := k_37
        rw [eu_36] at hW
        refine r_if_eq (tgt := 82) hx hb ⟨(by omega), (by omega)⟩ dX8_declaration_49 (by decide) (fun c_39 => ?_) (fun c_39 => ?_)
        · refine lv_iconst (v := iv 0) hx hb dX8_declaration_82 (by decide) ?_
          exact sZret Cx hr hlk hW hL (by omega) ⟨au_36, rfl, by omega, by omega, by omega, (fun h => absurd h (by decide)), (fun _ => by have fu_1k0 : kd S a = 6 := (by omega); obtain ⟨fu_4, su_4⟩ := pu_4 (by omega); subst au_4; obtain ⟨fu_32, su_32⟩ := pu_32 (by omega); subst au_32; obtain ⟨fu_36, su_36⟩ := nu_36 (by omega); subst au_36; simp only [ogD, ogT, fu_1k0, fu_4, fu_32, fu_36, reduceIte, Option.bind_some, Option.bind_none, or_true, true_or, or_self, or_false, false_or, Int.reduceEq, Option.some.injEq, reduceCtorEq])⟩ dX8_declaration_83
        · refine lv_aload_n hx hb dX8_declaration_52 rfl (lv_at hl 1 rfl) ?_
          refine lv_bipush (v := iv 14) hx hb dX8_declaration_53 (by decide) ?_
          refine sBi (sV (As := [.int (iv 14)]) (rest := []) (k := 12) Cx (o_X8_pass l G S hA hS hZ (a := au_36) (k := 14) (by omega) (by omega)) (c_X8_92 Cx rfl rfl (rmk_ok (by omega) (by decide))) hW (by decide) rfl rfl rfl hl.1 rfl (Nat.le_of_ble_eq_true rfl) dX8_declaration_55 ⟨Nat.le_of_ble_eq_true rfl, Nat.le_of_ble_eq_true rfl⟩) hL (fun r_42 u_40 H locs k_41 hW hL => ?_)
          obtain ⟨au_40, eu_40, xu_40, yu_40, zu_40, pu_40, nu_40⟩ := k_41
          rw [eu_40] at hW
          refine r_if_eq (tgt := 82) hx hb ⟨(by omega), (by omega)⟩ dX8_declaration_58 (by decide) (fun c_43 => ?_) (fun c_43 => ?_)
          · refine lv_iconst (v := iv 0) hx hb dX8_declaration_82 (by decide) ?_
            exact sZret Cx hr hlk hW hL (by omega) ⟨au_40, rfl, by omega, by omega, by omega, (fun h => absurd h (by decide)), (fun _ => by have fu_1k0 : kd S a = 6 := (by omega); obtain ⟨fu_4, su_4⟩ := pu_4 (by omega); subst au_4; obtain ⟨fu_32, su_32⟩ := pu_32 (by omega); subst au_32; obtain ⟨fu_36, su_36⟩ := pu_36 (by omega); subst au_36; obtain ⟨fu_40, su_40⟩ := nu_40 (by omega); subst au_40; simp only [ogD, ogT, fu_1k0, fu_4, fu_32, fu_36, fu_40, reduceIte, Option.bind_some, Option.bind_none, or_true, true_or, or_self, or_false, false_or, Int.reduceEq, Option.some.injEq, reduceCtorEq])⟩ dX8_declaration_83
          · refine lv_aload_n hx hb dX8_declaration_61 rfl (lv_at hl 1 rfl) ?_
            refine lv_iconst (v := iv 3) hx hb dX8_declaration_62 (by decide) ?_
            refine sBi (sV (As := [.int (iv 3)]) (rest := []) (k := 12) Cx (o_X8_pass l G S hA hS hZ (a := au_40) (k := 3) (by omega) (by omega)) (c_X8_92 Cx rfl rfl (rmk_ok (by omega) (by decide))) hW (by decide) rfl rfl rfl hl.1 rfl (Nat.le_of_ble_eq_true rfl) dX8_declaration_63 ⟨Nat.le_of_ble_eq_true rfl, Nat.le_of_ble_eq_true rfl⟩) hL (fun r_46 u_44 H locs k_45 hW hL => ?_)
            obtain ⟨au_44, eu_44, xu_44, yu_44, zu_44, pu_44, nu_44⟩ := k_45
            rw [eu_44] at hW
            refine r_if_eq (tgt := 82) hx hb ⟨(by omega), (by omega)⟩ dX8_declaration_66 (by decide) (fun c_47 => ?_) (fun c_47 => ?_)
            · refine lv_iconst (v := iv 0) hx hb dX8_declaration_82 (by decide) ?_
              exact sZret Cx hr hlk hW hL (by omega) ⟨au_44, rfl, by omega, by omega, by omega, (fun h => absurd h (by decide)), (fun _ => by have fu_1k0 : kd S a = 6 := (by omega); obtain ⟨fu_4, su_4⟩ := pu_4 (by omega); subst au_4; obtain ⟨fu_32, su_32⟩ := pu_32 (by omega); subst au_32; obtain ⟨fu_36, su_36⟩ := pu_36 (by omega); subst au_36; obtain ⟨fu_40, su_40⟩ := pu_40 (by omega); subst au_40; obtain ⟨fu_44, su_44⟩ := nu_44 (by omega); subst au_44; simp only [ogD, ogT, fu_1k0, fu_4, fu_32, fu_36, fu_40, fu_44, reduceIte, Option.bind_some, Option.bind_none, or_true, true_or, or_self, or_false, false_or, Int.reduceEq, Option.some.injEq, reduceCtorEq])⟩ dX8_declaration_83
            · refine lv_aload_n hx hb dX8_declaration_69 rfl (lv_at hl 1 rfl) ?_
              refine lv_bipush (v := iv 15) hx hb dX8_declaration_70 (by decide) ?_
              refine sBi (sV (As := [.int (iv 15)]) (rest := []) (k := 12) Cx (o_X8_pass l G S hA hS hZ (a := au_44) (k := 15) (by omega) (by omega)) (c_X8_92 Cx rfl rfl (rmk_ok (by omega) (by decide))) hW (by decide) rfl rfl rfl hl.1 rfl (Nat.le_of_ble_eq_true rfl) dX8_declaration_72 ⟨Nat.le_of_ble_eq_true rfl, Nat.le_of_ble_eq_true rfl⟩) hL (fun r_50 u_48 H locs k_49 hW hL => ?_)
              obtain ⟨au_48, eu_48, xu_48, yu_48, zu_48, pu_48, nu_48⟩ := k_49
              rw [eu_48] at hW
              refine r_if_eq (tgt := 82) hx hb ⟨(by omega), (by omega)⟩ dX8_declaration_75 (by decide) (fun c_51 => ?_) (fun c_51 => ?_)
              · refine lv_iconst (v := iv 0) hx hb dX8_declaration_82 (by decide) ?_
                exact sZret Cx hr hlk hW hL (by omega) ⟨au_48, rfl, by omega, by omega, by omega, (fun h => absurd h (by decide)), (fun _ => by have fu_1k0 : kd S a = 6 := (by omega); obtain ⟨fu_4, su_4⟩ := pu_4 (by omega); subst au_4; obtain ⟨fu_32, su_32⟩ := pu_32 (by omega); subst au_32; obtain ⟨fu_36, su_36⟩ := pu_36 (by omega); subst au_36; obtain ⟨fu_40, su_40⟩ := pu_40 (by omega); subst au_40; obtain ⟨fu_44, su_44⟩ := pu_44 (by omega); subst au_44; obtain ⟨fu_48, su_48⟩ := nu_48 (by omega); subst au_48; simp only [ogD, ogT, fu_1k0, fu_4, fu_32, fu_36, fu_40, fu_44, fu_48, reduceIte, Option.bind_some, Option.bind_none, or_true, true_or, or_self, or_false, false_or, Int.reduceEq, Option.some.injEq, reduceCtorEq])⟩ dX8_declaration_83
              · refine lv_iconst (v := iv 1) hx hb dX8_declaration_78 (by decide) ?_
                refine lv_goto (tgt := 83) hx hb dX8_declaration_79 (by decide) ?_
                exact sZret Cx hr hlk hW hL (by omega) ⟨au_48, rfl, by omega, by omega, by omega, (fun _ => by have fu_1k0 : kd S a = 6 := (by omega); obtain ⟨fu_4, su_4⟩ := pu_4 (by omega); subst au_4; obtain ⟨fu_32, su_32⟩ := pu_32 (by omega); subst au_32; obtain ⟨fu_36, su_36⟩ := pu_36 (by omega); subst au_36; obtain ⟨fu_40, su_40⟩ := pu_40 (by omega); subst au_40; obtain ⟨fu_44, su_44⟩ := pu_44 (by omega); subst au_44; obtain ⟨fu_48, su_48⟩ := pu_48 (by omega); subst au_48; simp only [ogD, ogT, fu_1k0, fu_4, fu_32, fu_36, fu_40, fu_44, fu_48, reduceIte, Option.bind_some, Option.bind_none, or_true, true_or, or_self, or_false, false_or, Int.reduceEq, Option.some.injEq, reduceCtorEq]), (fun h => absurd h (by decide))⟩ dX8_declaration_83
  · refine lv_iconst (v := iv 0) hx hb dX8_declaration_27 (by decide) ?_
    exact sZret Cx hr hlk hW hL (by omega) ⟨au_4, rfl, by omega, by omega, by omega, (fun h => absurd h (by decide)), (fun _ => by obtain ⟨fu_4, su_4⟩ := nu_4 (by omega); subst au_4; simp only [ogD, ogT, fu_4, reduceIte, Option.bind_some, Option.bind_none, or_true, true_or, or_self, or_false, false_or, Int.reduceEq, Option.some.injEq, reduceCtorEq])⟩ dX8_declaration_28

set_option maxRecDepth 100000 in
set_option maxHeartbeats 4000000 in
theorem o_X8_factor (l : Launch) (G : sG) (S : sS) {D d1 d2 n : Nat} {dd a : Int} (hA : SynAt G S) (hS : SynOK S) (hZ : OZ S) (hdd : 0 ≤ dd ∧ dd ≤ 30) (hn : (n : Int) = 30 - dd) (h1 : d1 < D) (h2 : d2 < D) (h4 : 4 ≤ D) (hE : 0 < n → OExC l G S d1 (n - 1) (dd + 1)) (hF : 0 < n → OFaC l G S d2 (n - 1) (dd + 1)) (ha : 0 ≤ a ∧ a ≤ S.1 12 3 - 1) : Met l yX8_factor (.code yX8_factor cX8_factor 2 (some .boolean) :: tb) (rmk D 0 0) (sPc G 294 (uF S 12 4 a) [.ref (G.2.2.1 + 12), .int (iv dd)]) (sQi G 294 (OPost S a (ogF (S.1 12 3) (kd S) n a))) 0 0 (sF G) := by
  refine sEnter (by decide) (Nat.le_of_ble_eq_true rfl) ?_
  intro p e s m args below meth c Cx hr hlk hnm hW ls hl
  have Cx : sC G p m c cX8_factor 2 s args RX8 := Cx
  obtain ⟨hx, hb, hml, hown, hts⟩ := id Cx.1
  have hL : sL G [] := sL_nil
  have hl : lv_has ls 2 [(0, .ref (G.2.2.1 + 12)), (1, .int (iv dd))] := hl
  obtain ⟨hr0, hr1, hr2⟩ := id hA
  obtain ⟨ht, hki, hst, hva⟩ := id hS
  have hz0 := hZ.1
  have hk0 : ∀ c : Int, kd S a = c → 2 ≤ c → a + 1 ≤ S.1 12 3 - 1 := fun c e h => OZ.ne hZ e h (by omega)
  refine lv_iload_n hx hb dX8_factor_0 rfl (lv_at hl 1 rfl) ?_
  refine lv_bipush (v := iv 30) hx hb dX8_factor_1 (by decide) ?_
  refine r_icmp_lt (tgt := 8) hx hb ⟨(by omega), (by omega)⟩ ⟨(by omega), (by omega)⟩ dX8_factor_3 (by decide) (fun c_1 => ?_) (fun c_1 => ?_)
  · refine lv_aload_n hx hb dX8_factor_8 rfl (lv_at hl 0 rfl) ?_
    refine lv_aload_n hx hb dX8_factor_9 rfl (lv_at hl 0 rfl) ?_
    refine g_X8_26 Cx hW (k := 12) (by decide) rfl (v := a) uF_on dX8_factor_10 ?_
    refine sBi (sV (As := [.int (iv a)]) (rest := []) (k := 12) Cx (o_X8_kind l G S hA hS hZ (a := a) (k := a) ⟨by omega, by omega⟩) (c_X8_98 Cx rfl rfl (rmk_ok (by omega) (by decide))) hW (by decide) rfl rfl rfl hl.1 rfl (Nat.le_of_ble_eq_true rfl) dX8_factor_13 ⟨Nat.le_of_ble_eq_true rfl, Nat.le_of_ble_eq_true rfl⟩) hL (fun r_4 u_2 H locs k_3 hW hL => ?_)
    obtain ⟨eu_2, xu_2, yu_2, zu_2⟩ := k_3
    rw [eu_2] at hW
    have hk1 : 2 ≤ r_4 → a + 1 ≤ S.1 12 3 - 1 := fun h => hk0 _ rfl (by omega)
    by_cases c_5 : r_4 = 2
    · refine lv_lookup (off := 186) (tgt := 202) hx hb dX8_factor_16 (by decide) (by rw [c_5]; decide) (by decide) ?_
      refine lv_aload_n hx hb dX8_factor_202 rfl (lv_at hl 0 rfl) ?_
      refine lv_dup hx hb dX8_factor_203 rfl ?_
      refine g_X8_26 Cx hW (k := 12) (by decide) rfl (v := a) uF_on dX8_factor_204 ?_
      refine lv_iconst (v := iv 1) hx hb dX8_factor_207 (by decide) ?_
      refine r_iadd hx hb dX8_factor_208 ?_
      refine p_X8_26 Cx hW hL (k := 12) (by decide) rfl dX8_factor_209 (fun H locs hW hL => ?_)
      rw [uF_uF] at hW
      refine lv_aload_n hx hb dX8_factor_212 rfl (lv_at hl 0 rfl) ?_
      refine lv_bipush (v := iv 17) hx hb dX8_factor_213 (by decide) ?_
      refine sBi (sV (As := [.int (iv 17)]) (rest := []) (k := 12) Cx (o_X8_pass l G S hA hS hZ (a := a + 1) (k := 17) (by omega) (by omega)) (c_X8_92 Cx rfl rfl (rmk_ok (by omega) (by decide))) hW (by decide) rfl rfl rfl hl.1 rfl (Nat.le_of_ble_eq_true rfl) dX8_factor_215 ⟨Nat.le_of_ble_eq_true rfl, Nat.le_of_ble_eq_true rfl⟩) hL (fun r_8 u_6 H locs k_7 hW hL => ?_)
      obtain ⟨au_6, eu_6, xu_6, yu_6, zu_6, pu_6, nu_6⟩ := k_7
      rw [eu_6] at hW
      refine r_if_eq (tgt := 228) hx hb ⟨(by omega), (by omega)⟩ dX8_factor_218 (by decide) (fun c_9 => ?_) (fun c_9 => ?_)
      · refine lv_iconst (v := iv 1) hx hb dX8_factor_228 (by decide) ?_
        refine lv_goto (tgt := 233) hx hb dX8_factor_229 (by decide) ?_
        exact sZret Cx hr hlk hW hL (by omega) ⟨au_6, rfl, by omega, by omega, by omega, (fun _ => by rw [ogF_pos (by omega)]; have fu_2k0 : kd S a = 2 := (by omega); obtain ⟨fu_6, su_6⟩ := nu_6 (by omega); subst au_6; simp only [ogT, fu_2k0, fu_6, reduceIte, Option.bind_some, Option.bind_none, or_true, true_or, or_self, or_false, false_or, Int.reduceEq, Option.some.injEq, reduceCtorEq]), (fun h => absurd h (by decide))⟩ dX8_factor_233
      · refine lv_aload_n hx hb dX8_factor_221 rfl (lv_at hl 0 rfl) ?_
        refine sBi (sV (As := []) (rest := []) (k := 12) Cx (o_X8_items l G S hA hS hZ (a := au_6) (by omega)) (c_X8_113 Cx rfl rfl (rmk_ok (by omega) (by decide))) hW (by decide) rfl rfl rfl hl.1 rfl (Nat.le_of_ble_eq_true rfl) dX8_factor_222 ⟨Nat.le_of_ble_eq_true rfl, Nat.le_of_ble_eq_true rfl⟩) hL (fun r_12 u_10 H locs k_11 hW hL => ?_)
        obtain ⟨au_10, eu_10, xu_10, yu_10, zu_10, pu_10, nu_10⟩ := k_11
        rw [eu_10] at hW
        refine r_if_eq (tgt := 232) hx hb ⟨(by omega), (by omega)⟩ dX8_factor_225 (by decide) (fun c_13 => ?_) (fun c_13 => ?_)
        · refine lv_iconst (v := iv 0) hx hb dX8_factor_232 (by decide) ?_
          exact sZret Cx hr hlk hW hL (by omega) ⟨au_10, rfl, by omega, by omega, by omega, (fun h => absurd h (by decide)), (fun _ => by rw [ogF_pos (by omega)]; have fu_2k0 : kd S a = 2 := (by omega); obtain ⟨fu_6, su_6⟩ := pu_6 (by omega); subst au_6; have fu_10 := nu_10 (by omega); simp only [ogT, fu_2k0, fu_6, fu_10, reduceIte, Option.bind_some, Option.bind_none, or_true, true_or, or_self, or_false, false_or, Int.reduceEq, Option.some.injEq, reduceCtorEq])⟩ dX8_factor_233
        · refine lv_iconst (v := iv 1) hx hb dX8_factor_228 (by decide) ?_
          refine lv_goto (tgt := 233) hx hb dX8_factor_229 (by decide) ?_
          exact sZret Cx hr hlk hW hL (by omega) ⟨au_10, rfl, by omega, by omega, by omega, (fun _ => by rw [ogF_pos (by omega)]; have fu_2k0 : kd S a = 2 := (by omega); obtain ⟨fu_6, su_6⟩ := pu_6 (by omega); subst au_6; have fu_10 := pu_10 (by omega); simp only [ogT, fu_2k0, fu_6, fu_10, reduceIte, Option.bind_some, Option.bind_none, or_true, true_or, or_self, or_false, false_or, Int.reduceEq, Option.some.injEq, reduceCtorEq]), (fun h => absurd h (by decide))⟩ dX8_factor_233
    by_cases c_14 : r_4 = 3
    · refine lv_lookup (off := 52) (tgt := 68) hx hb dX8_factor_16 (by decide) (by rw [c_14]; decide) (by decide) ?_
      refine lv_aload_n hx hb dX8_factor_68 rfl (lv_at hl 0 rfl) ?_
      refine lv_dup hx hb dX8_factor_69 rfl ?_
      refine g_X8_26 Cx hW (k := 12) (by decide) rfl (v := a) uF_on dX8_factor_70 ?_
      refine lv_iconst (v := iv 1) hx hb dX8_factor_73 (by decide) ?_
      refine r_iadd hx hb dX8_factor_74 ?_
      refine p_X8_26 Cx hW hL (k := 12) (by decide) rfl dX8_factor_75 (fun H locs hW hL => ?_)
      rw [uF_uF] at hW
      refine lv_iconst (v := iv 1) hx hb dX8_factor_78 (by decide) ?_
      exact sZret Cx hr hlk hW hL (by omega) ⟨a + 1, rfl, by omega, by omega, by omega, (fun _ => by rw [ogF_pos (by omega)]; have fu_2k0 : kd S a = 3 := (by omega); simp only [ogT, fu_2k0, reduceIte, Option.bind_some, Option.bind_none, or_true, true_or, or_self, or_false, false_or, Int.reduceEq, Option.some.injEq, reduceCtorEq]), (fun h => absurd h (by decide))⟩ dX8_factor_79
    by_cases c_15 : r_4 = 11
    · refine lv_lookup (off := 117) (tgt := 133) hx hb dX8_factor_16 (by decide) (by rw [c_15]; decide) (by decide) ?_
      refine lv_aload_n hx hb dX8_factor_133 rfl (lv_at hl 0 rfl) ?_
      refine lv_dup hx hb dX8_factor_134 rfl ?_
      refine g_X8_26 Cx hW (k := 12) (by decide) rfl (v := a) uF_on dX8_factor_135 ?_
      refine lv_iconst (v := iv 1) hx hb dX8_factor_138 (by decide) ?_
      refine r_iadd hx hb dX8_factor_139 ?_
      refine p_X8_26 Cx hW hL (k := 12) (by decide) rfl dX8_factor_140 (fun H locs hW hL => ?_)
      rw [uF_uF] at hW
      refine lv_aload_n hx hb dX8_factor_143 rfl (lv_at hl 0 rfl) ?_
      refine lv_iconst (v := iv 2) hx hb dX8_factor_144 (by decide) ?_
      refine sBi (sV (As := [.int (iv 2)]) (rest := []) (k := 12) Cx (o_X8_pass l G S hA hS hZ (a := a + 1) (k := 2) (by omega) (by omega)) (c_X8_92 Cx rfl rfl (rmk_ok (by omega) (by decide))) hW (by decide) rfl rfl rfl hl.1 rfl (Nat.le_of_ble_eq_true rfl) dX8_factor_145 ⟨Nat.le_of_ble_eq_true rfl, Nat.le_of_ble_eq_true rfl⟩) hL (fun r_18 u_16 H locs k_17 hW hL => ?_)
      obtain ⟨au_16, eu_16, xu_16, yu_16, zu_16, pu_16, nu_16⟩ := k_17
      rw [eu_16] at hW
      refine r_if_eq (tgt := 200) hx hb ⟨(by omega), (by omega)⟩ dX8_factor_148 (by decide) (fun c_19 => ?_) (fun c_19 => ?_)
      · refine lv_iconst (v := iv 0) hx hb dX8_factor_200 (by decide) ?_
        exact sZret Cx hr hlk hW hL (by omega) ⟨au_16, rfl, by omega, by omega, by omega, (fun h => absurd h (by decide)), (fun _ => by rw [ogF_pos (by omega)]; have fu_2k0 : kd S a = 11 := (by omega); obtain ⟨fu_16, su_16⟩ := nu_16 (by omega); subst au_16; simp only [ogT, fu_2k0, fu_16, reduceIte, Option.bind_some, Option.bind_none, or_true, true_or, or_self, or_false, false_or, Int.reduceEq, Option.some.injEq, reduceCtorEq])⟩ dX8_factor_201
      · refine lv_aload_n hx hb dX8_factor_151 rfl (lv_at hl 0 rfl) ?_
        refine lv_bipush (v := iv 12) hx hb dX8_factor_152 (by decide) ?_
        refine sBi (sV (As := [.int (iv 12)]) (rest := []) (k := 12) Cx (o_X8_pass l G S hA hS hZ (a := au_16) (k := 12) (by omega) (by omega)) (c_X8_92 Cx rfl rfl (rmk_ok (by omega) (by decide))) hW (by decide) rfl rfl rfl hl.1 rfl (Nat.le_of_ble_eq_true rfl) dX8_factor_154 ⟨Nat.le_of_ble_eq_true rfl, Nat.le_of_ble_eq_true rfl⟩) hL (fun r_22 u_20 H locs k_21 hW hL => ?_)
        obtain ⟨au_20, eu_20, xu_20, yu_20, zu_20, pu_20, nu_20⟩ := k_21
        rw [eu_20] at hW
        refine r_if_eq (tgt := 200) hx hb ⟨(by omega), (by omega)⟩ dX8_factor_157 (by decide) (fun c_23 => ?_) (fun c_23 => ?_)
        · refine lv_iconst (v := iv 0) hx hb dX8_factor_200 (by decide) ?_
          exact sZret Cx hr hlk hW hL (by omega) ⟨au_20, rfl, by omega, by omega, by omega, (fun h => absurd h (by decide)), (fun _ => by rw [ogF_pos (by omega)]; have fu_2k0 : kd S a = 11 := (by omega); obtain ⟨fu_16, su_16⟩ := pu_16 (by omega); subst au_16; obtain ⟨fu_20, su_20⟩ := nu_20 (by omega); subst au_20; simp only [ogT, fu_2k0, fu_16, fu_20, reduceIte, Option.bind_some, Option.bind_none, or_true, true_or, or_self, or_false, false_or, Int.reduceEq, Option.some.injEq, reduceCtorEq])⟩ dX8_factor_201
        · refine lv_aload_n hx hb dX8_factor_160 rfl (lv_at hl 0 rfl) ?_
          refine lv_iconst (v := iv 2) hx hb dX8_factor_161 (by decide) ?_
          refine sBi (sV (As := [.int (iv 2)]) (rest := []) (k := 12) Cx (o_X8_pass l G S hA hS hZ (a := au_20) (k := 2) (by omega) (by omega)) (c_X8_92 Cx rfl rfl (rmk_ok (by omega) (by decide))) hW (by decide) rfl rfl rfl hl.1 rfl (Nat.le_of_ble_eq_true rfl) dX8_factor_162 ⟨Nat.le_of_ble_eq_true rfl, Nat.le_of_ble_eq_true rfl⟩) hL (fun r_26 u_24 H locs k_25 hW hL => ?_)
          obtain ⟨au_24, eu_24, xu_24, yu_24, zu_24, pu_24, nu_24⟩ := k_25
          rw [eu_24] at hW
          refine r_if_eq (tgt := 200) hx hb ⟨(by omega), (by omega)⟩ dX8_factor_165 (by decide) (fun c_27 => ?_) (fun c_27 => ?_)
          · refine lv_iconst (v := iv 0) hx hb dX8_factor_200 (by decide) ?_
            exact sZret Cx hr hlk hW hL (by omega) ⟨au_24, rfl, by omega, by omega, by omega, (fun h => absurd h (by decide)), (fun _ => by rw [ogF_pos (by omega)]; have fu_2k0 : kd S a = 11 := (by omega); obtain ⟨fu_16, su_16⟩ := pu_16 (by omega); subst au_16; obtain ⟨fu_20, su_20⟩ := pu_20 (by omega); subst au_20; obtain ⟨fu_24, su_24⟩ := nu_24 (by omega); subst au_24; simp only [ogT, fu_2k0, fu_16, fu_20, fu_24, reduceIte, Option.bind_some, Option.bind_none, or_true, true_or, or_self, or_false, false_or, Int.reduceEq, Option.some.injEq, reduceCtorEq])⟩ dX8_factor_201
          · refine lv_aload_n hx hb dX8_factor_168 rfl (lv_at hl 0 rfl) ?_
            refine lv_bipush (v := iv 19) hx hb dX8_factor_169 (by decide) ?_
            refine sBi (sV (As := [.int (iv 19)]) (rest := []) (k := 12) Cx (o_X8_pass l G S hA hS hZ (a := au_24) (k := 19) (by omega) (by omega)) (c_X8_92 Cx rfl rfl (rmk_ok (by omega) (by decide))) hW (by decide) rfl rfl rfl hl.1 rfl (Nat.le_of_ble_eq_true rfl) dX8_factor_171 ⟨Nat.le_of_ble_eq_true rfl, Nat.le_of_ble_eq_true rfl⟩) hL (fun r_30 u_28 H locs k_29 hW hL => ?_)
            obtain ⟨au_28, eu_28, xu_28, yu_28, zu_28, pu_28, nu_28⟩ := k_29
            rw [eu_28] at hW
            refine r_if_eq (tgt := 200) hx hb ⟨(by omega), (by omega)⟩ dX8_factor_174 (by decide) (fun c_31 => ?_) (fun c_31 => ?_)
            · refine lv_iconst (v := iv 0) hx hb dX8_factor_200 (by decide) ?_
              exact sZret Cx hr hlk hW hL (by omega) ⟨au_28, rfl, by omega, by omega, by omega, (fun h => absurd h (by decide)), (fun _ => by rw [ogF_pos (by omega)]; have fu_2k0 : kd S a = 11 := (by omega); obtain ⟨fu_16, su_16⟩ := pu_16 (by omega); subst au_16; obtain ⟨fu_20, su_20⟩ := pu_20 (by omega); subst au_20; obtain ⟨fu_24, su_24⟩ := pu_24 (by omega); subst au_24; obtain ⟨fu_28, su_28⟩ := nu_28 (by omega); subst au_28; simp only [ogT, fu_2k0, fu_16, fu_20, fu_24, fu_28, reduceIte, Option.bind_some, Option.bind_none, or_true, true_or, or_self, or_false, false_or, Int.reduceEq, Option.some.injEq, reduceCtorEq])⟩ dX8_factor_201
            · refine lv_aload_n hx hb dX8_factor_177 rfl (lv_at hl 0 rfl) ?_
              refine lv_iload_n hx hb dX8_factor_178 rfl (lv_at hl 1 rfl) ?_
              refine lv_iconst (v := iv 1) hx hb dX8_factor_179 (by decide) ?_
              refine r_iadd hx hb dX8_factor_180 ?_
              refine sBi (sV (As := [.int (iv (dd + 1))]) (rest := []) (k := 12) Cx (hE (by omega) au_28 (by omega)) (c_X8_89 Cx rfl rfl (rmk_ok (by omega) (by decide))) hW (by decide) rfl rfl rfl hl.1 rfl (Nat.le_of_ble_eq_true rfl) dX8_factor_181 ⟨Nat.le_of_ble_eq_true rfl, Nat.le_of_ble_eq_true rfl⟩) hL (fun r_34 u_32 H locs k_33 hW hL => ?_)
              obtain ⟨au_32, eu_32, xu_32, yu_32, zu_32, pu_32, nu_32⟩ := k_33
              rw [eu_32] at hW
              refine r_if_eq (tgt := 200) hx hb ⟨(by omega), (by omega)⟩ dX8_factor_184 (by decide) (fun c_35 => ?_) (fun c_35 => ?_)
              · refine lv_iconst (v := iv 0) hx hb dX8_factor_200 (by decide) ?_
                exact sZret Cx hr hlk hW hL (by omega) ⟨au_32, rfl, by omega, by omega, by omega, (fun h => absurd h (by decide)), (fun _ => by rw [ogF_pos (by omega)]; have fu_2k0 : kd S a = 11 := (by omega); obtain ⟨fu_16, su_16⟩ := pu_16 (by omega); subst au_16; obtain ⟨fu_20, su_20⟩ := pu_20 (by omega); subst au_20; obtain ⟨fu_24, su_24⟩ := pu_24 (by omega); subst au_24; obtain ⟨fu_28, su_28⟩ := pu_28 (by omega); subst au_28; have fu_32 := nu_32 (by omega); simp only [ogT, fu_2k0, fu_16, fu_20, fu_24, fu_28, fu_32, reduceIte, Option.bind_some, Option.bind_none, or_true, true_or, or_self, or_false, false_or, Int.reduceEq, Option.some.injEq, reduceCtorEq])⟩ dX8_factor_201
              · refine lv_aload_n hx hb dX8_factor_187 rfl (lv_at hl 0 rfl) ?_
                refine lv_bipush (v := iv 20) hx hb dX8_factor_188 (by decide) ?_
                refine sBi (sV (As := [.int (iv 20)]) (rest := []) (k := 12) Cx (o_X8_pass l G S hA hS hZ (a := au_32) (k := 20) (by omega) (by omega)) (c_X8_92 Cx rfl rfl (rmk_ok (by omega) (by decide))) hW (by decide) rfl rfl rfl hl.1 rfl (Nat.le_of_ble_eq_true rfl) dX8_factor_190 ⟨Nat.le_of_ble_eq_true rfl, Nat.le_of_ble_eq_true rfl⟩) hL (fun r_38 u_36 H locs k_37 hW hL => ?_)
                obtain ⟨au_36, eu_36, xu_36, yu_36, zu_36, pu_36, nu_36⟩ := k_37
                rw [eu_36] at hW
                refine r_if_eq (tgt := 200) hx hb ⟨(by omega), (by omega)⟩ dX8_factor_193 (by decide) (fun c_39 => ?_) (fun c_39 => ?_)
                · refine lv_iconst (v := iv 0) hx hb dX8_factor_200 (by decide) ?_
                  exact sZret Cx hr hlk hW hL (by omega) ⟨au_36, rfl, by omega, by omega, by omega, (fun h => absurd h (by decide)), (fun _ => by rw [ogF_pos (by omega)]; have fu_2k0 : kd S a = 11 := (by omega); obtain ⟨fu_16, su_16⟩ := pu_16 (by omega); subst au_16; obtain ⟨fu_20, su_20⟩ := pu_20 (by omega); subst au_20; obtain ⟨fu_24, su_24⟩ := pu_24 (by omega); subst au_24; obtain ⟨fu_28, su_28⟩ := pu_28 (by omega); subst au_28; have fu_32 := pu_32 (by omega); obtain ⟨fu_36, su_36⟩ := nu_36 (by omega); subst au_36; simp only [ogT, fu_2k0, fu_16, fu_20, fu_24, fu_28, fu_32, fu_36, reduceIte, Option.bind_some, Option.bind_none, or_true, true_or, or_self, or_false, false_or, Int.reduceEq, Option.some.injEq, reduceCtorEq])⟩ dX8_factor_201
                · refine lv_iconst (v := iv 1) hx hb dX8_factor_196 (by decide) ?_
                  refine lv_goto (tgt := 201) hx hb dX8_factor_197 (by decide) ?_
                  exact sZret Cx hr hlk hW hL (by omega) ⟨au_36, rfl, by omega, by omega, by omega, (fun _ => by rw [ogF_pos (by omega)]; have fu_2k0 : kd S a = 11 := (by omega); obtain ⟨fu_16, su_16⟩ := pu_16 (by omega); subst au_16; obtain ⟨fu_20, su_20⟩ := pu_20 (by omega); subst au_20; obtain ⟨fu_24, su_24⟩ := pu_24 (by omega); subst au_24; obtain ⟨fu_28, su_28⟩ := pu_28 (by omega); subst au_28; have fu_32 := pu_32 (by omega); obtain ⟨fu_36, su_36⟩ := pu_36 (by omega); subst au_36; simp only [ogT, fu_2k0, fu_16, fu_20, fu_24, fu_28, fu_32, fu_36, reduceIte, Option.bind_some, Option.bind_none, or_true, true_or, or_self, or_false, false_or, Int.reduceEq, Option.some.injEq, reduceCtorEq]), (fun h => absurd h (by decide))⟩ dX8_factor_201
    by_cases c_40 : r_4 = 19
    · refine lv_lookup (off := 82) (tgt := 98) hx hb dX8_factor_16 (by decide) (by rw [c_40]; decide) (by decide) ?_
      refine lv_aload_n hx hb dX8_factor_98 rfl (lv_at hl 0 rfl) ?_
      refine lv_dup hx hb dX8_factor_99 rfl ?_
      refine g_X8_26 Cx hW (k := 12) (by decide) rfl (v := a) uF_on dX8_factor_100 ?_
      refine lv_iconst (v := iv 1) hx hb dX8_factor_103 (by decide) ?_
      refine r_iadd hx hb dX8_factor_104 ?_
      refine p_X8_26 Cx hW hL (k := 12) (by decide) rfl dX8_factor_105 (fun H locs hW hL => ?_)
      rw [uF_uF] at hW
      refine lv_aload_n hx hb dX8_factor_108 rfl (lv_at hl 0 rfl) ?_
      refine lv_iload_n hx hb dX8_factor_109 rfl (lv_at hl 1 rfl) ?_
      refine lv_iconst (v := iv 1) hx hb dX8_factor_110 (by decide) ?_
      refine r_iadd hx hb dX8_factor_111 ?_
      refine sBi (sV (As := [.int (iv (dd + 1))]) (rest := []) (k := 12) Cx (hE (by omega) (a + 1) (by omega)) (c_X8_89 Cx rfl rfl (rmk_ok (by omega) (by decide))) hW (by decide) rfl rfl rfl hl.1 rfl (Nat.le_of_ble_eq_true rfl) dX8_factor_112 ⟨Nat.le_of_ble_eq_true rfl, Nat.le_of_ble_eq_true rfl⟩) hL (fun r_43 u_41 H locs k_42 hW hL => ?_)
      obtain ⟨au_41, eu_41, xu_41, yu_41, zu_41, pu_41, nu_41⟩ := k_42
      rw [eu_41] at hW
      refine r_if_eq (tgt := 131) hx hb ⟨(by omega), (by omega)⟩ dX8_factor_115 (by decide) (fun c_44 => ?_) (fun c_44 => ?_)
      · refine lv_iconst (v := iv 0) hx hb dX8_factor_131 (by decide) ?_
        exact sZret Cx hr hlk hW hL (by omega) ⟨au_41, rfl, by omega, by omega, by omega, (fun h => absurd h (by decide)), (fun _ => by rw [ogF_pos (by omega)]; have fu_2k0 : kd S a = 19 := (by omega); have fu_41 := nu_41 (by omega); simp only [ogT, fu_2k0, fu_41, reduceIte, Option.bind_some, Option.bind_none, or_true, true_or, or_self, or_false, false_or, Int.reduceEq, Option.some.injEq, reduceCtorEq])⟩ dX8_factor_132
      · refine lv_aload_n hx hb dX8_factor_118 rfl (lv_at hl 0 rfl) ?_
        refine lv_bipush (v := iv 20) hx hb dX8_factor_119 (by decide) ?_
        refine sBi (sV (As := [.int (iv 20)]) (rest := []) (k := 12) Cx (o_X8_pass l G S hA hS hZ (a := au_41) (k := 20) (by omega) (by omega)) (c_X8_92 Cx rfl rfl (rmk_ok (by omega) (by decide))) hW (by decide) rfl rfl rfl hl.1 rfl (Nat.le_of_ble_eq_true rfl) dX8_factor_121 ⟨Nat.le_of_ble_eq_true rfl, Nat.le_of_ble_eq_true rfl⟩) hL (fun r_47 u_45 H locs k_46 hW hL => ?_)
        obtain ⟨au_45, eu_45, xu_45, yu_45, zu_45, pu_45, nu_45⟩ := k_46
        rw [eu_45] at hW
        refine r_if_eq (tgt := 131) hx hb ⟨(by omega), (by omega)⟩ dX8_factor_124 (by decide) (fun c_48 => ?_) (fun c_48 => ?_)
        · refine lv_iconst (v := iv 0) hx hb dX8_factor_131 (by decide) ?_
          exact sZret Cx hr hlk hW hL (by omega) ⟨au_45, rfl, by omega, by omega, by omega, (fun h => absurd h (by decide)), (fun _ => by rw [ogF_pos (by omega)]; have fu_2k0 : kd S a = 19 := (by omega); have fu_41 := pu_41 (by omega); obtain ⟨fu_45, su_45⟩ := nu_45 (by omega); subst au_45; simp only [ogT, fu_2k0, fu_41, fu_45, reduceIte, Option.bind_some, Option.bind_none, or_true, true_or, or_self, or_false, false_or, Int.reduceEq, Option.some.injEq, reduceCtorEq])⟩ dX8_factor_132
        · refine lv_iconst (v := iv 1) hx hb dX8_factor_127 (by decide) ?_
          refine lv_goto (tgt := 132) hx hb dX8_factor_128 (by decide) ?_
          exact sZret Cx hr hlk hW hL (by omega) ⟨au_45, rfl, by omega, by omega, by omega, (fun _ => by rw [ogF_pos (by omega)]; have fu_2k0 : kd S a = 19 := (by omega); have fu_41 := pu_41 (by omega); obtain ⟨fu_45, su_45⟩ := pu_45 (by omega); subst au_45; simp only [ogT, fu_2k0, fu_41, fu_45, reduceIte, Option.bind_some, Option.bind_none, or_true, true_or, or_self, or_false, false_or, Int.reduceEq, Option.some.injEq, reduceCtorEq]), (fun h => absurd h (by decide))⟩ dX8_factor_132
    by_cases c_49 : r_4 = 22
    · refine lv_lookup (off := 64) (tgt := 80) hx hb dX8_factor_16 (by decide) (by rw [c_49]; decide) (by decide) ?_
      refine lv_aload_n hx hb dX8_factor_80 rfl (lv_at hl 0 rfl) ?_
      refine lv_dup hx hb dX8_factor_81 rfl ?_
      refine g_X8_26 Cx hW (k := 12) (by decide) rfl (v := a) uF_on dX8_factor_82 ?_
      refine lv_iconst (v := iv 1) hx hb dX8_factor_85 (by decide) ?_
      refine r_iadd hx hb dX8_factor_86 ?_
      refine p_X8_26 Cx hW hL (k := 12) (by decide) rfl dX8_factor_87 (fun H locs hW hL => ?_)
      rw [uF_uF] at hW
      refine lv_aload_n hx hb dX8_factor_90 rfl (lv_at hl 0 rfl) ?_
      refine lv_iload_n hx hb dX8_factor_91 rfl (lv_at hl 1 rfl) ?_
      refine lv_iconst (v := iv 1) hx hb dX8_factor_92 (by decide) ?_
      refine r_iadd hx hb dX8_factor_93 ?_
      refine sBi (sV (As := [.int (iv (dd + 1))]) (rest := []) (k := 12) Cx (hF (by omega) (a + 1) (by omega)) (c_X8_110 Cx rfl rfl (rmk_ok (by omega) (by decide))) hW (by decide) rfl rfl rfl hl.1 rfl (Nat.le_of_ble_eq_true rfl) dX8_factor_94 ⟨Nat.le_of_ble_eq_true rfl, Nat.le_of_ble_eq_true rfl⟩) hL (fun r_52 u_50 H locs k_51 hW hL => ?_)
      obtain ⟨au_50, eu_50, xu_50, yu_50, zu_50, pu_50, nu_50⟩ := k_51
      rw [eu_50] at hW
      exact sZret Cx hr hlk hW hL (by omega) ⟨au_50, rfl, by omega, by omega, by omega, (fun h => by rw [ogF_pos (by omega)]; have fu_2k0 : kd S a = 22 := (by omega); have fu_50 := pu_50 h; simp only [ogT, fu_2k0, fu_50, reduceIte, Option.bind_some, Option.bind_none, or_true, true_or, or_self, or_false, false_or, Int.reduceEq, Option.some.injEq, reduceCtorEq]), (fun h => by rw [ogF_pos (by omega)]; have fu_2k0 : kd S a = 22 := (by omega); have fu_50 := nu_50 h; simp only [ogT, fu_2k0, fu_50, reduceIte, Option.bind_some, Option.bind_none, or_true, true_or, or_self, or_false, false_or, Int.reduceEq, Option.some.injEq, reduceCtorEq])⟩ dX8_factor_97
    refine lv_lookup (off := 218) (tgt := 234) hx hb dX8_factor_16 (by decide) (by rw [iv_toInt ⟨(by omega), (by omega)⟩]; exact lk_out (by simp [List.forall_mem_cons]; omega)) (by decide) ?_
    refine lv_iconst (v := iv 0) hx hb dX8_factor_234 (by decide) ?_
    exact sZret Cx hr hlk hW hL (by omega) ⟨a, rfl, by omega, by omega, by omega, (fun h => absurd h (by decide)), (fun _ => by rw [ogF_pos (by omega)]; have fu_2k0 : ¬ kd S a = 2 := (by omega); have fu_2k1 : ¬ kd S a = 3 := (by omega); have fu_2k2 : ¬ kd S a = 11 := (by omega); have fu_2k3 : ¬ kd S a = 19 := (by omega); have fu_2k4 : ¬ kd S a = 22 := (by omega); simp only [ogT, fu_2k0, fu_2k1, fu_2k2, fu_2k3, fu_2k4, reduceIte, Option.bind_some, Option.bind_none, or_true, true_or, or_self, or_false, false_or, Int.reduceEq, Option.some.injEq, reduceCtorEq])⟩ dX8_factor_235
  · refine lv_iconst (v := iv 0) hx hb dX8_factor_6 (by decide) ?_
    exact sZret Cx hr hlk hW hL (by omega) ⟨a, rfl, by omega, by omega, by omega, (fun h => absurd h (by decide)), (fun _ => by rw [show n = 0 by omega]; rfl)⟩ dX8_factor_7

set_option maxRecDepth 100000 in
set_option maxHeartbeats 4000000 in
theorem o_X8_term (l : Launch) (G : sG) (S : sS) {D d1 n : Nat} {dd a : Int} (hA : SynAt G S) (hS : SynOK S) (hZ : OZ S) (hdd : 0 ≤ dd ∧ dd ≤ 30) (hn : (n : Int) = 30 - dd) (h1 : d1 < D) (h4 : 4 ≤ D) (hF : OFaC l G S d1 n dd) (ha : 0 ≤ a ∧ a ≤ S.1 12 3 - 1) : Met l yX8_term (.code yX8_term cX8_term 3 (some .boolean) :: tb) (rmk D 0 0) (sPc G 294 (uF S 12 4 a) [.ref (G.2.2.1 + 12), .int (iv dd)]) (sQi G 294 (OPost S a (ogP (S.1 12 3) (kd S) (ogF (S.1 12 3) (kd S) n) a))) 0 0 (sF G) := by
  refine sEnter (by decide) (Nat.le_of_ble_eq_true rfl) ?_
  intro p e s m args below meth c Cx hr hlk hnm hW ls hl
  have Cx : sC G p m c cX8_term 3 s args RX8 := Cx
  obtain ⟨hx, hb, hml, hown, hts⟩ := id Cx.1
  have hL : sL G [] := sL_nil
  have hl : lv_has ls 3 [(0, .ref (G.2.2.1 + 12)), (1, .int (iv dd))] := hl
  obtain ⟨hr0, hr1, hr2⟩ := id hA
  obtain ⟨ht, hki, hst, hva⟩ := id hS
  have hz0 := hZ.1
  refine lv_aload_n hx hb dX8_term_0 rfl (lv_at hl 0 rfl) ?_
  refine lv_iload_n hx hb dX8_term_1 rfl (lv_at hl 1 rfl) ?_
  refine sBi (sV (As := [.int (iv dd)]) (rest := []) (k := 12) Cx (hF a (by omega)) (c_X8_110 Cx rfl rfl (rmk_ok (by omega) (by decide))) hW (by decide) rfl rfl rfl hl.1 rfl (Nat.le_of_ble_eq_true rfl) dX8_term_2 ⟨Nat.le_of_ble_eq_true rfl, Nat.le_of_ble_eq_true rfl⟩) hL (fun r_3 u_1 H locs k_2 hW hL => ?_)
  obtain ⟨au_1, eu_1, xu_1, yu_1, zu_1, pu_1, nu_1⟩ := k_2
  rw [eu_1] at hW
  refine r_if_ne (tgt := 10) hx hb ⟨(by omega), (by omega)⟩ dX8_term_5 (by decide) (fun c_4 => ?_) (fun c_4 => ?_)
  · refine lv_iconst (v := iv 0) hx hb dX8_term_10 (by decide) ?_
    refine lv_istore_n (lv' := [(2, .int (iv 0)), (0, .ref (G.2.2.1 + 12)), (1, .int (iv dd))]) hx hb dX8_term_11 rfl hl (by decide) rfl (fun ls hl => ?_)
    have loop_12 : ∀ (fuel : Nat) (i : Int) (b : Int) (H : Heap) (locs : List Loc) (ls : Array Slot), ((S.1 12 3) - i).toNat < fuel → (0 ≤ i ∧ i ≤ b) → (a ≤ b ∧ b ≤ (S.1 12 3) - 1) → (ogP (S.1 12 3) (kd S) (ogF (S.1 12 3) (kd S) n) a = ogW (S.1 12 3) (fun p => (kd S) p = 23) (fun p => (ogF (S.1 12 3) (kd S) n) (p + 1)) b) → sW G 294 (uF S 12 4 b) H → sL G locs → lv_has ls 3 [(2, .int (iv i)), (0, .ref (G.2.2.1 + 12)), (1, .int (iv dd))] → W p l e (rmk D 0 0) s m args below meth c H locs 0 0 (MQ below (sQi G 294 (OPost S a (ogP (S.1 12 3) (kd S) (ogF (S.1 12 3) (kd S) n) a))) args s 0 0 (sF G)) (F0 m 12 ls []) := by
      intro fuel
      induction fuel with
      | zero => intro i b H locs ls hmeas hi hb2 hG hW hL hl; exact absurd hmeas (Nat.not_lt_zero _)
      | succ fuel ih_12 =>
        intro i b H locs ls hmeas hi hb2 hG hW hL hl
        refine lv_iload_n hx hb dX8_term_12 rfl (lv_at hl 0 rfl) ?_
        refine lv_aload_n hx hb dX8_term_13 rfl (lv_at hl 1 rfl) ?_
        refine g_X8_22 Cx hW (k := 12) (by decide) rfl (v := S.1 12 3) (uF_ne (fun h => absurd h.2 (by decide))) dX8_term_14 ?_
        refine r_icmp_ge (tgt := 55) hx hb ⟨(by omega), (by omega)⟩ ⟨(by omega), (by omega)⟩ dX8_term_17 (by decide) (fun c_5 => ?_) (fun c_5 => ?_)
        · exfalso; omega
        · refine lv_aload_n hx hb dX8_term_20 rfl (lv_at hl 1 rfl) ?_
          refine lv_bipush (v := iv 23) hx hb dX8_term_21 (by decide) ?_
          refine sBi (sV (As := [.int (iv 23)]) (rest := []) (k := 12) Cx (o_X8_is l G S hA hS hZ (a := b) (k := 23) (by omega) (by omega)) (c_X8_82 Cx rfl rfl (rmk_ok (by omega) (by decide))) hW (by decide) rfl rfl rfl hl.1 rfl (Nat.le_of_ble_eq_true rfl) dX8_term_23 ⟨Nat.le_of_ble_eq_true rfl, Nat.le_of_ble_eq_true rfl⟩) hL (fun r_8 u_6 H locs k_7 hW hL => ?_)
          obtain ⟨eu_6, zu_6, pu_6, nu_6⟩ := k_7
          rw [eu_6] at hW
          have wu_6 : b + r_8 ≤ S.1 12 3 - 1 := (by by_cases h9 : r_8 = 1; (have := OZ.ne hZ (pu_6 h9) (by omega) (by omega); omega); omega)
          refine r_if_eq (tgt := 55) hx hb ⟨(by omega), (by omega)⟩ dX8_term_26 (by decide) (fun c_9 => ?_) (fun c_9 => ?_)
          · refine lv_iconst (v := iv 1) hx hb dX8_term_55 (by decide) ?_
            exact sZret Cx hr hlk hW hL (by omega) ⟨b, rfl, by omega, by omega, by omega, (fun _ => by rw [hG]; exact ogW_no (nu_6 (by omega))), (fun h => absurd h (by decide))⟩ dX8_term_56
          · refine lv_aload_n hx hb dX8_term_29 rfl (lv_at hl 1 rfl) ?_
            refine lv_dup hx hb dX8_term_30 rfl ?_
            refine g_X8_26 Cx hW (k := 12) (by decide) rfl (v := b) uF_on dX8_term_31 ?_
            refine lv_iconst (v := iv 1) hx hb dX8_term_34 (by decide) ?_
            refine r_iadd hx hb dX8_term_35 ?_
            refine p_X8_26 Cx hW hL (k := 12) (by decide) rfl dX8_term_36 (fun H locs hW hL => ?_)
            rw [uF_uF] at hW
            refine lv_aload_n hx hb dX8_term_39 rfl (lv_at hl 1 rfl) ?_
            refine lv_iload_n hx hb dX8_term_40 rfl (lv_at hl 2 rfl) ?_
            refine sBi (sV (As := [.int (iv dd)]) (rest := []) (k := 12) Cx (hF (b + 1) (by omega)) (c_X8_110 Cx rfl rfl (rmk_ok (by omega) (by decide))) hW (by decide) rfl rfl rfl hl.1 rfl (Nat.le_of_ble_eq_true rfl) dX8_term_41 ⟨Nat.le_of_ble_eq_true rfl, Nat.le_of_ble_eq_true rfl⟩) hL (fun r_12 u_10 H locs k_11 hW hL => ?_)
            obtain ⟨au_10, eu_10, xu_10, yu_10, zu_10, pu_10, nu_10⟩ := k_11
            rw [eu_10] at hW
            refine r_if_ne (tgt := 49) hx hb ⟨(by omega), (by omega)⟩ dX8_term_44 (by decide) (fun c_13 => ?_) (fun c_13 => ?_)
            · refine lv_iinc (v := iv (i + 1)) (lv' := [(2, .int (iv (i + 1))), (0, .ref (G.2.2.1 + 12)), (1, .int (iv dd))]) hx hb dX8_term_49 hl (k := 0) rfl ((Int32.ofInt_add _ _).symm) (by decide) rfl (fun ls hl => ?_)
              refine lv_goto (tgt := 12) hx hb dX8_term_52 (by decide) ?_
              exact ih_12 (i + 1) au_10 _ _ _ (by omega) (by omega) (by omega) (by rw [hG]; exact ogW23 kd_out (ogF_inc n) (pu_6 (by omega)) (pu_10 (by omega))) hW hL (lv_sub hl [0, 1, 2] rfl)
            · refine lv_iconst (v := iv 0) hx hb dX8_term_47 (by decide) ?_
              exact sZret Cx hr hlk hW hL (by omega) ⟨au_10, rfl, by omega, by omega, by omega, (fun h => absurd h (by decide)), (fun _ => by rw [hG]; exact ogW_fa (pu_6 (by omega)) (nu_10 (by omega)))⟩ dX8_term_48
    exact loop_12 (_ + 1) 0 au_1 _ _ _ (Nat.lt_succ_self _) (by omega) (by omega) (by simp only [ogP, pu_1 (by omega), Option.bind_some]) hW hL (lv_sub hl [0, 1, 2] rfl)
  · refine lv_iconst (v := iv 0) hx hb dX8_term_8 (by decide) ?_
    exact sZret Cx hr hlk hW hL (by omega) ⟨au_1, rfl, by omega, by omega, by omega, (fun h => absurd h (by decide)), (fun _ => by have fu_1 := nu_1 (by omega); simp only [ogP, ogT, fu_1, reduceIte, Option.bind_some, Option.bind_none, or_true, true_or, or_self, or_false, false_or, Int.reduceEq, Option.some.injEq, reduceCtorEq])⟩ dX8_term_9

set_option maxRecDepth 100000 in
set_option maxHeartbeats 4000000 in
theorem o_X8_expression (l : Launch) (G : sG) (S : sS) {D d1 n : Nat} {dd a : Int} (hA : SynAt G S) (hS : SynOK S) (hZ : OZ S) (hdd : 0 ≤ dd ∧ dd ≤ 30) (hn : (n : Int) = 30 - dd) (h1 : d1 < D) (h4 : 4 ≤ D) (hT : OTeC l G S d1 n dd) (ha : 0 ≤ a ∧ a ≤ S.1 12 3 - 1) : Met l yX8_expression (.code yX8_expression cX8_expression 3 (some .boolean) :: tb) (rmk D 0 0) (sPc G 294 (uF S 12 4 a) [.ref (G.2.2.1 + 12), .int (iv dd)]) (sQi G 294 (OPost S a (ogU (S.1 12 3) (kd S) (ogF (S.1 12 3) (kd S) n) a))) 0 0 (sF G) := by
  refine sEnter (by decide) (Nat.le_of_ble_eq_true rfl) ?_
  intro p e s m args below meth c Cx hr hlk hnm hW ls hl
  have Cx : sC G p m c cX8_expression 3 s args RX8 := Cx
  obtain ⟨hx, hb, hml, hown, hts⟩ := id Cx.1
  have hL : sL G [] := sL_nil
  have hl : lv_has ls 3 [(0, .ref (G.2.2.1 + 12)), (1, .int (iv dd))] := hl
  obtain ⟨hr0, hr1, hr2⟩ := id hA
  obtain ⟨ht, hki, hst, hva⟩ := id hS
  have hz0 := hZ.1
  refine lv_aload_n hx hb dX8_expression_0 rfl (lv_at hl 0 rfl) ?_
  refine lv_iload_n hx hb dX8_expression_1 rfl (lv_at hl 1 rfl) ?_
  refine sBi (sV (As := [.int (iv dd)]) (rest := []) (k := 12) Cx (hT a (by omega)) (c_X8_107 Cx rfl rfl (rmk_ok (by omega) (by decide))) hW (by decide) rfl rfl rfl hl.1 rfl (Nat.le_of_ble_eq_true rfl) dX8_expression_2 ⟨Nat.le_of_ble_eq_true rfl, Nat.le_of_ble_eq_true rfl⟩) hL (fun r_3 u_1 H locs k_2 hW hL => ?_)
  obtain ⟨au_1, eu_1, xu_1, yu_1, zu_1, pu_1, nu_1⟩ := k_2
  rw [eu_1] at hW
  refine r_if_ne (tgt := 10) hx hb ⟨(by omega), (by omega)⟩ dX8_expression_5 (by decide) (fun c_4 => ?_) (fun c_4 => ?_)
  · refine lv_iconst (v := iv 0) hx hb dX8_expression_10 (by decide) ?_
    refine lv_istore_n (lv' := [(2, .int (iv 0)), (0, .ref (G.2.2.1 + 12)), (1, .int (iv dd))]) hx hb dX8_expression_11 rfl hl (by decide) rfl (fun ls hl => ?_)
    have loop_12 : ∀ (fuel : Nat) (i : Int) (b : Int) (H : Heap) (locs : List Loc) (ls : Array Slot), ((S.1 12 3) - i).toNat < fuel → (0 ≤ i ∧ i ≤ b) → (a ≤ b ∧ b ≤ (S.1 12 3) - 1) → (ogU (S.1 12 3) (kd S) (ogF (S.1 12 3) (kd S) n) a = ogW (S.1 12 3) (fun p => (kd S) p = 21 ∨ (kd S) p = 22) (fun p => ogP (S.1 12 3) (kd S) (ogF (S.1 12 3) (kd S) n) (p + 1)) b) → sW G 294 (uF S 12 4 b) H → sL G locs → lv_has ls 3 [(2, .int (iv i)), (0, .ref (G.2.2.1 + 12)), (1, .int (iv dd))] → W p l e (rmk D 0 0) s m args below meth c H locs 0 0 (MQ below (sQi G 294 (OPost S a (ogU (S.1 12 3) (kd S) (ogF (S.1 12 3) (kd S) n) a))) args s 0 0 (sF G)) (F0 m 12 ls []) := by
      intro fuel
      induction fuel with
      | zero => intro i b H locs ls hmeas hi hb2 hG hW hL hl; exact absurd hmeas (Nat.not_lt_zero _)
      | succ fuel ih_12 =>
        intro i b H locs ls hmeas hi hb2 hG hW hL hl
        refine lv_iload_n hx hb dX8_expression_12 rfl (lv_at hl 0 rfl) ?_
        refine lv_aload_n hx hb dX8_expression_13 rfl (lv_at hl 1 rfl) ?_
        refine g_X8_22 Cx hW (k := 12) (by decide) rfl (v := S.1 12 3) (uF_ne (fun h => absurd h.2 (by decide))) dX8_expression_14 ?_
        refine r_icmp_ge (tgt := 64) hx hb ⟨(by omega), (by omega)⟩ ⟨(by omega), (by omega)⟩ dX8_expression_17 (by decide) (fun c_5 => ?_) (fun c_5 => ?_)
        · exfalso; omega
        · refine lv_aload_n hx hb dX8_expression_20 rfl (lv_at hl 1 rfl) ?_
          refine lv_bipush (v := iv 21) hx hb dX8_expression_21 (by decide) ?_
          refine sBi (sV (As := [.int (iv 21)]) (rest := []) (k := 12) Cx (o_X8_is l G S hA hS hZ (a := b) (k := 21) (by omega) (by omega)) (c_X8_82 Cx rfl rfl (rmk_ok (by omega) (by decide))) hW (by decide) rfl rfl rfl hl.1 rfl (Nat.le_of_ble_eq_true rfl) dX8_expression_23 ⟨Nat.le_of_ble_eq_true rfl, Nat.le_of_ble_eq_true rfl⟩) hL (fun r_8 u_6 H locs k_7 hW hL => ?_)
          obtain ⟨eu_6, zu_6, pu_6, nu_6⟩ := k_7
          rw [eu_6] at hW
          have wu_6 : b + r_8 ≤ S.1 12 3 - 1 := (by by_cases h9 : r_8 = 1; (have := OZ.ne hZ (pu_6 h9) (by omega) (by omega); omega); omega)
          refine r_if_ne (tgt := 38) hx hb ⟨(by omega), (by omega)⟩ dX8_expression_26 (by decide) (fun c_9 => ?_) (fun c_9 => ?_)
          · refine lv_aload_n hx hb dX8_expression_38 rfl (lv_at hl 1 rfl) ?_
            refine lv_dup hx hb dX8_expression_39 rfl ?_
            refine g_X8_26 Cx hW (k := 12) (by decide) rfl (v := b) uF_on dX8_expression_40 ?_
            refine lv_iconst (v := iv 1) hx hb dX8_expression_43 (by decide) ?_
            refine r_iadd hx hb dX8_expression_44 ?_
            refine p_X8_26 Cx hW hL (k := 12) (by decide) rfl dX8_expression_45 (fun H locs hW hL => ?_)
            rw [uF_uF] at hW
            refine lv_aload_n hx hb dX8_expression_48 rfl (lv_at hl 1 rfl) ?_
            refine lv_iload_n hx hb dX8_expression_49 rfl (lv_at hl 2 rfl) ?_
            refine sBi (sV (As := [.int (iv dd)]) (rest := []) (k := 12) Cx (hT (b + 1) (by omega)) (c_X8_107 Cx rfl rfl (rmk_ok (by omega) (by decide))) hW (by decide) rfl rfl rfl hl.1 rfl (Nat.le_of_ble_eq_true rfl) dX8_expression_50 ⟨Nat.le_of_ble_eq_true rfl, Nat.le_of_ble_eq_true rfl⟩) hL (fun r_12 u_10 H locs k_11 hW hL => ?_)
            obtain ⟨au_10, eu_10, xu_10, yu_10, zu_10, pu_10, nu_10⟩ := k_11
            rw [eu_10] at hW
            refine r_if_ne (tgt := 58) hx hb ⟨(by omega), (by omega)⟩ dX8_expression_53 (by decide) (fun c_13 => ?_) (fun c_13 => ?_)
            · refine lv_iinc (v := iv (i + 1)) (lv' := [(2, .int (iv (i + 1))), (0, .ref (G.2.2.1 + 12)), (1, .int (iv dd))]) hx hb dX8_expression_58 hl (k := 0) rfl ((Int32.ofInt_add _ _).symm) (by decide) rfl (fun ls hl => ?_)
              refine lv_goto (tgt := 12) hx hb dX8_expression_61 (by decide) ?_
              exact ih_12 (i + 1) au_10 _ _ _ (by omega) (by omega) (by omega) (by rw [hG]; exact ogW2x kd_out (ogP_inc (ogF_inc n)) (.inl (pu_6 (by omega))) (pu_10 (by omega))) hW hL (lv_sub hl [0, 1, 2] rfl)
            · refine lv_iconst (v := iv 0) hx hb dX8_expression_56 (by decide) ?_
              exact sZret Cx hr hlk hW hL (by omega) ⟨au_10, rfl, by omega, by omega, by omega, (fun h => absurd h (by decide)), (fun _ => by rw [hG]; exact ogW_fa (.inl (pu_6 (by omega))) (nu_10 (by omega)))⟩ dX8_expression_57
          · refine lv_aload_n hx hb dX8_expression_29 rfl (lv_at hl 1 rfl) ?_
            refine lv_bipush (v := iv 22) hx hb dX8_expression_30 (by decide) ?_
            refine sBi (sV (As := [.int (iv 22)]) (rest := []) (k := 12) Cx (o_X8_is l G S hA hS hZ (a := b) (k := 22) (by omega) (by omega)) (c_X8_82 Cx rfl rfl (rmk_ok (by omega) (by decide))) hW (by decide) rfl rfl rfl hl.1 rfl (Nat.le_of_ble_eq_true rfl) dX8_expression_32 ⟨Nat.le_of_ble_eq_true rfl, Nat.le_of_ble_eq_true rfl⟩) hL (fun r_16 u_14 H locs k_15 hW hL => ?_)
            obtain ⟨eu_14, zu_14, pu_14, nu_14⟩ := k_15
            rw [eu_14] at hW
            have wu_14 : b + r_16 ≤ S.1 12 3 - 1 := (by by_cases h9 : r_16 = 1; (have := OZ.ne hZ (pu_14 h9) (by omega) (by omega); omega); omega)
            refine r_if_eq (tgt := 64) hx hb ⟨(by omega), (by omega)⟩ dX8_expression_35 (by decide) (fun c_17 => ?_) (fun c_17 => ?_)
            · refine lv_iconst (v := iv 1) hx hb dX8_expression_64 (by decide) ?_
              exact sZret Cx hr hlk hW hL (by omega) ⟨b, rfl, by omega, by omega, by omega, (fun _ => by rw [hG]; exact ogW_no (fun z => z.elim (nu_6 (by omega)) (nu_14 (by omega)))), (fun h => absurd h (by decide))⟩ dX8_expression_65
            · refine lv_aload_n hx hb dX8_expression_38 rfl (lv_at hl 1 rfl) ?_
              refine lv_dup hx hb dX8_expression_39 rfl ?_
              refine g_X8_26 Cx hW (k := 12) (by decide) rfl (v := b) uF_on dX8_expression_40 ?_
              refine lv_iconst (v := iv 1) hx hb dX8_expression_43 (by decide) ?_
              refine r_iadd hx hb dX8_expression_44 ?_
              refine p_X8_26 Cx hW hL (k := 12) (by decide) rfl dX8_expression_45 (fun H locs hW hL => ?_)
              rw [uF_uF] at hW
              refine lv_aload_n hx hb dX8_expression_48 rfl (lv_at hl 1 rfl) ?_
              refine lv_iload_n hx hb dX8_expression_49 rfl (lv_at hl 2 rfl) ?_
              refine sBi (sV (As := [.int (iv dd)]) (rest := []) (k := 12) Cx (hT (b + 1) (by omega)) (c_X8_107 Cx rfl rfl (rmk_ok (by omega) (by decide))) hW (by decide) rfl rfl rfl hl.1 rfl (Nat.le_of_ble_eq_true rfl) dX8_expression_50 ⟨Nat.le_of_ble_eq_true rfl, Nat.le_of_ble_eq_true rfl⟩) hL (fun r_20 u_18 H locs k_19 hW hL => ?_)
              obtain ⟨au_18, eu_18, xu_18, yu_18, zu_18, pu_18, nu_18⟩ := k_19
              rw [eu_18] at hW
              refine r_if_ne (tgt := 58) hx hb ⟨(by omega), (by omega)⟩ dX8_expression_53 (by decide) (fun c_21 => ?_) (fun c_21 => ?_)
              · refine lv_iinc (v := iv (i + 1)) (lv' := [(2, .int (iv (i + 1))), (0, .ref (G.2.2.1 + 12)), (1, .int (iv dd))]) hx hb dX8_expression_58 hl (k := 0) rfl ((Int32.ofInt_add _ _).symm) (by decide) rfl (fun ls hl => ?_)
                refine lv_goto (tgt := 12) hx hb dX8_expression_61 (by decide) ?_
                exact ih_12 (i + 1) au_18 _ _ _ (by omega) (by omega) (by omega) (by rw [hG]; exact ogW2x kd_out (ogP_inc (ogF_inc n)) (.inr (pu_14 (by omega))) (pu_18 (by omega))) hW hL (lv_sub hl [0, 1, 2] rfl)
              · refine lv_iconst (v := iv 0) hx hb dX8_expression_56 (by decide) ?_
                exact sZret Cx hr hlk hW hL (by omega) ⟨au_18, rfl, by omega, by omega, by omega, (fun h => absurd h (by decide)), (fun _ => by rw [hG]; exact ogW_fa (.inr (pu_14 (by omega))) (nu_18 (by omega)))⟩ dX8_expression_57
    exact loop_12 (_ + 1) 0 au_1 _ _ _ (Nat.lt_succ_self _) (by omega) (by omega) (by simp only [ogU, pu_1 (by omega), Option.bind_some]) hW hL (lv_sub hl [0, 1, 2] rfl)
  · refine lv_iconst (v := iv 0) hx hb dX8_expression_8 (by decide) ?_
    exact sZret Cx hr hlk hW hL (by omega) ⟨au_1, rfl, by omega, by omega, by omega, (fun h => absurd h (by decide)), (fun _ => by have fu_1 := nu_1 (by omega); simp only [ogU, ogT, fu_1, reduceIte, Option.bind_some, Option.bind_none, or_true, true_or, or_self, or_false, false_or, Int.reduceEq, Option.some.injEq, reduceCtorEq])⟩ dX8_expression_9

theorem osyn_all (l : Launch) (G : sG) (S : sS) (hA : SynAt G S) (hS : SynOK S) (hZ : OZ S) : ∀ (n : Nat) (dd : Int), 0 ≤ dd → dd ≤ 30 → (n : Int) = 30 - dd → OFaC l G S (3 * n + 4) n dd ∧ OTeC l G S (3 * n + 5) n dd ∧ OExC l G S (3 * n + 6) n dd := by
  intro n
  have fin : ∀ (n : Nat) (dd : Int), 0 ≤ dd → dd ≤ 30 → (n : Int) = 30 - dd → OFaC l G S (3 * n + 4) n dd → OFaC l G S (3 * n + 4) n dd ∧ OTeC l G S (3 * n + 5) n dd ∧ OExC l G S (3 * n + 6) n dd := fun n dd h0 h1 hn hF =>
    have hT : OTeC l G S (3 * n + 5) n dd := fun a ha => o_X8_term l G S hA hS hZ ⟨h0, h1⟩ hn (d1 := 3 * n + 4) (by omega) (by omega) hF ha
    ⟨hF, hT, fun a ha => o_X8_expression l G S hA hS hZ ⟨h0, h1⟩ hn (d1 := 3 * n + 5) (by omega) (by omega) hT ha⟩
  induction n with
  | zero =>
    intro dd h0 h1 h2
    exact fin 0 dd h0 h1 h2 (fun a ha => o_X8_factor l G S hA hS hZ ⟨h0, h1⟩ h2 (d1 := 0) (d2 := 0) (by omega) (by omega) (by omega) (fun h => absurd h (by omega)) (fun h => absurd h (by omega)) ha)
  | succ n ih =>
    intro dd h0 h1 h2
    exact fin (n + 1) dd h0 h1 h2 (fun a ha => o_X8_factor l G S hA hS hZ ⟨h0, h1⟩ h2 (d1 := 3 * n + 6) (d2 := 3 * n + 4) (by omega) (by omega) (by omega) (fun h => (ih (dd + 1) (by omega) (by omega) (by omega)).2.2) (fun h => (ih (dd + 1) (by omega) (by omega) (by omega)).1) ha)
theorem osyn_expr (l : Launch) (G : sG) (S : sS) (hA : SynAt G S) (hS : SynOK S) (hZ : OZ S) : OExC l G S 96 30 0 := (osyn_all l G S hA hS hZ 30 0 (by decide) (by decide) (by decide)).2.2

set_option maxRecDepth 100000 in
set_option maxHeartbeats 4000000 in
theorem o_X8_row (l : Launch) (G : sG) (S : sS) {a : Int} (hA : SynAt G S) (hS : SynOK S) (hZ : OZ S) (ha : 0 ≤ a ∧ a ≤ S.1 12 3 - 1) (hlt : kd S a = 10) : Met l yX8_row (.code yX8_row cX8_row 1 (some .boolean) :: tb) (rmk 97 0 0) (sPc G 294 (uF S 12 4 a) [.ref (G.2.2.1 + 12)]) (sQi G 294 (OPost S a (ogR (S.1 12 3) (kd S) a))) 0 0 (sF G) := by
  refine sEnter (by decide) (Nat.le_of_ble_eq_true rfl) ?_
  intro p e s m args below meth c Cx hr hlk hnm hW ls hl
  have Cx : sC G p m c cX8_row 1 s args RX8 := Cx
  obtain ⟨hx, hb, hml, hown, hts⟩ := id Cx.1
  have hL : sL G [] := sL_nil
  have hl : lv_has ls 1 [(0, .ref (G.2.2.1 + 12))] := hl
  obtain ⟨hr0, hr1, hr2⟩ := id hA
  obtain ⟨ht, hki, hst, hva⟩ := id hS
  have hz0 := hZ.1
  have hne := OZ.ne hZ (a := a) (c := kd S a) rfl (by omega) (by omega)
  refine lv_aload_n hx hb dX8_row_0 rfl (lv_at hl 0 rfl) ?_
  refine lv_dup hx hb dX8_row_1 rfl ?_
  refine g_X8_26 Cx hW (k := 12) (by decide) rfl (v := a) uF_on dX8_row_2 ?_
  refine lv_iconst (v := iv 1) hx hb dX8_row_5 (by decide) ?_
  refine r_iadd hx hb dX8_row_6 ?_
  refine p_X8_26 Cx hW hL (k := 12) (by decide) rfl dX8_row_7 (fun H locs hW hL => ?_)
  rw [uF_uF] at hW
  refine lv_aload_n hx hb dX8_row_10 rfl (lv_at hl 0 rfl) ?_
  refine lv_iconst (v := iv 2) hx hb dX8_row_11 (by decide) ?_
  refine sBi (sV (As := [.int (iv 2)]) (rest := []) (k := 12) Cx (o_X8_pass l G S hA hS hZ (a := a + 1) (k := 2) (by omega) (by omega)) (c_X8_92 Cx rfl rfl (rmk_ok (by omega) (by decide))) hW (by decide) rfl rfl rfl hl.1 rfl (Nat.le_of_ble_eq_true rfl) dX8_row_12 ⟨Nat.le_of_ble_eq_true rfl, Nat.le_of_ble_eq_true rfl⟩) hL (fun r_3 u_1 H locs k_2 hW hL => ?_)
  obtain ⟨au_1, eu_1, xu_1, yu_1, zu_1, pu_1, nu_1⟩ := k_2
  rw [eu_1] at hW
  refine r_if_ne (tgt := 20) hx hb ⟨(by omega), (by omega)⟩ dX8_row_15 (by decide) (fun c_4 => ?_) (fun c_4 => ?_)
  · refine lv_aload_n hx hb dX8_row_20 rfl (lv_at hl 0 rfl) ?_
    refine lv_bipush (v := iv 17) hx hb dX8_row_21 (by decide) ?_
    refine sBi (sV (As := [.int (iv 17)]) (rest := []) (k := 12) Cx (o_X8_pass l G S hA hS hZ (a := au_1) (k := 17) (by omega) (by omega)) (c_X8_92 Cx rfl rfl (rmk_ok (by omega) (by decide))) hW (by decide) rfl rfl rfl hl.1 rfl (Nat.le_of_ble_eq_true rfl) dX8_row_23 ⟨Nat.le_of_ble_eq_true rfl, Nat.le_of_ble_eq_true rfl⟩) hL (fun r_7 u_5 H locs k_6 hW hL => ?_)
    obtain ⟨au_5, eu_5, xu_5, yu_5, zu_5, pu_5, nu_5⟩ := k_6
    rw [eu_5] at hW
    refine r_if_eq (tgt := 65) hx hb ⟨(by omega), (by omega)⟩ dX8_row_26 (by decide) (fun c_8 => ?_) (fun c_8 => ?_)
    · refine lv_aload_n hx hb dX8_row_65 rfl (lv_at hl 0 rfl) ?_
      refine lv_bipush (v := iv 24) hx hb dX8_row_66 (by decide) ?_
      refine sBi (sV (As := [.int (iv 24)]) (rest := []) (k := 12) Cx (o_X8_pass l G S hA hS hZ (a := au_5) (k := 24) (by omega) (by omega)) (c_X8_92 Cx rfl rfl (rmk_ok (by omega) (by decide))) hW (by decide) rfl rfl rfl hl.1 rfl (Nat.le_of_ble_eq_true rfl) dX8_row_68 ⟨Nat.le_of_ble_eq_true rfl, Nat.le_of_ble_eq_true rfl⟩) hL (fun r_11 u_9 H locs k_10 hW hL => ?_)
      obtain ⟨au_9, eu_9, xu_9, yu_9, zu_9, pu_9, nu_9⟩ := k_10
      rw [eu_9] at hW
      refine r_if_eq (tgt := 82) hx hb ⟨(by omega), (by omega)⟩ dX8_row_71 (by decide) (fun c_12 => ?_) (fun c_12 => ?_)
      · refine lv_iconst (v := iv 0) hx hb dX8_row_82 (by decide) ?_
        exact sZret Cx hr hlk hW hL (by omega) ⟨au_9, rfl, by omega, by omega, by omega, (fun h => absurd h (by decide)), (fun _ => by obtain ⟨fu_1, su_1⟩ := pu_1 (by omega); subst au_1; obtain ⟨fu_5, su_5⟩ := nu_5 (by omega); subst au_5; obtain ⟨fu_9, su_9⟩ := nu_9 (by omega); subst au_9; simp only [ogR, ogRi, ogR1, ogR2, ogT, fu_1, fu_5, fu_9, reduceIte, Option.bind_some, Option.bind_none, or_true, true_or, or_self, or_false, false_or, Int.reduceEq, Option.some.injEq, reduceCtorEq])⟩ dX8_row_83
      · refine lv_aload_n hx hb dX8_row_74 rfl (lv_at hl 0 rfl) ?_
        refine lv_iconst (v := iv 0) hx hb dX8_row_75 (by decide) ?_
        refine sBi (sV (As := [.int (iv 0)]) (rest := []) (k := 12) Cx ((osyn_expr l G S hA hS hZ) au_9 (by omega)) (c_X8_89 Cx rfl rfl (rmk_ok (by omega) (by decide))) hW (by decide) rfl rfl rfl hl.1 rfl (Nat.le_of_ble_eq_true rfl) dX8_row_76 ⟨Nat.le_of_ble_eq_true rfl, Nat.le_of_ble_eq_true rfl⟩) hL (fun r_15 u_13 H locs k_14 hW hL => ?_)
        obtain ⟨au_13, eu_13, xu_13, yu_13, zu_13, pu_13, nu_13⟩ := k_14
        rw [eu_13] at hW
        refine r_if_ne (tgt := 84) hx hb ⟨(by omega), (by omega)⟩ dX8_row_79 (by decide) (fun c_16 => ?_) (fun c_16 => ?_)
        · refine lv_aload_n hx hb dX8_row_84 rfl (lv_at hl 0 rfl) ?_
          refine lv_bipush (v := iv 25) hx hb dX8_row_85 (by decide) ?_
          refine sBi (sV (As := [.int (iv 25)]) (rest := []) (k := 12) Cx (o_X8_is l G S hA hS hZ (a := au_13) (k := 25) (by omega) (by omega)) (c_X8_82 Cx rfl rfl (rmk_ok (by omega) (by decide))) hW (by decide) rfl rfl rfl hl.1 rfl (Nat.le_of_ble_eq_true rfl) dX8_row_87 ⟨Nat.le_of_ble_eq_true rfl, Nat.le_of_ble_eq_true rfl⟩) hL (fun r_19 u_17 H locs k_18 hW hL => ?_)
          obtain ⟨eu_17, zu_17, pu_17, nu_17⟩ := k_18
          rw [eu_17] at hW
          have wu_17 : au_13 + r_19 ≤ S.1 12 3 - 1 := (by by_cases h9 : r_19 = 1; (have := OZ.ne hZ (pu_17 h9) (by omega) (by omega); omega); omega)
          refine r_if_ne (tgt := 113) hx hb ⟨(by omega), (by omega)⟩ dX8_row_90 (by decide) (fun c_20 => ?_) (fun c_20 => ?_)
          · refine lv_aload_n hx hb dX8_row_113 rfl (lv_at hl 0 rfl) ?_
            refine lv_dup hx hb dX8_row_114 rfl ?_
            refine g_X8_26 Cx hW (k := 12) (by decide) rfl (v := au_13) uF_on dX8_row_115 ?_
            refine lv_iconst (v := iv 1) hx hb dX8_row_118 (by decide) ?_
            refine r_iadd hx hb dX8_row_119 ?_
            refine p_X8_26 Cx hW hL (k := 12) (by decide) rfl dX8_row_120 (fun H locs hW hL => ?_)
            rw [uF_uF] at hW
            refine lv_aload_n hx hb dX8_row_123 rfl (lv_at hl 0 rfl) ?_
            refine lv_iconst (v := iv 0) hx hb dX8_row_124 (by decide) ?_
            refine sBi (sV (As := [.int (iv 0)]) (rest := []) (k := 12) Cx ((osyn_expr l G S hA hS hZ) (au_13 + 1) (by omega)) (c_X8_89 Cx rfl rfl (rmk_ok (by omega) (by decide))) hW (by decide) rfl rfl rfl hl.1 rfl (Nat.le_of_ble_eq_true rfl) dX8_row_125 ⟨Nat.le_of_ble_eq_true rfl, Nat.le_of_ble_eq_true rfl⟩) hL (fun r_23 u_21 H locs k_22 hW hL => ?_)
            obtain ⟨au_21, eu_21, xu_21, yu_21, zu_21, pu_21, nu_21⟩ := k_22
            rw [eu_21] at hW
            refine r_if_eq (tgt := 144) hx hb ⟨(by omega), (by omega)⟩ dX8_row_128 (by decide) (fun c_24 => ?_) (fun c_24 => ?_)
            · refine lv_iconst (v := iv 0) hx hb dX8_row_144 (by decide) ?_
              exact sZret Cx hr hlk hW hL (by omega) ⟨au_21, rfl, by omega, by omega, by omega, (fun h => absurd h (by decide)), (fun _ => by obtain ⟨fu_1, su_1⟩ := pu_1 (by omega); subst au_1; obtain ⟨fu_5, su_5⟩ := nu_5 (by omega); subst au_5; obtain ⟨fu_9, su_9⟩ := pu_9 (by omega); subst au_9; have fu_13 := pu_13 (by omega); have fu_17 := pu_17 (by omega); have fu_21 := nu_21 (by omega); simp only [ogR, ogRi, ogR1, ogR2, ogT, fu_1, fu_5, fu_9, fu_13, fu_17, fu_21, reduceIte, Option.bind_some, Option.bind_none, or_true, true_or, or_self, or_false, false_or, Int.reduceEq, Option.some.injEq, reduceCtorEq])⟩ dX8_row_145
            · refine lv_aload_n hx hb dX8_row_131 rfl (lv_at hl 0 rfl) ?_
              refine lv_bipush (v := iv 15) hx hb dX8_row_132 (by decide) ?_
              refine sBi (sV (As := [.int (iv 15)]) (rest := []) (k := 12) Cx (o_X8_pass l G S hA hS hZ (a := au_21) (k := 15) (by omega) (by omega)) (c_X8_92 Cx rfl rfl (rmk_ok (by omega) (by decide))) hW (by decide) rfl rfl rfl hl.1 rfl (Nat.le_of_ble_eq_true rfl) dX8_row_134 ⟨Nat.le_of_ble_eq_true rfl, Nat.le_of_ble_eq_true rfl⟩) hL (fun r_27 u_25 H locs k_26 hW hL => ?_)
              obtain ⟨au_25, eu_25, xu_25, yu_25, zu_25, pu_25, nu_25⟩ := k_26
              rw [eu_25] at hW
              refine r_if_eq (tgt := 144) hx hb ⟨(by omega), (by omega)⟩ dX8_row_137 (by decide) (fun c_28 => ?_) (fun c_28 => ?_)
              · refine lv_iconst (v := iv 0) hx hb dX8_row_144 (by decide) ?_
                exact sZret Cx hr hlk hW hL (by omega) ⟨au_25, rfl, by omega, by omega, by omega, (fun h => absurd h (by decide)), (fun _ => by obtain ⟨fu_1, su_1⟩ := pu_1 (by omega); subst au_1; obtain ⟨fu_5, su_5⟩ := nu_5 (by omega); subst au_5; obtain ⟨fu_9, su_9⟩ := pu_9 (by omega); subst au_9; have fu_13 := pu_13 (by omega); have fu_17 := pu_17 (by omega); have fu_21 := pu_21 (by omega); obtain ⟨fu_25, su_25⟩ := nu_25 (by omega); subst au_25; simp only [ogR, ogRi, ogR1, ogR2, ogT, fu_1, fu_5, fu_9, fu_13, fu_17, fu_21, fu_25, reduceIte, Option.bind_some, Option.bind_none, or_true, true_or, or_self, or_false, false_or, Int.reduceEq, Option.some.injEq, reduceCtorEq])⟩ dX8_row_145
              · refine lv_iconst (v := iv 1) hx hb dX8_row_140 (by decide) ?_
                refine lv_goto (tgt := 145) hx hb dX8_row_141 (by decide) ?_
                exact sZret Cx hr hlk hW hL (by omega) ⟨au_25, rfl, by omega, by omega, by omega, (fun _ => by obtain ⟨fu_1, su_1⟩ := pu_1 (by omega); subst au_1; obtain ⟨fu_5, su_5⟩ := nu_5 (by omega); subst au_5; obtain ⟨fu_9, su_9⟩ := pu_9 (by omega); subst au_9; have fu_13 := pu_13 (by omega); have fu_17 := pu_17 (by omega); have fu_21 := pu_21 (by omega); obtain ⟨fu_25, su_25⟩ := pu_25 (by omega); subst au_25; simp only [ogR, ogRi, ogR1, ogR2, ogT, fu_1, fu_5, fu_9, fu_13, fu_17, fu_21, fu_25, reduceIte, Option.bind_some, Option.bind_none, or_true, true_or, or_self, or_false, false_or, Int.reduceEq, Option.some.injEq, reduceCtorEq]), (fun h => absurd h (by decide))⟩ dX8_row_145
          · refine lv_aload_n hx hb dX8_row_93 rfl (lv_at hl 0 rfl) ?_
            refine lv_bipush (v := iv 26) hx hb dX8_row_94 (by decide) ?_
            refine sBi (sV (As := [.int (iv 26)]) (rest := []) (k := 12) Cx (o_X8_is l G S hA hS hZ (a := au_13) (k := 26) (by omega) (by omega)) (c_X8_82 Cx rfl rfl (rmk_ok (by omega) (by decide))) hW (by decide) rfl rfl rfl hl.1 rfl (Nat.le_of_ble_eq_true rfl) dX8_row_96 ⟨Nat.le_of_ble_eq_true rfl, Nat.le_of_ble_eq_true rfl⟩) hL (fun r_31 u_29 H locs k_30 hW hL => ?_)
            obtain ⟨eu_29, zu_29, pu_29, nu_29⟩ := k_30
            rw [eu_29] at hW
            have wu_29 : au_13 + r_31 ≤ S.1 12 3 - 1 := (by by_cases h9 : r_31 = 1; (have := OZ.ne hZ (pu_29 h9) (by omega) (by omega); omega); omega)
            refine r_if_ne (tgt := 113) hx hb ⟨(by omega), (by omega)⟩ dX8_row_99 (by decide) (fun c_32 => ?_) (fun c_32 => ?_)
            · refine lv_aload_n hx hb dX8_row_113 rfl (lv_at hl 0 rfl) ?_
              refine lv_dup hx hb dX8_row_114 rfl ?_
              refine g_X8_26 Cx hW (k := 12) (by decide) rfl (v := au_13) uF_on dX8_row_115 ?_
              refine lv_iconst (v := iv 1) hx hb dX8_row_118 (by decide) ?_
              refine r_iadd hx hb dX8_row_119 ?_
              refine p_X8_26 Cx hW hL (k := 12) (by decide) rfl dX8_row_120 (fun H locs hW hL => ?_)
              rw [uF_uF] at hW
              refine lv_aload_n hx hb dX8_row_123 rfl (lv_at hl 0 rfl) ?_
              refine lv_iconst (v := iv 0) hx hb dX8_row_124 (by decide) ?_
              refine sBi (sV (As := [.int (iv 0)]) (rest := []) (k := 12) Cx ((osyn_expr l G S hA hS hZ) (au_13 + 1) (by omega)) (c_X8_89 Cx rfl rfl (rmk_ok (by omega) (by decide))) hW (by decide) rfl rfl rfl hl.1 rfl (Nat.le_of_ble_eq_true rfl) dX8_row_125 ⟨Nat.le_of_ble_eq_true rfl, Nat.le_of_ble_eq_true rfl⟩) hL (fun r_35 u_33 H locs k_34 hW hL => ?_)
              obtain ⟨au_33, eu_33, xu_33, yu_33, zu_33, pu_33, nu_33⟩ := k_34
              rw [eu_33] at hW
              refine r_if_eq (tgt := 144) hx hb ⟨(by omega), (by omega)⟩ dX8_row_128 (by decide) (fun c_36 => ?_) (fun c_36 => ?_)
              · refine lv_iconst (v := iv 0) hx hb dX8_row_144 (by decide) ?_
                exact sZret Cx hr hlk hW hL (by omega) ⟨au_33, rfl, by omega, by omega, by omega, (fun h => absurd h (by decide)), (fun _ => by obtain ⟨fu_1, su_1⟩ := pu_1 (by omega); subst au_1; obtain ⟨fu_5, su_5⟩ := nu_5 (by omega); subst au_5; obtain ⟨fu_9, su_9⟩ := pu_9 (by omega); subst au_9; have fu_13 := pu_13 (by omega); have fu_17 := nu_17 (by omega); have fu_29 := pu_29 (by omega); have fu_33 := nu_33 (by omega); simp only [ogR, ogRi, ogR1, ogR2, ogT, fu_1, fu_5, fu_9, fu_13, fu_17, fu_29, fu_33, reduceIte, Option.bind_some, Option.bind_none, or_true, true_or, or_self, or_false, false_or, Int.reduceEq, Option.some.injEq, reduceCtorEq])⟩ dX8_row_145
              · refine lv_aload_n hx hb dX8_row_131 rfl (lv_at hl 0 rfl) ?_
                refine lv_bipush (v := iv 15) hx hb dX8_row_132 (by decide) ?_
                refine sBi (sV (As := [.int (iv 15)]) (rest := []) (k := 12) Cx (o_X8_pass l G S hA hS hZ (a := au_33) (k := 15) (by omega) (by omega)) (c_X8_92 Cx rfl rfl (rmk_ok (by omega) (by decide))) hW (by decide) rfl rfl rfl hl.1 rfl (Nat.le_of_ble_eq_true rfl) dX8_row_134 ⟨Nat.le_of_ble_eq_true rfl, Nat.le_of_ble_eq_true rfl⟩) hL (fun r_39 u_37 H locs k_38 hW hL => ?_)
                obtain ⟨au_37, eu_37, xu_37, yu_37, zu_37, pu_37, nu_37⟩ := k_38
                rw [eu_37] at hW
                refine r_if_eq (tgt := 144) hx hb ⟨(by omega), (by omega)⟩ dX8_row_137 (by decide) (fun c_40 => ?_) (fun c_40 => ?_)
                · refine lv_iconst (v := iv 0) hx hb dX8_row_144 (by decide) ?_
                  exact sZret Cx hr hlk hW hL (by omega) ⟨au_37, rfl, by omega, by omega, by omega, (fun h => absurd h (by decide)), (fun _ => by obtain ⟨fu_1, su_1⟩ := pu_1 (by omega); subst au_1; obtain ⟨fu_5, su_5⟩ := nu_5 (by omega); subst au_5; obtain ⟨fu_9, su_9⟩ := pu_9 (by omega); subst au_9; have fu_13 := pu_13 (by omega); have fu_17 := nu_17 (by omega); have fu_29 := pu_29 (by omega); have fu_33 := pu_33 (by omega); obtain ⟨fu_37, su_37⟩ := nu_37 (by omega); subst au_37; simp only [ogR, ogRi, ogR1, ogR2, ogT, fu_1, fu_5, fu_9, fu_13, fu_17, fu_29, fu_33, fu_37, reduceIte, Option.bind_some, Option.bind_none, or_true, true_or, or_self, or_false, false_or, Int.reduceEq, Option.some.injEq, reduceCtorEq])⟩ dX8_row_145
                · refine lv_iconst (v := iv 1) hx hb dX8_row_140 (by decide) ?_
                  refine lv_goto (tgt := 145) hx hb dX8_row_141 (by decide) ?_
                  exact sZret Cx hr hlk hW hL (by omega) ⟨au_37, rfl, by omega, by omega, by omega, (fun _ => by obtain ⟨fu_1, su_1⟩ := pu_1 (by omega); subst au_1; obtain ⟨fu_5, su_5⟩ := nu_5 (by omega); subst au_5; obtain ⟨fu_9, su_9⟩ := pu_9 (by omega); subst au_9; have fu_13 := pu_13 (by omega); have fu_17 := nu_17 (by omega); have fu_29 := pu_29 (by omega); have fu_33 := pu_33 (by omega); obtain ⟨fu_37, su_37⟩ := pu_37 (by omega); subst au_37; simp only [ogR, ogRi, ogR1, ogR2, ogT, fu_1, fu_5, fu_9, fu_13, fu_17, fu_29, fu_33, fu_37, reduceIte, Option.bind_some, Option.bind_none, or_true, true_or, or_self, or_false, false_or, Int.reduceEq, Option.some.injEq, reduceCtorEq]), (fun h => absurd h (by decide))⟩ dX8_row_145
            · refine lv_aload_n hx hb dX8_row_102 rfl (lv_at hl 0 rfl) ?_
              refine lv_bipush (v := iv 13) hx hb dX8_row_103 (by decide) ?_
              refine sBi (sV (As := [.int (iv 13)]) (rest := []) (k := 12) Cx (o_X8_is l G S hA hS hZ (a := au_13) (k := 13) (by omega) (by omega)) (c_X8_82 Cx rfl rfl (rmk_ok (by omega) (by decide))) hW (by decide) rfl rfl rfl hl.1 rfl (Nat.le_of_ble_eq_true rfl) dX8_row_105 ⟨Nat.le_of_ble_eq_true rfl, Nat.le_of_ble_eq_true rfl⟩) hL (fun r_43 u_41 H locs k_42 hW hL => ?_)
              obtain ⟨eu_41, zu_41, pu_41, nu_41⟩ := k_42
              rw [eu_41] at hW
              have wu_41 : au_13 + r_43 ≤ S.1 12 3 - 1 := (by by_cases h9 : r_43 = 1; (have := OZ.ne hZ (pu_41 h9) (by omega) (by omega); omega); omega)
              refine r_if_ne (tgt := 113) hx hb ⟨(by omega), (by omega)⟩ dX8_row_108 (by decide) (fun c_44 => ?_) (fun c_44 => ?_)
              · refine lv_aload_n hx hb dX8_row_113 rfl (lv_at hl 0 rfl) ?_
                refine lv_dup hx hb dX8_row_114 rfl ?_
                refine g_X8_26 Cx hW (k := 12) (by decide) rfl (v := au_13) uF_on dX8_row_115 ?_
                refine lv_iconst (v := iv 1) hx hb dX8_row_118 (by decide) ?_
                refine r_iadd hx hb dX8_row_119 ?_
                refine p_X8_26 Cx hW hL (k := 12) (by decide) rfl dX8_row_120 (fun H locs hW hL => ?_)
                rw [uF_uF] at hW
                refine lv_aload_n hx hb dX8_row_123 rfl (lv_at hl 0 rfl) ?_
                refine lv_iconst (v := iv 0) hx hb dX8_row_124 (by decide) ?_
                refine sBi (sV (As := [.int (iv 0)]) (rest := []) (k := 12) Cx ((osyn_expr l G S hA hS hZ) (au_13 + 1) (by omega)) (c_X8_89 Cx rfl rfl (rmk_ok (by omega) (by decide))) hW (by decide) rfl rfl rfl hl.1 rfl (Nat.le_of_ble_eq_true rfl) dX8_row_125 ⟨Nat.le_of_ble_eq_true rfl, Nat.le_of_ble_eq_true rfl⟩) hL (fun r_47 u_45 H locs k_46 hW hL => ?_)
                obtain ⟨au_45, eu_45, xu_45, yu_45, zu_45, pu_45, nu_45⟩ := k_46
                rw [eu_45] at hW
                refine r_if_eq (tgt := 144) hx hb ⟨(by omega), (by omega)⟩ dX8_row_128 (by decide) (fun c_48 => ?_) (fun c_48 => ?_)
                · refine lv_iconst (v := iv 0) hx hb dX8_row_144 (by decide) ?_
                  exact sZret Cx hr hlk hW hL (by omega) ⟨au_45, rfl, by omega, by omega, by omega, (fun h => absurd h (by decide)), (fun _ => by obtain ⟨fu_1, su_1⟩ := pu_1 (by omega); subst au_1; obtain ⟨fu_5, su_5⟩ := nu_5 (by omega); subst au_5; obtain ⟨fu_9, su_9⟩ := pu_9 (by omega); subst au_9; have fu_13 := pu_13 (by omega); have fu_17 := nu_17 (by omega); have fu_29 := nu_29 (by omega); have fu_41 := pu_41 (by omega); have fu_45 := nu_45 (by omega); simp only [ogR, ogRi, ogR1, ogR2, ogT, fu_1, fu_5, fu_9, fu_13, fu_17, fu_29, fu_41, fu_45, reduceIte, Option.bind_some, Option.bind_none, or_true, true_or, or_self, or_false, false_or, Int.reduceEq, Option.some.injEq, reduceCtorEq])⟩ dX8_row_145
                · refine lv_aload_n hx hb dX8_row_131 rfl (lv_at hl 0 rfl) ?_
                  refine lv_bipush (v := iv 15) hx hb dX8_row_132 (by decide) ?_
                  refine sBi (sV (As := [.int (iv 15)]) (rest := []) (k := 12) Cx (o_X8_pass l G S hA hS hZ (a := au_45) (k := 15) (by omega) (by omega)) (c_X8_92 Cx rfl rfl (rmk_ok (by omega) (by decide))) hW (by decide) rfl rfl rfl hl.1 rfl (Nat.le_of_ble_eq_true rfl) dX8_row_134 ⟨Nat.le_of_ble_eq_true rfl, Nat.le_of_ble_eq_true rfl⟩) hL (fun r_51 u_49 H locs k_50 hW hL => ?_)
                  obtain ⟨au_49, eu_49, xu_49, yu_49, zu_49, pu_49, nu_49⟩ := k_50
                  rw [eu_49] at hW
                  refine r_if_eq (tgt := 144) hx hb ⟨(by omega), (by omega)⟩ dX8_row_137 (by decide) (fun c_52 => ?_) (fun c_52 => ?_)
                  · refine lv_iconst (v := iv 0) hx hb dX8_row_144 (by decide) ?_
                    exact sZret Cx hr hlk hW hL (by omega) ⟨au_49, rfl, by omega, by omega, by omega, (fun h => absurd h (by decide)), (fun _ => by obtain ⟨fu_1, su_1⟩ := pu_1 (by omega); subst au_1; obtain ⟨fu_5, su_5⟩ := nu_5 (by omega); subst au_5; obtain ⟨fu_9, su_9⟩ := pu_9 (by omega); subst au_9; have fu_13 := pu_13 (by omega); have fu_17 := nu_17 (by omega); have fu_29 := nu_29 (by omega); have fu_41 := pu_41 (by omega); have fu_45 := pu_45 (by omega); obtain ⟨fu_49, su_49⟩ := nu_49 (by omega); subst au_49; simp only [ogR, ogRi, ogR1, ogR2, ogT, fu_1, fu_5, fu_9, fu_13, fu_17, fu_29, fu_41, fu_45, fu_49, reduceIte, Option.bind_some, Option.bind_none, or_true, true_or, or_self, or_false, false_or, Int.reduceEq, Option.some.injEq, reduceCtorEq])⟩ dX8_row_145
                  · refine lv_iconst (v := iv 1) hx hb dX8_row_140 (by decide) ?_
                    refine lv_goto (tgt := 145) hx hb dX8_row_141 (by decide) ?_
                    exact sZret Cx hr hlk hW hL (by omega) ⟨au_49, rfl, by omega, by omega, by omega, (fun _ => by obtain ⟨fu_1, su_1⟩ := pu_1 (by omega); subst au_1; obtain ⟨fu_5, su_5⟩ := nu_5 (by omega); subst au_5; obtain ⟨fu_9, su_9⟩ := pu_9 (by omega); subst au_9; have fu_13 := pu_13 (by omega); have fu_17 := nu_17 (by omega); have fu_29 := nu_29 (by omega); have fu_41 := pu_41 (by omega); have fu_45 := pu_45 (by omega); obtain ⟨fu_49, su_49⟩ := pu_49 (by omega); subst au_49; simp only [ogR, ogRi, ogR1, ogR2, ogT, fu_1, fu_5, fu_9, fu_13, fu_17, fu_29, fu_41, fu_45, fu_49, reduceIte, Option.bind_some, Option.bind_none, or_true, true_or, or_self, or_false, false_or, Int.reduceEq, Option.some.injEq, reduceCtorEq]), (fun h => absurd h (by decide))⟩ dX8_row_145
              · refine lv_iconst (v := iv 0) hx hb dX8_row_111 (by decide) ?_
                exact sZret Cx hr hlk hW hL (by omega) ⟨au_13, rfl, by omega, by omega, by omega, (fun h => absurd h (by decide)), (fun _ => by obtain ⟨fu_1, su_1⟩ := pu_1 (by omega); subst au_1; obtain ⟨fu_5, su_5⟩ := nu_5 (by omega); subst au_5; obtain ⟨fu_9, su_9⟩ := pu_9 (by omega); subst au_9; have fu_13 := pu_13 (by omega); have fu_17 := nu_17 (by omega); have fu_29 := nu_29 (by omega); have fu_41 := nu_41 (by omega); simp only [ogR, ogRi, ogR1, ogR2, ogT, fu_1, fu_5, fu_9, fu_13, fu_17, fu_29, fu_41, reduceIte, Option.bind_some, Option.bind_none, or_true, true_or, or_self, or_false, false_or, Int.reduceEq, Option.some.injEq, reduceCtorEq])⟩ dX8_row_112
        · refine lv_iconst (v := iv 0) hx hb dX8_row_82 (by decide) ?_
          exact sZret Cx hr hlk hW hL (by omega) ⟨au_13, rfl, by omega, by omega, by omega, (fun h => absurd h (by decide)), (fun _ => by obtain ⟨fu_1, su_1⟩ := pu_1 (by omega); subst au_1; obtain ⟨fu_5, su_5⟩ := nu_5 (by omega); subst au_5; obtain ⟨fu_9, su_9⟩ := pu_9 (by omega); subst au_9; have fu_13 := nu_13 (by omega); simp only [ogR, ogRi, ogR1, ogR2, ogT, fu_1, fu_5, fu_9, fu_13, reduceIte, Option.bind_some, Option.bind_none, or_true, true_or, or_self, or_false, false_or, Int.reduceEq, Option.some.injEq, reduceCtorEq])⟩ dX8_row_83
    · refine lv_aload_n hx hb dX8_row_29 rfl (lv_at hl 0 rfl) ?_
      refine lv_iconst (v := iv 2) hx hb dX8_row_30 (by decide) ?_
      refine sBi (sV (As := [.int (iv 2)]) (rest := []) (k := 12) Cx (o_X8_pass l G S hA hS hZ (a := au_5) (k := 2) (by omega) (by omega)) (c_X8_92 Cx rfl rfl (rmk_ok (by omega) (by decide))) hW (by decide) rfl rfl rfl hl.1 rfl (Nat.le_of_ble_eq_true rfl) dX8_row_31 ⟨Nat.le_of_ble_eq_true rfl, Nat.le_of_ble_eq_true rfl⟩) hL (fun r_55 u_53 H locs k_54 hW hL => ?_)
      obtain ⟨au_53, eu_53, xu_53, yu_53, zu_53, pu_53, nu_53⟩ := k_54
      rw [eu_53] at hW
      refine r_if_eq (tgt := 63) hx hb ⟨(by omega), (by omega)⟩ dX8_row_34 (by decide) (fun c_56 => ?_) (fun c_56 => ?_)
      · refine lv_iconst (v := iv 0) hx hb dX8_row_63 (by decide) ?_
        exact sZret Cx hr hlk hW hL (by omega) ⟨au_53, rfl, by omega, by omega, by omega, (fun h => absurd h (by decide)), (fun _ => by obtain ⟨fu_1, su_1⟩ := pu_1 (by omega); subst au_1; obtain ⟨fu_5, su_5⟩ := pu_5 (by omega); subst au_5; obtain ⟨fu_53, su_53⟩ := nu_53 (by omega); subst au_53; simp only [ogR, ogRi, ogR1, ogR2, ogT, fu_1, fu_5, fu_53, reduceIte, Option.bind_some, Option.bind_none, or_true, true_or, or_self, or_false, false_or, Int.reduceEq, Option.some.injEq, reduceCtorEq])⟩ dX8_row_64
      · refine lv_aload_n hx hb dX8_row_37 rfl (lv_at hl 0 rfl) ?_
        refine lv_bipush (v := iv 12) hx hb dX8_row_38 (by decide) ?_
        refine sBi (sV (As := [.int (iv 12)]) (rest := []) (k := 12) Cx (o_X8_pass l G S hA hS hZ (a := au_53) (k := 12) (by omega) (by omega)) (c_X8_92 Cx rfl rfl (rmk_ok (by omega) (by decide))) hW (by decide) rfl rfl rfl hl.1 rfl (Nat.le_of_ble_eq_true rfl) dX8_row_40 ⟨Nat.le_of_ble_eq_true rfl, Nat.le_of_ble_eq_true rfl⟩) hL (fun r_59 u_57 H locs k_58 hW hL => ?_)
        obtain ⟨au_57, eu_57, xu_57, yu_57, zu_57, pu_57, nu_57⟩ := k_58
        rw [eu_57] at hW
        refine r_if_eq (tgt := 63) hx hb ⟨(by omega), (by omega)⟩ dX8_row_43 (by decide) (fun c_60 => ?_) (fun c_60 => ?_)
        · refine lv_iconst (v := iv 0) hx hb dX8_row_63 (by decide) ?_
          exact sZret Cx hr hlk hW hL (by omega) ⟨au_57, rfl, by omega, by omega, by omega, (fun h => absurd h (by decide)), (fun _ => by obtain ⟨fu_1, su_1⟩ := pu_1 (by omega); subst au_1; obtain ⟨fu_5, su_5⟩ := pu_5 (by omega); subst au_5; obtain ⟨fu_53, su_53⟩ := pu_53 (by omega); subst au_53; obtain ⟨fu_57, su_57⟩ := nu_57 (by omega); subst au_57; simp only [ogR, ogRi, ogR1, ogR2, ogT, fu_1, fu_5, fu_53, fu_57, reduceIte, Option.bind_some, Option.bind_none, or_true, true_or, or_self, or_false, false_or, Int.reduceEq, Option.some.injEq, reduceCtorEq])⟩ dX8_row_64
        · refine lv_aload_n hx hb dX8_row_46 rfl (lv_at hl 0 rfl) ?_
          refine lv_iconst (v := iv 2) hx hb dX8_row_47 (by decide) ?_
          refine sBi (sV (As := [.int (iv 2)]) (rest := []) (k := 12) Cx (o_X8_pass l G S hA hS hZ (a := au_57) (k := 2) (by omega) (by omega)) (c_X8_92 Cx rfl rfl (rmk_ok (by omega) (by decide))) hW (by decide) rfl rfl rfl hl.1 rfl (Nat.le_of_ble_eq_true rfl) dX8_row_48 ⟨Nat.le_of_ble_eq_true rfl, Nat.le_of_ble_eq_true rfl⟩) hL (fun r_63 u_61 H locs k_62 hW hL => ?_)
          obtain ⟨au_61, eu_61, xu_61, yu_61, zu_61, pu_61, nu_61⟩ := k_62
          rw [eu_61] at hW
          refine r_if_eq (tgt := 63) hx hb ⟨(by omega), (by omega)⟩ dX8_row_51 (by decide) (fun c_64 => ?_) (fun c_64 => ?_)
          · refine lv_iconst (v := iv 0) hx hb dX8_row_63 (by decide) ?_
            exact sZret Cx hr hlk hW hL (by omega) ⟨au_61, rfl, by omega, by omega, by omega, (fun h => absurd h (by decide)), (fun _ => by obtain ⟨fu_1, su_1⟩ := pu_1 (by omega); subst au_1; obtain ⟨fu_5, su_5⟩ := pu_5 (by omega); subst au_5; obtain ⟨fu_53, su_53⟩ := pu_53 (by omega); subst au_53; obtain ⟨fu_57, su_57⟩ := pu_57 (by omega); subst au_57; obtain ⟨fu_61, su_61⟩ := nu_61 (by omega); subst au_61; simp only [ogR, ogRi, ogR1, ogR2, ogT, fu_1, fu_5, fu_53, fu_57, fu_61, reduceIte, Option.bind_some, Option.bind_none, or_true, true_or, or_self, or_false, false_or, Int.reduceEq, Option.some.injEq, reduceCtorEq])⟩ dX8_row_64
          · refine lv_aload_n hx hb dX8_row_54 rfl (lv_at hl 0 rfl) ?_
            refine lv_bipush (v := iv 18) hx hb dX8_row_55 (by decide) ?_
            refine sBi (sV (As := [.int (iv 18)]) (rest := []) (k := 12) Cx (o_X8_pass l G S hA hS hZ (a := au_61) (k := 18) (by omega) (by omega)) (c_X8_92 Cx rfl rfl (rmk_ok (by omega) (by decide))) hW (by decide) rfl rfl rfl hl.1 rfl (Nat.le_of_ble_eq_true rfl) dX8_row_57 ⟨Nat.le_of_ble_eq_true rfl, Nat.le_of_ble_eq_true rfl⟩) hL (fun r_67 u_65 H locs k_66 hW hL => ?_)
            obtain ⟨au_65, eu_65, xu_65, yu_65, zu_65, pu_65, nu_65⟩ := k_66
            rw [eu_65] at hW
            refine r_if_ne (tgt := 65) hx hb ⟨(by omega), (by omega)⟩ dX8_row_60 (by decide) (fun c_68 => ?_) (fun c_68 => ?_)
            · refine lv_aload_n hx hb dX8_row_65 rfl (lv_at hl 0 rfl) ?_
              refine lv_bipush (v := iv 24) hx hb dX8_row_66 (by decide) ?_
              refine sBi (sV (As := [.int (iv 24)]) (rest := []) (k := 12) Cx (o_X8_pass l G S hA hS hZ (a := au_65) (k := 24) (by omega) (by omega)) (c_X8_92 Cx rfl rfl (rmk_ok (by omega) (by decide))) hW (by decide) rfl rfl rfl hl.1 rfl (Nat.le_of_ble_eq_true rfl) dX8_row_68 ⟨Nat.le_of_ble_eq_true rfl, Nat.le_of_ble_eq_true rfl⟩) hL (fun r_71 u_69 H locs k_70 hW hL => ?_)
              obtain ⟨au_69, eu_69, xu_69, yu_69, zu_69, pu_69, nu_69⟩ := k_70
              rw [eu_69] at hW
              refine r_if_eq (tgt := 82) hx hb ⟨(by omega), (by omega)⟩ dX8_row_71 (by decide) (fun c_72 => ?_) (fun c_72 => ?_)
              · refine lv_iconst (v := iv 0) hx hb dX8_row_82 (by decide) ?_
                exact sZret Cx hr hlk hW hL (by omega) ⟨au_69, rfl, by omega, by omega, by omega, (fun h => absurd h (by decide)), (fun _ => by obtain ⟨fu_1, su_1⟩ := pu_1 (by omega); subst au_1; obtain ⟨fu_5, su_5⟩ := pu_5 (by omega); subst au_5; obtain ⟨fu_53, su_53⟩ := pu_53 (by omega); subst au_53; obtain ⟨fu_57, su_57⟩ := pu_57 (by omega); subst au_57; obtain ⟨fu_61, su_61⟩ := pu_61 (by omega); subst au_61; obtain ⟨fu_65, su_65⟩ := pu_65 (by omega); subst au_65; obtain ⟨fu_69, su_69⟩ := nu_69 (by omega); subst au_69; simp only [ogR, ogRi, ogR1, ogR2, ogT, fu_1, fu_5, fu_53, fu_57, fu_61, fu_65, fu_69, reduceIte, Option.bind_some, Option.bind_none, or_true, true_or, or_self, or_false, false_or, Int.reduceEq, Option.some.injEq, reduceCtorEq])⟩ dX8_row_83
              · refine lv_aload_n hx hb dX8_row_74 rfl (lv_at hl 0 rfl) ?_
                refine lv_iconst (v := iv 0) hx hb dX8_row_75 (by decide) ?_
                refine sBi (sV (As := [.int (iv 0)]) (rest := []) (k := 12) Cx ((osyn_expr l G S hA hS hZ) au_69 (by omega)) (c_X8_89 Cx rfl rfl (rmk_ok (by omega) (by decide))) hW (by decide) rfl rfl rfl hl.1 rfl (Nat.le_of_ble_eq_true rfl) dX8_row_76 ⟨Nat.le_of_ble_eq_true rfl, Nat.le_of_ble_eq_true rfl⟩) hL (fun r_75 u_73 H locs k_74 hW hL => ?_)
                obtain ⟨au_73, eu_73, xu_73, yu_73, zu_73, pu_73, nu_73⟩ := k_74
                rw [eu_73] at hW
                refine r_if_ne (tgt := 84) hx hb ⟨(by omega), (by omega)⟩ dX8_row_79 (by decide) (fun c_76 => ?_) (fun c_76 => ?_)
                · refine lv_aload_n hx hb dX8_row_84 rfl (lv_at hl 0 rfl) ?_
                  refine lv_bipush (v := iv 25) hx hb dX8_row_85 (by decide) ?_
                  refine sBi (sV (As := [.int (iv 25)]) (rest := []) (k := 12) Cx (o_X8_is l G S hA hS hZ (a := au_73) (k := 25) (by omega) (by omega)) (c_X8_82 Cx rfl rfl (rmk_ok (by omega) (by decide))) hW (by decide) rfl rfl rfl hl.1 rfl (Nat.le_of_ble_eq_true rfl) dX8_row_87 ⟨Nat.le_of_ble_eq_true rfl, Nat.le_of_ble_eq_true rfl⟩) hL (fun r_79 u_77 H locs k_78 hW hL => ?_)
                  obtain ⟨eu_77, zu_77, pu_77, nu_77⟩ := k_78
                  rw [eu_77] at hW
                  have wu_77 : au_73 + r_79 ≤ S.1 12 3 - 1 := (by by_cases h9 : r_79 = 1; (have := OZ.ne hZ (pu_77 h9) (by omega) (by omega); omega); omega)
                  refine r_if_ne (tgt := 113) hx hb ⟨(by omega), (by omega)⟩ dX8_row_90 (by decide) (fun c_80 => ?_) (fun c_80 => ?_)
                  · refine lv_aload_n hx hb dX8_row_113 rfl (lv_at hl 0 rfl) ?_
                    refine lv_dup hx hb dX8_row_114 rfl ?_
                    refine g_X8_26 Cx hW (k := 12) (by decide) rfl (v := au_73) uF_on dX8_row_115 ?_
                    refine lv_iconst (v := iv 1) hx hb dX8_row_118 (by decide) ?_
                    refine r_iadd hx hb dX8_row_119 ?_
                    refine p_X8_26 Cx hW hL (k := 12) (by decide) rfl dX8_row_120 (fun H locs hW hL => ?_)
                    rw [uF_uF] at hW
                    refine lv_aload_n hx hb dX8_row_123 rfl (lv_at hl 0 rfl) ?_
                    refine lv_iconst (v := iv 0) hx hb dX8_row_124 (by decide) ?_
                    refine sBi (sV (As := [.int (iv 0)]) (rest := []) (k := 12) Cx ((osyn_expr l G S hA hS hZ) (au_73 + 1) (by omega)) (c_X8_89 Cx rfl rfl (rmk_ok (by omega) (by decide))) hW (by decide) rfl rfl rfl hl.1 rfl (Nat.le_of_ble_eq_true rfl) dX8_row_125 ⟨Nat.le_of_ble_eq_true rfl, Nat.le_of_ble_eq_true rfl⟩) hL (fun r_83 u_81 H locs k_82 hW hL => ?_)
                    obtain ⟨au_81, eu_81, xu_81, yu_81, zu_81, pu_81, nu_81⟩ := k_82
                    rw [eu_81] at hW
                    refine r_if_eq (tgt := 144) hx hb ⟨(by omega), (by omega)⟩ dX8_row_128 (by decide) (fun c_84 => ?_) (fun c_84 => ?_)
                    · refine lv_iconst (v := iv 0) hx hb dX8_row_144 (by decide) ?_
                      exact sZret Cx hr hlk hW hL (by omega) ⟨au_81, rfl, by omega, by omega, by omega, (fun h => absurd h (by decide)), (fun _ => by obtain ⟨fu_1, su_1⟩ := pu_1 (by omega); subst au_1; obtain ⟨fu_5, su_5⟩ := pu_5 (by omega); subst au_5; obtain ⟨fu_53, su_53⟩ := pu_53 (by omega); subst au_53; obtain ⟨fu_57, su_57⟩ := pu_57 (by omega); subst au_57; obtain ⟨fu_61, su_61⟩ := pu_61 (by omega); subst au_61; obtain ⟨fu_65, su_65⟩ := pu_65 (by omega); subst au_65; obtain ⟨fu_69, su_69⟩ := pu_69 (by omega); subst au_69; have fu_73 := pu_73 (by omega); have fu_77 := pu_77 (by omega); have fu_81 := nu_81 (by omega); simp only [ogR, ogRi, ogR1, ogR2, ogT, fu_1, fu_5, fu_53, fu_57, fu_61, fu_65, fu_69, fu_73, fu_77, fu_81, reduceIte, Option.bind_some, Option.bind_none, or_true, true_or, or_self, or_false, false_or, Int.reduceEq, Option.some.injEq, reduceCtorEq])⟩ dX8_row_145
                    · refine lv_aload_n hx hb dX8_row_131 rfl (lv_at hl 0 rfl) ?_
                      refine lv_bipush (v := iv 15) hx hb dX8_row_132 (by decide) ?_
                      refine sBi (sV (As := [.int (iv 15)]) (rest := []) (k := 12) Cx (o_X8_pass l G S hA hS hZ (a := au_81) (k := 15) (by omega) (by omega)) (c_X8_92 Cx rfl rfl (rmk_ok (by omega) (by decide))) hW (by decide) rfl rfl rfl hl.1 rfl (Nat.le_of_ble_eq_true rfl) dX8_row_134 ⟨Nat.le_of_ble_eq_true rfl, Nat.le_of_ble_eq_true rfl⟩) hL (fun r_87 u_85 H locs k_86 hW hL => ?_)
                      obtain ⟨au_85, eu_85, xu_85, yu_85, zu_85, pu_85, nu_85⟩ := k_86
                      rw [eu_85] at hW
                      refine r_if_eq (tgt := 144) hx hb ⟨(by omega), (by omega)⟩ dX8_row_137 (by decide) (fun c_88 => ?_) (fun c_88 => ?_)
                      · refine lv_iconst (v := iv 0) hx hb dX8_row_144 (by decide) ?_
                        exact sZret Cx hr hlk hW hL (by omega) ⟨au_85, rfl, by omega, by omega, by omega, (fun h => absurd h (by decide)), (fun _ => by obtain ⟨fu_1, su_1⟩ := pu_1 (by omega); subst au_1; obtain ⟨fu_5, su_5⟩ := pu_5 (by omega); subst au_5; obtain ⟨fu_53, su_53⟩ := pu_53 (by omega); subst au_53; obtain ⟨fu_57, su_57⟩ := pu_57 (by omega); subst au_57; obtain ⟨fu_61, su_61⟩ := pu_61 (by omega); subst au_61; obtain ⟨fu_65, su_65⟩ := pu_65 (by omega); subst au_65; obtain ⟨fu_69, su_69⟩ := pu_69 (by omega); subst au_69; have fu_73 := pu_73 (by omega); have fu_77 := pu_77 (by omega); have fu_81 := pu_81 (by omega); obtain ⟨fu_85, su_85⟩ := nu_85 (by omega); subst au_85; simp only [ogR, ogRi, ogR1, ogR2, ogT, fu_1, fu_5, fu_53, fu_57, fu_61, fu_65, fu_69, fu_73, fu_77, fu_81, fu_85, reduceIte, Option.bind_some, Option.bind_none, or_true, true_or, or_self, or_false, false_or, Int.reduceEq, Option.some.injEq, reduceCtorEq])⟩ dX8_row_145
                      · refine lv_iconst (v := iv 1) hx hb dX8_row_140 (by decide) ?_
                        refine lv_goto (tgt := 145) hx hb dX8_row_141 (by decide) ?_
                        exact sZret Cx hr hlk hW hL (by omega) ⟨au_85, rfl, by omega, by omega, by omega, (fun _ => by obtain ⟨fu_1, su_1⟩ := pu_1 (by omega); subst au_1; obtain ⟨fu_5, su_5⟩ := pu_5 (by omega); subst au_5; obtain ⟨fu_53, su_53⟩ := pu_53 (by omega); subst au_53; obtain ⟨fu_57, su_57⟩ := pu_57 (by omega); subst au_57; obtain ⟨fu_61, su_61⟩ := pu_61 (by omega); subst au_61; obtain ⟨fu_65, su_65⟩ := pu_65 (by omega); subst au_65; obtain ⟨fu_69, su_69⟩ := pu_69 (by omega); subst au_69; have fu_73 := pu_73 (by omega); have fu_77 := pu_77 (by omega); have fu_81 := pu_81 (by omega); obtain ⟨fu_85, su_85⟩ := pu_85 (by omega); subst au_85; simp only [ogR, ogRi, ogR1, ogR2, ogT, fu_1, fu_5, fu_53, fu_57, fu_61, fu_65, fu_69, fu_73, fu_77, fu_81, fu_85, reduceIte, Option.bind_some, Option.bind_none, or_true, true_or, or_self, or_false, false_or, Int.reduceEq, Option.some.injEq, reduceCtorEq]), (fun h => absurd h (by decide))⟩ dX8_row_145
                  · refine lv_aload_n hx hb dX8_row_93 rfl (lv_at hl 0 rfl) ?_
                    refine lv_bipush (v := iv 26) hx hb dX8_row_94 (by decide) ?_
                    refine sBi (sV (As := [.int (iv 26)]) (rest := []) (k := 12) Cx (o_X8_is l G S hA hS hZ (a := au_73) (k := 26) (by omega) (by omega)) (c_X8_82 Cx rfl rfl (rmk_ok (by omega) (by decide))) hW (by decide) rfl rfl rfl hl.1 rfl (Nat.le_of_ble_eq_true rfl) dX8_row_96 ⟨Nat.le_of_ble_eq_true rfl, Nat.le_of_ble_eq_true rfl⟩) hL (fun r_91 u_89 H locs k_90 hW hL => ?_)
                    obtain ⟨eu_89, zu_89, pu_89, nu_89⟩ := k_90
                    rw [eu_89] at hW
                    have wu_89 : au_73 + r_91 ≤ S.1 12 3 - 1 := (by by_cases h9 : r_91 = 1; (have := OZ.ne hZ (pu_89 h9) (by omega) (by omega); omega); omega)
                    refine r_if_ne (tgt := 113) hx hb ⟨(by omega), (by omega)⟩ dX8_row_99 (by decide) (fun c_92 => ?_) (fun c_92 => ?_)
                    · refine lv_aload_n hx hb dX8_row_113 rfl (lv_at hl 0 rfl) ?_
                      refine lv_dup hx hb dX8_row_114 rfl ?_
                      refine g_X8_26 Cx hW (k := 12) (by decide) rfl (v := au_73) uF_on dX8_row_115 ?_
                      refine lv_iconst (v := iv 1) hx hb dX8_row_118 (by decide) ?_
                      refine r_iadd hx hb dX8_row_119 ?_
                      refine p_X8_26 Cx hW hL (k := 12) (by decide) rfl dX8_row_120 (fun H locs hW hL => ?_)
                      rw [uF_uF] at hW
                      refine lv_aload_n hx hb dX8_row_123 rfl (lv_at hl 0 rfl) ?_
                      refine lv_iconst (v := iv 0) hx hb dX8_row_124 (by decide) ?_
                      refine sBi (sV (As := [.int (iv 0)]) (rest := []) (k := 12) Cx ((osyn_expr l G S hA hS hZ) (au_73 + 1) (by omega)) (c_X8_89 Cx rfl rfl (rmk_ok (by omega) (by decide))) hW (by decide) rfl rfl rfl hl.1 rfl (Nat.le_of_ble_eq_true rfl) dX8_row_125 ⟨Nat.le_of_ble_eq_true rfl, Nat.le_of_ble_eq_true rfl⟩) hL (fun r_95 u_93 H locs k_94 hW hL => ?_)
                      obtain ⟨au_93, eu_93, xu_93, yu_93, zu_93, pu_93, nu_93⟩ := k_94
                      rw [eu_93] at hW
                      refine r_if_eq (tgt := 144) hx hb ⟨(by omega), (by omega)⟩ dX8_row_128 (by decide) (fun c_96 => ?_) (fun c_96 => ?_)
                      · refine lv_iconst (v := iv 0) hx hb dX8_row_144 (by decide) ?_
                        exact sZret Cx hr hlk hW hL (by omega) ⟨au_93, rfl, by omega, by omega, by omega, (fun h => absurd h (by decide)), (fun _ => by obtain ⟨fu_1, su_1⟩ := pu_1 (by omega); subst au_1; obtain ⟨fu_5, su_5⟩ := pu_5 (by omega); subst au_5; obtain ⟨fu_53, su_53⟩ := pu_53 (by omega); subst au_53; obtain ⟨fu_57, su_57⟩ := pu_57 (by omega); subst au_57; obtain ⟨fu_61, su_61⟩ := pu_61 (by omega); subst au_61; obtain ⟨fu_65, su_65⟩ := pu_65 (by omega); subst au_65; obtain ⟨fu_69, su_69⟩ := pu_69 (by omega); subst au_69; have fu_73 := pu_73 (by omega); have fu_77 := nu_77 (by omega); have fu_89 := pu_89 (by omega); have fu_93 := nu_93 (by omega); simp only [ogR, ogRi, ogR1, ogR2, ogT, fu_1, fu_5, fu_53, fu_57, fu_61, fu_65, fu_69, fu_73, fu_77, fu_89, fu_93, reduceIte, Option.bind_some, Option.bind_none, or_true, true_or, or_self, or_false, false_or, Int.reduceEq, Option.some.injEq, reduceCtorEq])⟩ dX8_row_145
                      · refine lv_aload_n hx hb dX8_row_131 rfl (lv_at hl 0 rfl) ?_
                        refine lv_bipush (v := iv 15) hx hb dX8_row_132 (by decide) ?_
                        refine sBi (sV (As := [.int (iv 15)]) (rest := []) (k := 12) Cx (o_X8_pass l G S hA hS hZ (a := au_93) (k := 15) (by omega) (by omega)) (c_X8_92 Cx rfl rfl (rmk_ok (by omega) (by decide))) hW (by decide) rfl rfl rfl hl.1 rfl (Nat.le_of_ble_eq_true rfl) dX8_row_134 ⟨Nat.le_of_ble_eq_true rfl, Nat.le_of_ble_eq_true rfl⟩) hL (fun r_99 u_97 H locs k_98 hW hL => ?_)
                        obtain ⟨au_97, eu_97, xu_97, yu_97, zu_97, pu_97, nu_97⟩ := k_98
                        rw [eu_97] at hW
                        refine r_if_eq (tgt := 144) hx hb ⟨(by omega), (by omega)⟩ dX8_row_137 (by decide) (fun c_100 => ?_) (fun c_100 => ?_)
                        · refine lv_iconst (v := iv 0) hx hb dX8_row_144 (by decide) ?_
                          exact sZret Cx hr hlk hW hL (by omega) ⟨au_97, rfl, by omega, by omega, by omega, (fun h => absurd h (by decide)), (fun _ => by obtain ⟨fu_1, su_1⟩ := pu_1 (by omega); subst au_1; obtain ⟨fu_5, su_5⟩ := pu_5 (by omega); subst au_5; obtain ⟨fu_53, su_53⟩ := pu_53 (by omega); subst au_53; obtain ⟨fu_57, su_57⟩ := pu_57 (by omega); subst au_57; obtain ⟨fu_61, su_61⟩ := pu_61 (by omega); subst au_61; obtain ⟨fu_65, su_65⟩ := pu_65 (by omega); subst au_65; obtain ⟨fu_69, su_69⟩ := pu_69 (by omega); subst au_69; have fu_73 := pu_73 (by omega); have fu_77 := nu_77 (by omega); have fu_89 := pu_89 (by omega); have fu_93 := pu_93 (by omega); obtain ⟨fu_97, su_97⟩ := nu_97 (by omega); subst au_97; simp only [ogR, ogRi, ogR1, ogR2, ogT, fu_1, fu_5, fu_53, fu_57, fu_61, fu_65, fu_69, fu_73, fu_77, fu_89, fu_93, fu_97, reduceIte, Option.bind_some, Option.bind_none, or_true, true_or, or_self, or_false, false_or, Int.reduceEq, Option.some.injEq, reduceCtorEq])⟩ dX8_row_145
                        · refine lv_iconst (v := iv 1) hx hb dX8_row_140 (by decide) ?_
                          refine lv_goto (tgt := 145) hx hb dX8_row_141 (by decide) ?_
                          exact sZret Cx hr hlk hW hL (by omega) ⟨au_97, rfl, by omega, by omega, by omega, (fun _ => by obtain ⟨fu_1, su_1⟩ := pu_1 (by omega); subst au_1; obtain ⟨fu_5, su_5⟩ := pu_5 (by omega); subst au_5; obtain ⟨fu_53, su_53⟩ := pu_53 (by omega); subst au_53; obtain ⟨fu_57, su_57⟩ := pu_57 (by omega); subst au_57; obtain ⟨fu_61, su_61⟩ := pu_61 (by omega); subst au_61; obtain ⟨fu_65, su_65⟩ := pu_65 (by omega); subst au_65; obtain ⟨fu_69, su_69⟩ := pu_69 (by omega); subst au_69; have fu_73 := pu_73 (by omega); have fu_77 := nu_77 (by omega); have fu_89 := pu_89 (by omega); have fu_93 := pu_93 (by omega); obtain ⟨fu_97, su_97⟩ := pu_97 (by omega); subst au_97; simp only [ogR, ogRi, ogR1, ogR2, ogT, fu_1, fu_5, fu_53, fu_57, fu_61, fu_65, fu_69, fu_73, fu_77, fu_89, fu_93, fu_97, reduceIte, Option.bind_some, Option.bind_none, or_true, true_or, or_self, or_false, false_or, Int.reduceEq, Option.some.injEq, reduceCtorEq]), (fun h => absurd h (by decide))⟩ dX8_row_145
                    · refine lv_aload_n hx hb dX8_row_102 rfl (lv_at hl 0 rfl) ?_
                      refine lv_bipush (v := iv 13) hx hb dX8_row_103 (by decide) ?_
                      refine sBi (sV (As := [.int (iv 13)]) (rest := []) (k := 12) Cx (o_X8_is l G S hA hS hZ (a := au_73) (k := 13) (by omega) (by omega)) (c_X8_82 Cx rfl rfl (rmk_ok (by omega) (by decide))) hW (by decide) rfl rfl rfl hl.1 rfl (Nat.le_of_ble_eq_true rfl) dX8_row_105 ⟨Nat.le_of_ble_eq_true rfl, Nat.le_of_ble_eq_true rfl⟩) hL (fun r_103 u_101 H locs k_102 hW hL => ?_)
                      obtain ⟨eu_101, zu_101, pu_101, nu_101⟩ := k_102
                      rw [eu_101] at hW
                      have wu_101 : au_73 + r_103 ≤ S.1 12 3 - 1 := (by by_cases h9 : r_103 = 1; (have := OZ.ne hZ (pu_101 h9) (by omega) (by omega); omega); omega)
                      refine r_if_ne (tgt := 113) hx hb ⟨(by omega), (by omega)⟩ dX8_row_108 (by decide) (fun c_104 => ?_) (fun c_104 => ?_)
                      · refine lv_aload_n hx hb dX8_row_113 rfl (lv_at hl 0 rfl) ?_
                        refine lv_dup hx hb dX8_row_114 rfl ?_
                        refine g_X8_26 Cx hW (k := 12) (by decide) rfl (v := au_73) uF_on dX8_row_115 ?_
                        refine lv_iconst (v := iv 1) hx hb dX8_row_118 (by decide) ?_
                        refine r_iadd hx hb dX8_row_119 ?_
                        refine p_X8_26 Cx hW hL (k := 12) (by decide) rfl dX8_row_120 (fun H locs hW hL => ?_)
                        rw [uF_uF] at hW
                        refine lv_aload_n hx hb dX8_row_123 rfl (lv_at hl 0 rfl) ?_
                        refine lv_iconst (v := iv 0) hx hb dX8_row_124 (by decide) ?_
                        refine sBi (sV (As := [.int (iv 0)]) (rest := []) (k := 12) Cx ((osyn_expr l G S hA hS hZ) (au_73 + 1) (by omega)) (c_X8_89 Cx rfl rfl (rmk_ok (by omega) (by decide))) hW (by decide) rfl rfl rfl hl.1 rfl (Nat.le_of_ble_eq_true rfl) dX8_row_125 ⟨Nat.le_of_ble_eq_true rfl, Nat.le_of_ble_eq_true rfl⟩) hL (fun r_107 u_105 H locs k_106 hW hL => ?_)
                        obtain ⟨au_105, eu_105, xu_105, yu_105, zu_105, pu_105, nu_105⟩ := k_106
                        rw [eu_105] at hW
                        refine r_if_eq (tgt := 144) hx hb ⟨(by omega), (by omega)⟩ dX8_row_128 (by decide) (fun c_108 => ?_) (fun c_108 => ?_)
                        · refine lv_iconst (v := iv 0) hx hb dX8_row_144 (by decide) ?_
                          exact sZret Cx hr hlk hW hL (by omega) ⟨au_105, rfl, by omega, by omega, by omega, (fun h => absurd h (by decide)), (fun _ => by obtain ⟨fu_1, su_1⟩ := pu_1 (by omega); subst au_1; obtain ⟨fu_5, su_5⟩ := pu_5 (by omega); subst au_5; obtain ⟨fu_53, su_53⟩ := pu_53 (by omega); subst au_53; obtain ⟨fu_57, su_57⟩ := pu_57 (by omega); subst au_57; obtain ⟨fu_61, su_61⟩ := pu_61 (by omega); subst au_61; obtain ⟨fu_65, su_65⟩ := pu_65 (by omega); subst au_65; obtain ⟨fu_69, su_69⟩ := pu_69 (by omega); subst au_69; have fu_73 := pu_73 (by omega); have fu_77 := nu_77 (by omega); have fu_89 := nu_89 (by omega); have fu_101 := pu_101 (by omega); have fu_105 := nu_105 (by omega); simp only [ogR, ogRi, ogR1, ogR2, ogT, fu_1, fu_5, fu_53, fu_57, fu_61, fu_65, fu_69, fu_73, fu_77, fu_89, fu_101, fu_105, reduceIte, Option.bind_some, Option.bind_none, or_true, true_or, or_self, or_false, false_or, Int.reduceEq, Option.some.injEq, reduceCtorEq])⟩ dX8_row_145
                        · refine lv_aload_n hx hb dX8_row_131 rfl (lv_at hl 0 rfl) ?_
                          refine lv_bipush (v := iv 15) hx hb dX8_row_132 (by decide) ?_
                          refine sBi (sV (As := [.int (iv 15)]) (rest := []) (k := 12) Cx (o_X8_pass l G S hA hS hZ (a := au_105) (k := 15) (by omega) (by omega)) (c_X8_92 Cx rfl rfl (rmk_ok (by omega) (by decide))) hW (by decide) rfl rfl rfl hl.1 rfl (Nat.le_of_ble_eq_true rfl) dX8_row_134 ⟨Nat.le_of_ble_eq_true rfl, Nat.le_of_ble_eq_true rfl⟩) hL (fun r_111 u_109 H locs k_110 hW hL => ?_)
                          obtain ⟨au_109, eu_109, xu_109, yu_109, zu_109, pu_109, nu_109⟩ := k_110
                          rw [eu_109] at hW
                          refine r_if_eq (tgt := 144) hx hb ⟨(by omega), (by omega)⟩ dX8_row_137 (by decide) (fun c_112 => ?_) (fun c_112 => ?_)
                          · refine lv_iconst (v := iv 0) hx hb dX8_row_144 (by decide) ?_
                            exact sZret Cx hr hlk hW hL (by omega) ⟨au_109, rfl, by omega, by omega, by omega, (fun h => absurd h (by decide)), (fun _ => by obtain ⟨fu_1, su_1⟩ := pu_1 (by omega); subst au_1; obtain ⟨fu_5, su_5⟩ := pu_5 (by omega); subst au_5; obtain ⟨fu_53, su_53⟩ := pu_53 (by omega); subst au_53; obtain ⟨fu_57, su_57⟩ := pu_57 (by omega); subst au_57; obtain ⟨fu_61, su_61⟩ := pu_61 (by omega); subst au_61; obtain ⟨fu_65, su_65⟩ := pu_65 (by omega); subst au_65; obtain ⟨fu_69, su_69⟩ := pu_69 (by omega); subst au_69; have fu_73 := pu_73 (by omega); have fu_77 := nu_77 (by omega); have fu_89 := nu_89 (by omega); have fu_101 := pu_101 (by omega); have fu_105 := pu_105 (by omega); obtain ⟨fu_109, su_109⟩ := nu_109 (by omega); subst au_109; simp only [ogR, ogRi, ogR1, ogR2, ogT, fu_1, fu_5, fu_53, fu_57, fu_61, fu_65, fu_69, fu_73, fu_77, fu_89, fu_101, fu_105, fu_109, reduceIte, Option.bind_some, Option.bind_none, or_true, true_or, or_self, or_false, false_or, Int.reduceEq, Option.some.injEq, reduceCtorEq])⟩ dX8_row_145
                          · refine lv_iconst (v := iv 1) hx hb dX8_row_140 (by decide) ?_
                            refine lv_goto (tgt := 145) hx hb dX8_row_141 (by decide) ?_
                            exact sZret Cx hr hlk hW hL (by omega) ⟨au_109, rfl, by omega, by omega, by omega, (fun _ => by obtain ⟨fu_1, su_1⟩ := pu_1 (by omega); subst au_1; obtain ⟨fu_5, su_5⟩ := pu_5 (by omega); subst au_5; obtain ⟨fu_53, su_53⟩ := pu_53 (by omega); subst au_53; obtain ⟨fu_57, su_57⟩ := pu_57 (by omega); subst au_57; obtain ⟨fu_61, su_61⟩ := pu_61 (by omega); subst au_61; obtain ⟨fu_65, su_65⟩ := pu_65 (by omega); subst au_65; obtain ⟨fu_69, su_69⟩ := pu_69 (by omega); subst au_69; have fu_73 := pu_73 (by omega); have fu_77 := nu_77 (by omega); have fu_89 := nu_89 (by omega); have fu_101 := pu_101 (by omega); have fu_105 := pu_105 (by omega); obtain ⟨fu_109, su_109⟩ := pu_109 (by omega); subst au_109; simp only [ogR, ogRi, ogR1, ogR2, ogT, fu_1, fu_5, fu_53, fu_57, fu_61, fu_65, fu_69, fu_73, fu_77, fu_89, fu_101, fu_105, fu_109, reduceIte, Option.bind_some, Option.bind_none, or_true, true_or, or_self, or_false, false_or, Int.reduceEq, Option.some.injEq, reduceCtorEq]), (fun h => absurd h (by decide))⟩ dX8_row_145
                      · refine lv_iconst (v := iv 0) hx hb dX8_row_111 (by decide) ?_
                        exact sZret Cx hr hlk hW hL (by omega) ⟨au_73, rfl, by omega, by omega, by omega, (fun h => absurd h (by decide)), (fun _ => by obtain ⟨fu_1, su_1⟩ := pu_1 (by omega); subst au_1; obtain ⟨fu_5, su_5⟩ := pu_5 (by omega); subst au_5; obtain ⟨fu_53, su_53⟩ := pu_53 (by omega); subst au_53; obtain ⟨fu_57, su_57⟩ := pu_57 (by omega); subst au_57; obtain ⟨fu_61, su_61⟩ := pu_61 (by omega); subst au_61; obtain ⟨fu_65, su_65⟩ := pu_65 (by omega); subst au_65; obtain ⟨fu_69, su_69⟩ := pu_69 (by omega); subst au_69; have fu_73 := pu_73 (by omega); have fu_77 := nu_77 (by omega); have fu_89 := nu_89 (by omega); have fu_101 := nu_101 (by omega); simp only [ogR, ogRi, ogR1, ogR2, ogT, fu_1, fu_5, fu_53, fu_57, fu_61, fu_65, fu_69, fu_73, fu_77, fu_89, fu_101, reduceIte, Option.bind_some, Option.bind_none, or_true, true_or, or_self, or_false, false_or, Int.reduceEq, Option.some.injEq, reduceCtorEq])⟩ dX8_row_112
                · refine lv_iconst (v := iv 0) hx hb dX8_row_82 (by decide) ?_
                  exact sZret Cx hr hlk hW hL (by omega) ⟨au_73, rfl, by omega, by omega, by omega, (fun h => absurd h (by decide)), (fun _ => by obtain ⟨fu_1, su_1⟩ := pu_1 (by omega); subst au_1; obtain ⟨fu_5, su_5⟩ := pu_5 (by omega); subst au_5; obtain ⟨fu_53, su_53⟩ := pu_53 (by omega); subst au_53; obtain ⟨fu_57, su_57⟩ := pu_57 (by omega); subst au_57; obtain ⟨fu_61, su_61⟩ := pu_61 (by omega); subst au_61; obtain ⟨fu_65, su_65⟩ := pu_65 (by omega); subst au_65; obtain ⟨fu_69, su_69⟩ := pu_69 (by omega); subst au_69; have fu_73 := nu_73 (by omega); simp only [ogR, ogRi, ogR1, ogR2, ogT, fu_1, fu_5, fu_53, fu_57, fu_61, fu_65, fu_69, fu_73, reduceIte, Option.bind_some, Option.bind_none, or_true, true_or, or_self, or_false, false_or, Int.reduceEq, Option.some.injEq, reduceCtorEq])⟩ dX8_row_83
            · refine lv_iconst (v := iv 0) hx hb dX8_row_63 (by decide) ?_
              exact sZret Cx hr hlk hW hL (by omega) ⟨au_65, rfl, by omega, by omega, by omega, (fun h => absurd h (by decide)), (fun _ => by obtain ⟨fu_1, su_1⟩ := pu_1 (by omega); subst au_1; obtain ⟨fu_5, su_5⟩ := pu_5 (by omega); subst au_5; obtain ⟨fu_53, su_53⟩ := pu_53 (by omega); subst au_53; obtain ⟨fu_57, su_57⟩ := pu_57 (by omega); subst au_57; obtain ⟨fu_61, su_61⟩ := pu_61 (by omega); subst au_61; obtain ⟨fu_65, su_65⟩ := nu_65 (by omega); subst au_65; simp only [ogR, ogRi, ogR1, ogR2, ogT, fu_1, fu_5, fu_53, fu_57, fu_61, fu_65, reduceIte, Option.bind_some, Option.bind_none, or_true, true_or, or_self, or_false, false_or, Int.reduceEq, Option.some.injEq, reduceCtorEq])⟩ dX8_row_64
  · refine lv_iconst (v := iv 0) hx hb dX8_row_18 (by decide) ?_
    exact sZret Cx hr hlk hW hL (by omega) ⟨au_1, rfl, by omega, by omega, by omega, (fun h => absurd h (by decide)), (fun _ => by obtain ⟨fu_1, su_1⟩ := nu_1 (by omega); subst au_1; simp only [ogR, ogRi, ogR1, ogR2, ogT, fu_1, reduceIte, Option.bind_some, Option.bind_none, or_true, true_or, or_self, or_false, false_or, Int.reduceEq, Option.some.injEq, reduceCtorEq])⟩ dX8_row_19

set_option maxRecDepth 100000 in
set_option maxHeartbeats 4000000 in
theorem o_X8_isProgram (l : Launch) (G : sG) (S : sS) {a : Int} (hA : SynAt G S) (hS : SynOK S) (hZ : OZ S) : Met l yX8_isProgram (.code yX8_isProgram cX8_isProgram 2 (some .boolean) :: tb) (rmk 98 0 0) (sPc G 294 (uF S 12 4 a) [.ref (G.2.2.1 + 12)]) (sQi G 294 (OPost S 0 (ogG (S.1 12 3) (kd S)))) 0 0 (sF G) := by
  refine sEnter (by decide) (Nat.le_of_ble_eq_true rfl) ?_
  intro p e s m args below meth c Cx hr hlk hnm hW ls hl
  have Cx : sC G p m c cX8_isProgram 2 s args RX8 := Cx
  obtain ⟨hx, hb, hml, hown, hts⟩ := id Cx.1
  have hL : sL G [] := sL_nil
  have hl : lv_has ls 2 [(0, .ref (G.2.2.1 + 12))] := hl
  obtain ⟨hr0, hr1, hr2⟩ := id hA
  obtain ⟨ht, hki, hst, hva⟩ := id hS
  have hz0 := hZ.1
  refine lv_aload_n hx hb dX8_isProgram_0 rfl (lv_at hl 0 rfl) ?_
  refine lv_iconst (v := iv 0) hx hb dX8_isProgram_1 (by decide) ?_
  refine p_X8_26 Cx hW hL (k := 12) (by decide) rfl dX8_isProgram_2 (fun H locs hW hL => ?_)
  rw [uF_uF] at hW
  refine lv_iconst (v := iv 0) hx hb dX8_isProgram_5 (by decide) ?_
  refine lv_istore_n (lv' := [(1, .int (iv 0)), (0, .ref (G.2.2.1 + 12))]) hx hb dX8_isProgram_6 rfl hl (by decide) rfl (fun ls hl => ?_)
  have loop_7 : ∀ (fuel : Nat) (i : Int) (b : Int) (H : Heap) (locs : List Loc) (ls : Array Slot), ((S.1 12 3) - i).toNat < fuel → (0 ≤ i ∧ i ≤ b) → (0 ≤ b ∧ b ≤ (S.1 12 3) - 1) → (ogG (S.1 12 3) (kd S) = (ogW (S.1 12 3) (fun p => (kd S) p = 6 ∨ (kd S) p = 7 ∨ (kd S) p = 8) (ogD (S.1 12 3) (kd S)) b).bind (ogG1 (S.1 12 3) (kd S))) → sW G 294 (uF S 12 4 b) H → sL G locs → lv_has ls 2 [(1, .int (iv i)), (0, .ref (G.2.2.1 + 12))] → W p l e (rmk 98 0 0) s m args below meth c H locs 0 0 (MQ below (sQi G 294 (OPost S 0 (ogG (S.1 12 3) (kd S)))) args s 0 0 (sF G)) (F0 m 7 ls []) := by
    intro fuel
    induction fuel with
    | zero => intro i b H locs ls hmeas hi hbi hG hW hL hl; exact absurd hmeas (Nat.not_lt_zero _)
    | succ fuel ih_7 =>
      intro i b H locs ls hmeas hi hbi hG hW hL hl
      refine lv_iload_n hx hb dX8_isProgram_7 rfl (lv_at hl 0 rfl) ?_
      refine lv_aload_n hx hb dX8_isProgram_8 rfl (lv_at hl 1 rfl) ?_
      refine g_X8_22 Cx hW (k := 12) (by decide) rfl (v := S.1 12 3) (uF_ne (fun h => absurd h.2 (by decide))) dX8_isProgram_9 ?_
      refine r_icmp_ge (tgt := 57) hx hb ⟨(by omega), (by omega)⟩ ⟨(by omega), (by omega)⟩ dX8_isProgram_12 (by decide) (fun c_1 => ?_) (fun c_1 => ?_)
      · exfalso; omega
      · refine lv_aload_n hx hb dX8_isProgram_15 rfl (lv_at hl 1 rfl) ?_
        refine lv_bipush (v := iv 6) hx hb dX8_isProgram_16 (by decide) ?_
        refine sBi (sV (As := [.int (iv 6)]) (rest := []) (k := 12) Cx (o_X8_is l G S hA hS hZ (a := b) (k := 6) (by omega) (by omega)) (c_X8_82 Cx rfl rfl (rmk_ok (by omega) (by decide))) hW (by decide) rfl rfl rfl hl.1 rfl (Nat.le_of_ble_eq_true rfl) dX8_isProgram_18 ⟨Nat.le_of_ble_eq_true rfl, Nat.le_of_ble_eq_true rfl⟩) hL (fun r_4 u_2 H locs k_3 hW hL => ?_)
        obtain ⟨eu_2, zu_2, pu_2, nu_2⟩ := k_3
        rw [eu_2] at hW
        have wu_2 : b + r_4 ≤ S.1 12 3 - 1 := (by by_cases h9 : r_4 = 1; (have := OZ.ne hZ (pu_2 h9) (by omega) (by omega); omega); omega)
        refine r_if_ne (tgt := 42) hx hb ⟨(by omega), (by omega)⟩ dX8_isProgram_21 (by decide) (fun c_5 => ?_) (fun c_5 => ?_)
        · refine lv_aload_n hx hb dX8_isProgram_42 rfl (lv_at hl 1 rfl) ?_
          refine sBi (sV (As := []) (rest := []) (k := 12) Cx (o_X8_declaration l G S hA hS hZ (a := b) (by omega) (by have q9 := pu_2 (by omega); omega)) (c_X8_85 Cx rfl rfl (rmk_ok (by omega) (by decide))) hW (by decide) rfl rfl rfl hl.1 rfl (Nat.le_of_ble_eq_true rfl) dX8_isProgram_43 ⟨Nat.le_of_ble_eq_true rfl, Nat.le_of_ble_eq_true rfl⟩) hL (fun r_8 u_6 H locs k_7 hW hL => ?_)
          obtain ⟨au_6, eu_6, xu_6, yu_6, zu_6, pu_6, nu_6⟩ := k_7
          rw [eu_6] at hW
          refine r_if_ne (tgt := 51) hx hb ⟨(by omega), (by omega)⟩ dX8_isProgram_46 (by decide) (fun c_9 => ?_) (fun c_9 => ?_)
          · refine lv_iinc (v := iv (i + 1)) (lv' := [(1, .int (iv (i + 1))), (0, .ref (G.2.2.1 + 12))]) hx hb dX8_isProgram_51 hl (k := 0) rfl ((Int32.ofInt_add _ _).symm) (by decide) rfl (fun ls hl => ?_)
            refine lv_goto (tgt := 7) hx hb dX8_isProgram_54 (by decide) ?_
            exact ih_7 (i + 1) au_6 _ _ _ (by omega) (by have q9 := ogD_inc _ _ (pu_6 (by omega)); omega) (by omega) (by rw [hG, ogW678 kd_out (.inl (pu_2 (by omega))) (pu_6 (by omega))]) hW hL (lv_sub hl [0, 1] rfl)
          · refine lv_iconst (v := iv 0) hx hb dX8_isProgram_49 (by decide) ?_
            exact sZret Cx hr hlk hW hL (by omega) ⟨au_6, rfl, by omega, by omega, by omega, (fun h => absurd h (by decide)), (fun _ => by rw [hG, ogW_fa (st := fun p => (kd S) p = 6 ∨ (kd S) p = 7 ∨ (kd S) p = 8) (.inl (pu_2 (by omega))) (nu_6 (by omega))]; rfl)⟩ dX8_isProgram_50
        · refine lv_aload_n hx hb dX8_isProgram_24 rfl (lv_at hl 1 rfl) ?_
          refine lv_bipush (v := iv 7) hx hb dX8_isProgram_25 (by decide) ?_
          refine sBi (sV (As := [.int (iv 7)]) (rest := []) (k := 12) Cx (o_X8_is l G S hA hS hZ (a := b) (k := 7) (by omega) (by omega)) (c_X8_82 Cx rfl rfl (rmk_ok (by omega) (by decide))) hW (by decide) rfl rfl rfl hl.1 rfl (Nat.le_of_ble_eq_true rfl) dX8_isProgram_27 ⟨Nat.le_of_ble_eq_true rfl, Nat.le_of_ble_eq_true rfl⟩) hL (fun r_12 u_10 H locs k_11 hW hL => ?_)
          obtain ⟨eu_10, zu_10, pu_10, nu_10⟩ := k_11
          rw [eu_10] at hW
          have wu_10 : b + r_12 ≤ S.1 12 3 - 1 := (by by_cases h9 : r_12 = 1; (have := OZ.ne hZ (pu_10 h9) (by omega) (by omega); omega); omega)
          refine r_if_ne (tgt := 42) hx hb ⟨(by omega), (by omega)⟩ dX8_isProgram_30 (by decide) (fun c_13 => ?_) (fun c_13 => ?_)
          · refine lv_aload_n hx hb dX8_isProgram_42 rfl (lv_at hl 1 rfl) ?_
            refine sBi (sV (As := []) (rest := []) (k := 12) Cx (o_X8_declaration l G S hA hS hZ (a := b) (by omega) (by have q9 := pu_10 (by omega); omega)) (c_X8_85 Cx rfl rfl (rmk_ok (by omega) (by decide))) hW (by decide) rfl rfl rfl hl.1 rfl (Nat.le_of_ble_eq_true rfl) dX8_isProgram_43 ⟨Nat.le_of_ble_eq_true rfl, Nat.le_of_ble_eq_true rfl⟩) hL (fun r_16 u_14 H locs k_15 hW hL => ?_)
            obtain ⟨au_14, eu_14, xu_14, yu_14, zu_14, pu_14, nu_14⟩ := k_15
            rw [eu_14] at hW
            refine r_if_ne (tgt := 51) hx hb ⟨(by omega), (by omega)⟩ dX8_isProgram_46 (by decide) (fun c_17 => ?_) (fun c_17 => ?_)
            · refine lv_iinc (v := iv (i + 1)) (lv' := [(1, .int (iv (i + 1))), (0, .ref (G.2.2.1 + 12))]) hx hb dX8_isProgram_51 hl (k := 0) rfl ((Int32.ofInt_add _ _).symm) (by decide) rfl (fun ls hl => ?_)
              refine lv_goto (tgt := 7) hx hb dX8_isProgram_54 (by decide) ?_
              exact ih_7 (i + 1) au_14 _ _ _ (by omega) (by have q9 := ogD_inc _ _ (pu_14 (by omega)); omega) (by omega) (by rw [hG, ogW678 kd_out (.inr (.inl (pu_10 (by omega)))) (pu_14 (by omega))]) hW hL (lv_sub hl [0, 1] rfl)
            · refine lv_iconst (v := iv 0) hx hb dX8_isProgram_49 (by decide) ?_
              exact sZret Cx hr hlk hW hL (by omega) ⟨au_14, rfl, by omega, by omega, by omega, (fun h => absurd h (by decide)), (fun _ => by rw [hG, ogW_fa (st := fun p => (kd S) p = 6 ∨ (kd S) p = 7 ∨ (kd S) p = 8) (.inr (.inl (pu_10 (by omega)))) (nu_14 (by omega))]; rfl)⟩ dX8_isProgram_50
          · refine lv_aload_n hx hb dX8_isProgram_33 rfl (lv_at hl 1 rfl) ?_
            refine lv_bipush (v := iv 8) hx hb dX8_isProgram_34 (by decide) ?_
            refine sBi (sV (As := [.int (iv 8)]) (rest := []) (k := 12) Cx (o_X8_is l G S hA hS hZ (a := b) (k := 8) (by omega) (by omega)) (c_X8_82 Cx rfl rfl (rmk_ok (by omega) (by decide))) hW (by decide) rfl rfl rfl hl.1 rfl (Nat.le_of_ble_eq_true rfl) dX8_isProgram_36 ⟨Nat.le_of_ble_eq_true rfl, Nat.le_of_ble_eq_true rfl⟩) hL (fun r_20 u_18 H locs k_19 hW hL => ?_)
            obtain ⟨eu_18, zu_18, pu_18, nu_18⟩ := k_19
            rw [eu_18] at hW
            have wu_18 : b + r_20 ≤ S.1 12 3 - 1 := (by by_cases h9 : r_20 = 1; (have := OZ.ne hZ (pu_18 h9) (by omega) (by omega); omega); omega)
            refine r_if_eq (tgt := 57) hx hb ⟨(by omega), (by omega)⟩ dX8_isProgram_39 (by decide) (fun c_21 => ?_) (fun c_21 => ?_)
            · refine lv_aload_n hx hb dX8_isProgram_57 rfl (lv_at hl 1 rfl) ?_
              refine lv_iconst (v := iv 4) hx hb dX8_isProgram_58 (by decide) ?_
              refine sBi (sV (As := [.int (iv 4)]) (rest := []) (k := 12) Cx (o_X8_is l G S hA hS hZ (a := b) (k := 4) (by omega) (by omega)) (c_X8_82 Cx rfl rfl (rmk_ok (by omega) (by decide))) hW (by decide) rfl rfl rfl hl.1 rfl (Nat.le_of_ble_eq_true rfl) dX8_isProgram_59 ⟨Nat.le_of_ble_eq_true rfl, Nat.le_of_ble_eq_true rfl⟩) hL (fun r_24 u_22 H locs k_23 hW hL => ?_)
              obtain ⟨eu_22, zu_22, pu_22, nu_22⟩ := k_23
              rw [eu_22] at hW
              have wu_22 : b + r_24 ≤ S.1 12 3 - 1 := (by by_cases h9 : r_24 = 1; (have := OZ.ne hZ (pu_22 h9) (by omega) (by omega); omega); omega)
              refine r_if_ne (tgt := 75) hx hb ⟨(by omega), (by omega)⟩ dX8_isProgram_62 (by decide) (fun c_25 => ?_) (fun c_25 => ?_)
              · refine lv_aload_n hx hb dX8_isProgram_75 rfl (lv_at hl 1 rfl) ?_
                refine lv_dup hx hb dX8_isProgram_76 rfl ?_
                refine g_X8_26 Cx hW (k := 12) (by decide) rfl (v := b) uF_on dX8_isProgram_77 ?_
                refine lv_iconst (v := iv 1) hx hb dX8_isProgram_80 (by decide) ?_
                refine r_iadd hx hb dX8_isProgram_81 ?_
                refine p_X8_26 Cx hW hL (k := 12) (by decide) rfl dX8_isProgram_82 (fun H locs hW hL => ?_)
                rw [uF_uF] at hW
                refine lv_aload_n hx hb dX8_isProgram_85 rfl (lv_at hl 1 rfl) ?_
                refine lv_iconst (v := iv 0) hx hb dX8_isProgram_86 (by decide) ?_
                refine sBi (sV (As := [.int (iv 0)]) (rest := []) (k := 12) Cx ((osyn_expr l G S hA hS hZ) (b + 1) (by omega)) (c_X8_89 Cx rfl rfl (rmk_ok (by omega) (by decide))) hW (by decide) rfl rfl rfl hl.1 rfl (Nat.le_of_ble_eq_true rfl) dX8_isProgram_87 ⟨Nat.le_of_ble_eq_true rfl, Nat.le_of_ble_eq_true rfl⟩) hL (fun r_28 u_26 H locs k_27 hW hL => ?_)
                obtain ⟨au_26, eu_26, xu_26, yu_26, zu_26, pu_26, nu_26⟩ := k_27
                rw [eu_26] at hW
                refine r_if_eq (tgt := 102) hx hb ⟨(by omega), (by omega)⟩ dX8_isProgram_90 (by decide) (fun c_29 => ?_) (fun c_29 => ?_)
                · refine lv_iconst (v := iv 0) hx hb dX8_isProgram_102 (by decide) ?_
                  exact sZret Cx hr hlk hW hL (by omega) ⟨au_26, rfl, by omega, by omega, by omega, (fun h => absurd h (by decide)), (fun _ => by rw [hG, ogW_no (st := fun p => (kd S) p = 6 ∨ (kd S) p = 7 ∨ (kd S) p = 8) (fun z => z.elim (nu_2 (by omega)) (fun z => z.elim (nu_10 (by omega)) (nu_18 (by omega)))), Option.bind_some]; have fu_22 := pu_22 (by omega); have fu_26 := nu_26 (by omega); simp only [ogG1, ogG1p, ogT, fu_22, fu_26, reduceIte, Option.bind_some, Option.bind_none, or_true, true_or, or_self, or_false, false_or, Int.reduceEq, Option.some.injEq, reduceCtorEq])⟩ dX8_isProgram_103
                · refine lv_aload_n hx hb dX8_isProgram_93 rfl (lv_at hl 1 rfl) ?_
                  refine lv_bipush (v := iv 15) hx hb dX8_isProgram_94 (by decide) ?_
                  refine sBi (sV (As := [.int (iv 15)]) (rest := []) (k := 12) Cx (o_X8_pass l G S hA hS hZ (a := au_26) (k := 15) (by omega) (by omega)) (c_X8_92 Cx rfl rfl (rmk_ok (by omega) (by decide))) hW (by decide) rfl rfl rfl hl.1 rfl (Nat.le_of_ble_eq_true rfl) dX8_isProgram_96 ⟨Nat.le_of_ble_eq_true rfl, Nat.le_of_ble_eq_true rfl⟩) hL (fun r_32 u_30 H locs k_31 hW hL => ?_)
                  obtain ⟨au_30, eu_30, xu_30, yu_30, zu_30, pu_30, nu_30⟩ := k_31
                  rw [eu_30] at hW
                  refine r_if_ne (tgt := 104) hx hb ⟨(by omega), (by omega)⟩ dX8_isProgram_99 (by decide) (fun c_33 => ?_) (fun c_33 => ?_)
                  · refine lv_iconst (v := iv 0) hx hb dX8_isProgram_104 (by decide) ?_
                    refine lv_istore_n (lv' := [(1, .int (iv 0)), (0, .ref (G.2.2.1 + 12))]) hx hb dX8_isProgram_105 rfl hl (by decide) rfl (fun ls hl => ?_)
                    have loop_106 : ∀ (fuel : Nat) (i2 : Int) (b : Int) (H : Heap) (locs : List Loc) (ls : Array Slot), ((S.1 12 3) - i2).toNat < fuel → (0 ≤ i2 ∧ i2 ≤ b) → (0 ≤ b ∧ b ≤ (S.1 12 3) - 1) → (ogG (S.1 12 3) (kd S) = ogG2 (S.1 12 3) (kd S) b) → sW G 294 (uF S 12 4 b) H → sL G locs → lv_has ls 2 [(1, .int (iv i2)), (0, .ref (G.2.2.1 + 12))] → W p l e (rmk 98 0 0) s m args below meth c H locs 0 0 (MQ below (sQi G 294 (OPost S 0 (ogG (S.1 12 3) (kd S)))) args s 0 0 (sF G)) (F0 m 106 ls []) := by
                      intro fuel
                      induction fuel with
                      | zero => intro i2 b H locs ls hmeas hi2 hbi2 hG2 hW hL hl; exact absurd hmeas (Nat.not_lt_zero _)
                      | succ fuel ih_106 =>
                        intro i2 b H locs ls hmeas hi2 hbi2 hG2 hW hL hl
                        refine lv_iload_n hx hb dX8_isProgram_106 rfl (lv_at hl 0 rfl) ?_
                        refine lv_aload_n hx hb dX8_isProgram_107 rfl (lv_at hl 1 rfl) ?_
                        refine g_X8_22 Cx hW (k := 12) (by decide) rfl (v := S.1 12 3) (uF_ne (fun h => absurd h.2 (by decide))) dX8_isProgram_108 ?_
                        refine r_icmp_ge (tgt := 138) hx hb ⟨(by omega), (by omega)⟩ ⟨(by omega), (by omega)⟩ dX8_isProgram_111 (by decide) (fun c_34 => ?_) (fun c_34 => ?_)
                        · exfalso; omega
                        · refine lv_aload_n hx hb dX8_isProgram_114 rfl (lv_at hl 1 rfl) ?_
                          refine lv_bipush (v := iv 10) hx hb dX8_isProgram_115 (by decide) ?_
                          refine sBi (sV (As := [.int (iv 10)]) (rest := []) (k := 12) Cx (o_X8_is l G S hA hS hZ (a := b) (k := 10) (by omega) (by omega)) (c_X8_82 Cx rfl rfl (rmk_ok (by omega) (by decide))) hW (by decide) rfl rfl rfl hl.1 rfl (Nat.le_of_ble_eq_true rfl) dX8_isProgram_117 ⟨Nat.le_of_ble_eq_true rfl, Nat.le_of_ble_eq_true rfl⟩) hL (fun r_37 u_35 H locs k_36 hW hL => ?_)
                          obtain ⟨eu_35, zu_35, pu_35, nu_35⟩ := k_36
                          rw [eu_35] at hW
                          have wu_35 : b + r_37 ≤ S.1 12 3 - 1 := (by by_cases h9 : r_37 = 1; (have := OZ.ne hZ (pu_35 h9) (by omega) (by omega); omega); omega)
                          refine r_if_eq (tgt := 138) hx hb ⟨(by omega), (by omega)⟩ dX8_isProgram_120 (by decide) (fun c_38 => ?_) (fun c_38 => ?_)
                          · refine lv_aload_n hx hb dX8_isProgram_138 rfl (lv_at hl 1 rfl) ?_
                            refine lv_iconst (v := iv 0) hx hb dX8_isProgram_139 (by decide) ?_
                            refine sBi (sV (As := [.int (iv 0)]) (rest := []) (k := 12) Cx (o_X8_is l G S hA hS hZ (a := b) (k := 0) (by omega) (by omega)) (c_X8_82 Cx rfl rfl (rmk_ok (by omega) (by decide))) hW (by decide) rfl rfl rfl hl.1 rfl (Nat.le_of_ble_eq_true rfl) dX8_isProgram_140 ⟨Nat.le_of_ble_eq_true rfl, Nat.le_of_ble_eq_true rfl⟩) hL (fun r_41 u_39 H locs k_40 hW hL => ?_)
                            obtain ⟨eu_39, zu_39, pu_39, nu_39⟩ := k_40
                            rw [eu_39] at hW
                            exact sZret Cx hr hlk hW hL (by omega) ⟨b, rfl, by omega, by omega, by omega, (fun h => by rw [hG2]; unfold ogG2; rw [ogW_no (st := fun p => (kd S) p = 10) (nu_35 (by omega)), Option.bind_some]; rw [if_pos (pu_39 h)]), (fun h => by rw [hG2]; unfold ogG2; rw [ogW_no (st := fun p => (kd S) p = 10) (nu_35 (by omega)), Option.bind_some]; rw [if_neg (nu_39 h)])⟩ dX8_isProgram_143
                          · refine lv_aload_n hx hb dX8_isProgram_123 rfl (lv_at hl 1 rfl) ?_
                            refine sBi (sV (As := []) (rest := []) (k := 12) Cx (o_X8_row l G S hA hS hZ (a := b) (by omega) (by have q9 := pu_35 (by omega); omega)) (c_X8_95 Cx rfl rfl (rmk_ok (by omega) (by decide))) hW (by decide) rfl rfl rfl hl.1 rfl (Nat.le_of_ble_eq_true rfl) dX8_isProgram_124 ⟨Nat.le_of_ble_eq_true rfl, Nat.le_of_ble_eq_true rfl⟩) hL (fun r_44 u_42 H locs k_43 hW hL => ?_)
                            obtain ⟨au_42, eu_42, xu_42, yu_42, zu_42, pu_42, nu_42⟩ := k_43
                            rw [eu_42] at hW
                            refine r_if_ne (tgt := 132) hx hb ⟨(by omega), (by omega)⟩ dX8_isProgram_127 (by decide) (fun c_45 => ?_) (fun c_45 => ?_)
                            · refine lv_iinc (v := iv (i2 + 1)) (lv' := [(1, .int (iv (i2 + 1))), (0, .ref (G.2.2.1 + 12))]) hx hb dX8_isProgram_132 hl (k := 0) rfl ((Int32.ofInt_add _ _).symm) (by decide) rfl (fun ls hl => ?_)
                              refine lv_goto (tgt := 106) hx hb dX8_isProgram_135 (by decide) ?_
                              exact ih_106 (i2 + 1) au_42 _ _ _ (by omega) (by have q9 := ogR_inc _ _ (pu_42 (by omega)); omega) (by omega) (by rw [hG2]; unfold ogG2; rw [ogW10 kd_out (pu_35 (by omega)) (pu_42 (by omega))]) hW hL (lv_sub hl [0, 1] rfl)
                            · refine lv_iconst (v := iv 0) hx hb dX8_isProgram_130 (by decide) ?_
                              exact sZret Cx hr hlk hW hL (by omega) ⟨au_42, rfl, by omega, by omega, by omega, (fun h => absurd h (by decide)), (fun _ => by rw [hG2]; unfold ogG2; rw [ogW_fa (st := fun p => (kd S) p = 10) (pu_35 (by omega)) (nu_42 (by omega))]; rfl)⟩ dX8_isProgram_131
                    exact loop_106 (_ + 1) 0 au_30 _ _ _ (Nat.lt_succ_self _) (by omega) (by omega) (by rw [hG, ogW_no (st := fun p => (kd S) p = 6 ∨ (kd S) p = 7 ∨ (kd S) p = 8) (fun z => z.elim (nu_2 (by omega)) (fun z => z.elim (nu_10 (by omega)) (nu_18 (by omega)))), Option.bind_some]; have fu_22 := pu_22 (by omega); have fu_26 := pu_26 (by omega); obtain ⟨fu_30, su_30⟩ := pu_30 (by omega); subst au_30; simp only [ogG1, ogG1p, ogT, fu_22, fu_26, fu_30, reduceIte, Option.bind_some, Option.bind_none, or_true, true_or, or_self, or_false, false_or, Int.reduceEq, Option.some.injEq, reduceCtorEq]) hW hL (lv_sub hl [0, 1] rfl)
                  · refine lv_iconst (v := iv 0) hx hb dX8_isProgram_102 (by decide) ?_
                    exact sZret Cx hr hlk hW hL (by omega) ⟨au_30, rfl, by omega, by omega, by omega, (fun h => absurd h (by decide)), (fun _ => by rw [hG, ogW_no (st := fun p => (kd S) p = 6 ∨ (kd S) p = 7 ∨ (kd S) p = 8) (fun z => z.elim (nu_2 (by omega)) (fun z => z.elim (nu_10 (by omega)) (nu_18 (by omega)))), Option.bind_some]; have fu_22 := pu_22 (by omega); have fu_26 := pu_26 (by omega); obtain ⟨fu_30, su_30⟩ := nu_30 (by omega); subst au_30; simp only [ogG1, ogG1p, ogT, fu_22, fu_26, fu_30, reduceIte, Option.bind_some, Option.bind_none, or_true, true_or, or_self, or_false, false_or, Int.reduceEq, Option.some.injEq, reduceCtorEq])⟩ dX8_isProgram_103
              · refine lv_aload_n hx hb dX8_isProgram_65 rfl (lv_at hl 1 rfl) ?_
                refine lv_iconst (v := iv 5) hx hb dX8_isProgram_66 (by decide) ?_
                refine sBi (sV (As := [.int (iv 5)]) (rest := []) (k := 12) Cx (o_X8_is l G S hA hS hZ (a := b) (k := 5) (by omega) (by omega)) (c_X8_82 Cx rfl rfl (rmk_ok (by omega) (by decide))) hW (by decide) rfl rfl rfl hl.1 rfl (Nat.le_of_ble_eq_true rfl) dX8_isProgram_67 ⟨Nat.le_of_ble_eq_true rfl, Nat.le_of_ble_eq_true rfl⟩) hL (fun r_48 u_46 H locs k_47 hW hL => ?_)
                obtain ⟨eu_46, zu_46, pu_46, nu_46⟩ := k_47
                rw [eu_46] at hW
                have wu_46 : b + r_48 ≤ S.1 12 3 - 1 := (by by_cases h9 : r_48 = 1; (have := OZ.ne hZ (pu_46 h9) (by omega) (by omega); omega); omega)
                refine r_if_ne (tgt := 75) hx hb ⟨(by omega), (by omega)⟩ dX8_isProgram_70 (by decide) (fun c_49 => ?_) (fun c_49 => ?_)
                · refine lv_aload_n hx hb dX8_isProgram_75 rfl (lv_at hl 1 rfl) ?_
                  refine lv_dup hx hb dX8_isProgram_76 rfl ?_
                  refine g_X8_26 Cx hW (k := 12) (by decide) rfl (v := b) uF_on dX8_isProgram_77 ?_
                  refine lv_iconst (v := iv 1) hx hb dX8_isProgram_80 (by decide) ?_
                  refine r_iadd hx hb dX8_isProgram_81 ?_
                  refine p_X8_26 Cx hW hL (k := 12) (by decide) rfl dX8_isProgram_82 (fun H locs hW hL => ?_)
                  rw [uF_uF] at hW
                  refine lv_aload_n hx hb dX8_isProgram_85 rfl (lv_at hl 1 rfl) ?_
                  refine lv_iconst (v := iv 0) hx hb dX8_isProgram_86 (by decide) ?_
                  refine sBi (sV (As := [.int (iv 0)]) (rest := []) (k := 12) Cx ((osyn_expr l G S hA hS hZ) (b + 1) (by omega)) (c_X8_89 Cx rfl rfl (rmk_ok (by omega) (by decide))) hW (by decide) rfl rfl rfl hl.1 rfl (Nat.le_of_ble_eq_true rfl) dX8_isProgram_87 ⟨Nat.le_of_ble_eq_true rfl, Nat.le_of_ble_eq_true rfl⟩) hL (fun r_52 u_50 H locs k_51 hW hL => ?_)
                  obtain ⟨au_50, eu_50, xu_50, yu_50, zu_50, pu_50, nu_50⟩ := k_51
                  rw [eu_50] at hW
                  refine r_if_eq (tgt := 102) hx hb ⟨(by omega), (by omega)⟩ dX8_isProgram_90 (by decide) (fun c_53 => ?_) (fun c_53 => ?_)
                  · refine lv_iconst (v := iv 0) hx hb dX8_isProgram_102 (by decide) ?_
                    exact sZret Cx hr hlk hW hL (by omega) ⟨au_50, rfl, by omega, by omega, by omega, (fun h => absurd h (by decide)), (fun _ => by rw [hG, ogW_no (st := fun p => (kd S) p = 6 ∨ (kd S) p = 7 ∨ (kd S) p = 8) (fun z => z.elim (nu_2 (by omega)) (fun z => z.elim (nu_10 (by omega)) (nu_18 (by omega)))), Option.bind_some]; have fu_22 := nu_22 (by omega); have fu_46 := pu_46 (by omega); have fu_50 := nu_50 (by omega); simp only [ogG1, ogG1p, ogT, fu_22, fu_46, fu_50, reduceIte, Option.bind_some, Option.bind_none, or_true, true_or, or_self, or_false, false_or, Int.reduceEq, Option.some.injEq, reduceCtorEq])⟩ dX8_isProgram_103
                  · refine lv_aload_n hx hb dX8_isProgram_93 rfl (lv_at hl 1 rfl) ?_
                    refine lv_bipush (v := iv 15) hx hb dX8_isProgram_94 (by decide) ?_
                    refine sBi (sV (As := [.int (iv 15)]) (rest := []) (k := 12) Cx (o_X8_pass l G S hA hS hZ (a := au_50) (k := 15) (by omega) (by omega)) (c_X8_92 Cx rfl rfl (rmk_ok (by omega) (by decide))) hW (by decide) rfl rfl rfl hl.1 rfl (Nat.le_of_ble_eq_true rfl) dX8_isProgram_96 ⟨Nat.le_of_ble_eq_true rfl, Nat.le_of_ble_eq_true rfl⟩) hL (fun r_56 u_54 H locs k_55 hW hL => ?_)
                    obtain ⟨au_54, eu_54, xu_54, yu_54, zu_54, pu_54, nu_54⟩ := k_55
                    rw [eu_54] at hW
                    refine r_if_ne (tgt := 104) hx hb ⟨(by omega), (by omega)⟩ dX8_isProgram_99 (by decide) (fun c_57 => ?_) (fun c_57 => ?_)
                    · refine lv_iconst (v := iv 0) hx hb dX8_isProgram_104 (by decide) ?_
                      refine lv_istore_n (lv' := [(1, .int (iv 0)), (0, .ref (G.2.2.1 + 12))]) hx hb dX8_isProgram_105 rfl hl (by decide) rfl (fun ls hl => ?_)
                      have loop_106 : ∀ (fuel : Nat) (i2 : Int) (b : Int) (H : Heap) (locs : List Loc) (ls : Array Slot), ((S.1 12 3) - i2).toNat < fuel → (0 ≤ i2 ∧ i2 ≤ b) → (0 ≤ b ∧ b ≤ (S.1 12 3) - 1) → (ogG (S.1 12 3) (kd S) = ogG2 (S.1 12 3) (kd S) b) → sW G 294 (uF S 12 4 b) H → sL G locs → lv_has ls 2 [(1, .int (iv i2)), (0, .ref (G.2.2.1 + 12))] → W p l e (rmk 98 0 0) s m args below meth c H locs 0 0 (MQ below (sQi G 294 (OPost S 0 (ogG (S.1 12 3) (kd S)))) args s 0 0 (sF G)) (F0 m 106 ls []) := by
                        intro fuel
                        induction fuel with
                        | zero => intro i2 b H locs ls hmeas hi2 hbi2 hG2 hW hL hl; exact absurd hmeas (Nat.not_lt_zero _)
                        | succ fuel ih_106 =>
                          intro i2 b H locs ls hmeas hi2 hbi2 hG2 hW hL hl
                          refine lv_iload_n hx hb dX8_isProgram_106 rfl (lv_at hl 0 rfl) ?_
                          refine lv_aload_n hx hb dX8_isProgram_107 rfl (lv_at hl 1 rfl) ?_
                          refine g_X8_22 Cx hW (k := 12) (by decide) rfl (v := S.1 12 3) (uF_ne (fun h => absurd h.2 (by decide))) dX8_isProgram_108 ?_
                          refine r_icmp_ge (tgt := 138) hx hb ⟨(by omega), (by omega)⟩ ⟨(by omega), (by omega)⟩ dX8_isProgram_111 (by decide) (fun c_58 => ?_) (fun c_58 => ?_)
                          · exfalso; omega
                          · refine lv_aload_n hx hb dX8_isProgram_114 rfl (lv_at hl 1 rfl) ?_
                            refine lv_bipush (v := iv 10) hx hb dX8_isProgram_115 (by decide) ?_
                            refine sBi (sV (As := [.int (iv 10)]) (rest := []) (k := 12) Cx (o_X8_is l G S hA hS hZ (a := b) (k := 10) (by omega) (by omega)) (c_X8_82 Cx rfl rfl (rmk_ok (by omega) (by decide))) hW (by decide) rfl rfl rfl hl.1 rfl (Nat.le_of_ble_eq_true rfl) dX8_isProgram_117 ⟨Nat.le_of_ble_eq_true rfl, Nat.le_of_ble_eq_true rfl⟩) hL (fun r_61 u_59 H locs k_60 hW hL => ?_)
                            obtain ⟨eu_59, zu_59, pu_59, nu_59⟩ := k_60
                            rw [eu_59] at hW
                            have wu_59 : b + r_61 ≤ S.1 12 3 - 1 := (by by_cases h9 : r_61 = 1; (have := OZ.ne hZ (pu_59 h9) (by omega) (by omega); omega); omega)
                            refine r_if_eq (tgt := 138) hx hb ⟨(by omega), (by omega)⟩ dX8_isProgram_120 (by decide) (fun c_62 => ?_) (fun c_62 => ?_)
                            · refine lv_aload_n hx hb dX8_isProgram_138 rfl (lv_at hl 1 rfl) ?_
                              refine lv_iconst (v := iv 0) hx hb dX8_isProgram_139 (by decide) ?_
                              refine sBi (sV (As := [.int (iv 0)]) (rest := []) (k := 12) Cx (o_X8_is l G S hA hS hZ (a := b) (k := 0) (by omega) (by omega)) (c_X8_82 Cx rfl rfl (rmk_ok (by omega) (by decide))) hW (by decide) rfl rfl rfl hl.1 rfl (Nat.le_of_ble_eq_true rfl) dX8_isProgram_140 ⟨Nat.le_of_ble_eq_true rfl, Nat.le_of_ble_eq_true rfl⟩) hL (fun r_65 u_63 H locs k_64 hW hL => ?_)
                              obtain ⟨eu_63, zu_63, pu_63, nu_63⟩ := k_64
                              rw [eu_63] at hW
                              exact sZret Cx hr hlk hW hL (by omega) ⟨b, rfl, by omega, by omega, by omega, (fun h => by rw [hG2]; unfold ogG2; rw [ogW_no (st := fun p => (kd S) p = 10) (nu_59 (by omega)), Option.bind_some]; rw [if_pos (pu_63 h)]), (fun h => by rw [hG2]; unfold ogG2; rw [ogW_no (st := fun p => (kd S) p = 10) (nu_59 (by omega)), Option.bind_some]; rw [if_neg (nu_63 h)])⟩ dX8_isProgram_143
                            · refine lv_aload_n hx hb dX8_isProgram_123 rfl (lv_at hl 1 rfl) ?_
                              refine sBi (sV (As := []) (rest := []) (k := 12) Cx (o_X8_row l G S hA hS hZ (a := b) (by omega) (by have q9 := pu_59 (by omega); omega)) (c_X8_95 Cx rfl rfl (rmk_ok (by omega) (by decide))) hW (by decide) rfl rfl rfl hl.1 rfl (Nat.le_of_ble_eq_true rfl) dX8_isProgram_124 ⟨Nat.le_of_ble_eq_true rfl, Nat.le_of_ble_eq_true rfl⟩) hL (fun r_68 u_66 H locs k_67 hW hL => ?_)
                              obtain ⟨au_66, eu_66, xu_66, yu_66, zu_66, pu_66, nu_66⟩ := k_67
                              rw [eu_66] at hW
                              refine r_if_ne (tgt := 132) hx hb ⟨(by omega), (by omega)⟩ dX8_isProgram_127 (by decide) (fun c_69 => ?_) (fun c_69 => ?_)
                              · refine lv_iinc (v := iv (i2 + 1)) (lv' := [(1, .int (iv (i2 + 1))), (0, .ref (G.2.2.1 + 12))]) hx hb dX8_isProgram_132 hl (k := 0) rfl ((Int32.ofInt_add _ _).symm) (by decide) rfl (fun ls hl => ?_)
                                refine lv_goto (tgt := 106) hx hb dX8_isProgram_135 (by decide) ?_
                                exact ih_106 (i2 + 1) au_66 _ _ _ (by omega) (by have q9 := ogR_inc _ _ (pu_66 (by omega)); omega) (by omega) (by rw [hG2]; unfold ogG2; rw [ogW10 kd_out (pu_59 (by omega)) (pu_66 (by omega))]) hW hL (lv_sub hl [0, 1] rfl)
                              · refine lv_iconst (v := iv 0) hx hb dX8_isProgram_130 (by decide) ?_
                                exact sZret Cx hr hlk hW hL (by omega) ⟨au_66, rfl, by omega, by omega, by omega, (fun h => absurd h (by decide)), (fun _ => by rw [hG2]; unfold ogG2; rw [ogW_fa (st := fun p => (kd S) p = 10) (pu_59 (by omega)) (nu_66 (by omega))]; rfl)⟩ dX8_isProgram_131
                      exact loop_106 (_ + 1) 0 au_54 _ _ _ (Nat.lt_succ_self _) (by omega) (by omega) (by rw [hG, ogW_no (st := fun p => (kd S) p = 6 ∨ (kd S) p = 7 ∨ (kd S) p = 8) (fun z => z.elim (nu_2 (by omega)) (fun z => z.elim (nu_10 (by omega)) (nu_18 (by omega)))), Option.bind_some]; have fu_22 := nu_22 (by omega); have fu_46 := pu_46 (by omega); have fu_50 := pu_50 (by omega); obtain ⟨fu_54, su_54⟩ := pu_54 (by omega); subst au_54; simp only [ogG1, ogG1p, ogT, fu_22, fu_46, fu_50, fu_54, reduceIte, Option.bind_some, Option.bind_none, or_true, true_or, or_self, or_false, false_or, Int.reduceEq, Option.some.injEq, reduceCtorEq]) hW hL (lv_sub hl [0, 1] rfl)
                    · refine lv_iconst (v := iv 0) hx hb dX8_isProgram_102 (by decide) ?_
                      exact sZret Cx hr hlk hW hL (by omega) ⟨au_54, rfl, by omega, by omega, by omega, (fun h => absurd h (by decide)), (fun _ => by rw [hG, ogW_no (st := fun p => (kd S) p = 6 ∨ (kd S) p = 7 ∨ (kd S) p = 8) (fun z => z.elim (nu_2 (by omega)) (fun z => z.elim (nu_10 (by omega)) (nu_18 (by omega)))), Option.bind_some]; have fu_22 := nu_22 (by omega); have fu_46 := pu_46 (by omega); have fu_50 := pu_50 (by omega); obtain ⟨fu_54, su_54⟩ := nu_54 (by omega); subst au_54; simp only [ogG1, ogG1p, ogT, fu_22, fu_46, fu_50, fu_54, reduceIte, Option.bind_some, Option.bind_none, or_true, true_or, or_self, or_false, false_or, Int.reduceEq, Option.some.injEq, reduceCtorEq])⟩ dX8_isProgram_103
                · refine lv_iconst (v := iv 0) hx hb dX8_isProgram_73 (by decide) ?_
                  exact sZret Cx hr hlk hW hL (by omega) ⟨b, rfl, by omega, by omega, by omega, (fun h => absurd h (by decide)), (fun _ => by rw [hG, ogW_no (st := fun p => (kd S) p = 6 ∨ (kd S) p = 7 ∨ (kd S) p = 8) (fun z => z.elim (nu_2 (by omega)) (fun z => z.elim (nu_10 (by omega)) (nu_18 (by omega)))), Option.bind_some]; have fu_22 := nu_22 (by omega); have fu_46 := nu_46 (by omega); simp only [ogG1, ogG1p, ogT, fu_22, fu_46, reduceIte, Option.bind_some, Option.bind_none, or_true, true_or, or_self, or_false, false_or, Int.reduceEq, Option.some.injEq, reduceCtorEq])⟩ dX8_isProgram_74
            · refine lv_aload_n hx hb dX8_isProgram_42 rfl (lv_at hl 1 rfl) ?_
              refine sBi (sV (As := []) (rest := []) (k := 12) Cx (o_X8_declaration l G S hA hS hZ (a := b) (by omega) (by have q9 := pu_18 (by omega); omega)) (c_X8_85 Cx rfl rfl (rmk_ok (by omega) (by decide))) hW (by decide) rfl rfl rfl hl.1 rfl (Nat.le_of_ble_eq_true rfl) dX8_isProgram_43 ⟨Nat.le_of_ble_eq_true rfl, Nat.le_of_ble_eq_true rfl⟩) hL (fun r_72 u_70 H locs k_71 hW hL => ?_)
              obtain ⟨au_70, eu_70, xu_70, yu_70, zu_70, pu_70, nu_70⟩ := k_71
              rw [eu_70] at hW
              refine r_if_ne (tgt := 51) hx hb ⟨(by omega), (by omega)⟩ dX8_isProgram_46 (by decide) (fun c_73 => ?_) (fun c_73 => ?_)
              · refine lv_iinc (v := iv (i + 1)) (lv' := [(1, .int (iv (i + 1))), (0, .ref (G.2.2.1 + 12))]) hx hb dX8_isProgram_51 hl (k := 0) rfl ((Int32.ofInt_add _ _).symm) (by decide) rfl (fun ls hl => ?_)
                refine lv_goto (tgt := 7) hx hb dX8_isProgram_54 (by decide) ?_
                exact ih_7 (i + 1) au_70 _ _ _ (by omega) (by have q9 := ogD_inc _ _ (pu_70 (by omega)); omega) (by omega) (by rw [hG, ogW678 kd_out (.inr (.inr (pu_18 (by omega)))) (pu_70 (by omega))]) hW hL (lv_sub hl [0, 1] rfl)
              · refine lv_iconst (v := iv 0) hx hb dX8_isProgram_49 (by decide) ?_
                exact sZret Cx hr hlk hW hL (by omega) ⟨au_70, rfl, by omega, by omega, by omega, (fun h => absurd h (by decide)), (fun _ => by rw [hG, ogW_fa (st := fun p => (kd S) p = 6 ∨ (kd S) p = 7 ∨ (kd S) p = 8) (.inr (.inr (pu_18 (by omega)))) (nu_70 (by omega))]; rfl)⟩ dX8_isProgram_50
  exact loop_7 (_ + 1) 0 0 _ _ _ (Nat.lt_succ_self _) (by omega) (by omega) rfl hW hL (lv_sub hl [0, 1] rfl)
