def pH (k : Nat) : Bool := rgB 3 4 k || rgB 119 184 k || rgB 193 224 k || Nat.beq k 227
theorem pH_i {k : Nat} (h : (3 ≤ k ∧ k ≤ 4) ∨ (119 ≤ k ∧ k ≤ 184) ∨ (193 ≤ k ∧ k ≤ 224) ∨ k = 227) : pH k = true := by
  rw [pH]
  rcases h with h | h | h | h
  · rw [rgB_i h]; rfl
  · rw [rgB_i h, Bool.or_true]; rfl
  · rw [rgB_i h, Bool.or_true]; rfl
  · rw [h]; rfl
theorem pN_t {k : Nat} (h : pN k = true) : (3 ≤ k ∧ k ≤ 4) ∨ (121 ≤ k ∧ k ≤ 184) ∨ (194 ≤ k ∧ k ≤ 224) ∨ k = 227 := by
  simp only [pN, Bool.or_eq_true] at h
  rcases h with (((((h | h) | h) | h) | h) | h) | h
  all_goals first | (have := rgB_t h; omega) | (have := Nat.eq_of_beq_eq_true h; omega)
theorem pX_H : ∀ k, pX k = true → pH k = true := by
  have a : ∀ k, k < 231 → pX k = true → pH k = true := by decide +kernel
  intro k h
  have := rgB_t (pC_A k (pX_C k h))
  exact a k (by omega) h
theorem pW_H : ∀ k, pW k = true → pH k = true := by
  have a : ∀ k, k < 231 → pW k = true → pH k = true := by decide +kernel
  intro k h
  have := rgB_t (pW_A k h)
  exact a k (by omega) h
theorem pH_C : ∀ k, pH k = true → pC k = true := fun k h => by
  simp only [pH, Bool.or_eq_true] at h
  rw [pC, rgB_i (a := 3) (b := 230) (by rcases h with ((h | h) | h) | h; all_goals first | (have := rgB_t h; omega) | (have := Nat.eq_of_beq_eq_true h; omega)), Bool.or_true]
theorem cX.mod119 {G : sG} {S : sS} {x y : Nat} {b : Int} {o : Nat} (h : cX G S x y b) (m : mdl o) : cX G (uR S 119 7 (.ref (G.2.2.1 + o))) x y b := by
  have eo : ∀ k i, ¬ (k = 119 ∧ i = 7) → (uR S 119 7 (.ref (G.2.2.1 + o))).2.2.2 k i = S.2.2.2 k i := fun k i q => uR_ne q
  obtain ⟨m1, ⟨m2, m3, m4⟩, ⟨m5, m6, m7⟩, ⟨m8, m9, m10⟩, m11, m12⟩ := h.rm
  refine h.putR (show tau 119 = .inl 7 from rfl) (by decide) (by decide) ⟨?_, ⟨m2, m3, by rw [eo _ _ (by decide)]; exact m4⟩, ⟨o, m, uR_on⟩, ⟨m8, m9, by rw [eo _ _ (by decide)]; exact m10⟩, ?_, ?_⟩
  · rw [eo _ _ (by decide), eo _ _ (by decide)]; exact m1
  · rw [eo _ _ (by decide), eo _ _ (by decide)]; exact m11
  · rw [eo _ _ (by decide)]; exact m12
set_option maxRecDepth 100000 in
set_option maxHeartbeats 4000000 in
theorem s_X7_isProved (l : Launch) (G : sG) (S : sS)  (hI : cX G S 0 0 0) : Met l yX7_isProved (.code yX7_isProved cX7_isProved 1 (some .boolean) :: tb) (rmk 1 0 0) (sPc G 294 S [.ref (G.2.2.1 + 119)]) (sQi G 294 (fun r u => u = S ∧ (0 ≤ r ∧ r ≤ 1))) 0 0 (sF G) := by
  refine sEnter (by decide) (Nat.le_of_ble_eq_true rfl) ?_
  intro p e s m args below meth c Cx hr hlk hnm hW ls hl
  have Cx : sC G p m c cX7_isProved 1 s args RX7 := Cx
  obtain ⟨hx, hb, hml, hown, hts⟩ := id Cx.1
  have hL : sL G [] := sL_nil
  have hl : lv_has ls 1 [(0, .ref (G.2.2.1 + 119))] := hl
  have hW0 := hW
  refine lv_aload_n hx hb dX7_isProved_0 rfl (lv_at hl 0 rfl) ?_
  have q_1 : 0 ≤ S.1 119 9 ∧ S.1 119 9 ≤ 6 := hI.fi 119 9 7 (by decide) rfl
  refine g_X7_69 Cx hW (k := 119) (by decide) rfl (v := S.1 119 9) rfl dX7_isProved_1 ?_
  refine lv_iconst (v := iv 2) hx hb dX7_isProved_4 (by decide) ?_
  refine r_icmp_lt (tgt := 20) hx hb ⟨(by omega), (by omega)⟩ ⟨(by omega), (by omega)⟩ dX7_isProved_5 (by decide) (fun c_2 => ?_) (fun c_2 => ?_)
  · refine lv_iconst (v := iv 0) hx hb dX7_isProved_20 (by decide) ?_
    exact sZret Cx hr hlk hW hL (by omega) ⟨rfl, (by omega)⟩ dX7_isProved_21
  · refine lv_aload_n hx hb dX7_isProved_8 rfl (lv_at hl 0 rfl) ?_
    refine g_X7_69 Cx hW (k := 119) (by decide) rfl (v := S.1 119 9) rfl dX7_isProved_9 ?_
    refine lv_iconst (v := iv 4) hx hb dX7_isProved_12 (by decide) ?_
    refine r_icmp_gt (tgt := 20) hx hb ⟨(by omega), (by omega)⟩ ⟨(by omega), (by omega)⟩ dX7_isProved_13 (by decide) (fun c_3 => ?_) (fun c_3 => ?_)
    · refine lv_iconst (v := iv 0) hx hb dX7_isProved_20 (by decide) ?_
      exact sZret Cx hr hlk hW hL (by omega) ⟨rfl, (by omega)⟩ dX7_isProved_21
    · refine lv_iconst (v := iv 1) hx hb dX7_isProved_16 (by decide) ?_
      refine lv_goto (tgt := 21) hx hb dX7_isProved_17 (by decide) ?_
      exact sZret Cx hr hlk hW hL (by omega) ⟨rfl, (by omega)⟩ dX7_isProved_21

set_option maxRecDepth 100000 in
set_option maxHeartbeats 4000000 in
theorem s_X7_state (l : Launch) (G : sG) (S : sS) {k : Int} (hI : cX G S 0 0 0) (hk : -2147483648 ≤ k ∧ k ≤ 2147483647) : Met l yX7_state (.code yX7_state cX7_state 2 (some .int) :: tb) (rmk 3 0 0) (sPc G 294 S [.ref (G.2.2.1 + 119), .int (iv k)]) (sQi G 294 (fun r u => u = S ∧ (-2147483648 ≤ r ∧ r ≤ 2147483647))) 0 0 (sF G) := by
  refine sEnter (by decide) (Nat.le_of_ble_eq_true rfl) ?_
  intro p e s m args below meth c Cx hr hlk hnm hW ls hl
  have Cx : sC G p m c cX7_state 2 s args RX7 := Cx
  obtain ⟨hx, hb, hml, hown, hts⟩ := id Cx.1
  have hL : sL G [] := sL_nil
  have hl : lv_has ls 2 [(0, .ref (G.2.2.1 + 119)), (1, .int (iv k))] := hl
  have hW0 := hW
  refine lv_iload_n hx hb dX7_state_0 rfl (lv_at hl 1 rfl) ?_
  by_cases c_1 : k = 0
  · refine lv_tableIn (off := 51) (tgt := 52) hx hb dX7_state_1 (by rw [c_1]; decide) (by rw [c_1]; decide) (by rw [c_1]; decide) (by decide) ?_
    refine lv_aload_n hx hb dX7_state_52 rfl (lv_at hl 0 rfl) ?_
    have q_2 : 0 ≤ S.1 119 9 ∧ S.1 119 9 ≤ 6 := hI.fi 119 9 7 (by decide) rfl
    refine g_X7_69 Cx hW (k := 119) (by decide) rfl (v := S.1 119 9) rfl dX7_state_53 ?_
    exact sIret Cx hr hlk hW hL ⟨rfl, (by omega)⟩ dX7_state_56
  by_cases c_3 : k = 1
  · refine lv_tableIn (off := 56) (tgt := 57) hx hb dX7_state_1 (by rw [c_3]; decide) (by rw [c_3]; decide) (by rw [c_3]; decide) (by decide) ?_
    refine lv_aload_n hx hb dX7_state_57 rfl (lv_at hl 0 rfl) ?_
    have q_4 : (-2147483648) ≤ S.1 119 10 ∧ S.1 119 10 ≤ 2147483647 := hI.fi 119 10 7 (by decide) rfl
    refine g_X7_72 Cx hW (k := 119) (by decide) rfl (v := S.1 119 10) rfl dX7_state_58 ?_
    exact sIret Cx hr hlk hW hL ⟨rfl, (by omega)⟩ dX7_state_61
  by_cases c_5 : k = 2
  · refine lv_tableIn (off := 61) (tgt := 62) hx hb dX7_state_1 (by rw [c_5]; decide) (by rw [c_5]; decide) (by rw [c_5]; decide) (by decide) ?_
    refine lv_aload_n hx hb dX7_state_62 rfl (lv_at hl 0 rfl) ?_
    have q_6 : 0 ≤ S.1 119 11 ∧ S.1 119 11 ≤ 1000 := hI.fi 119 11 7 (by decide) rfl
    refine g_X7_75 Cx hW (k := 119) (by decide) rfl (v := S.1 119 11) rfl dX7_state_63 ?_
    exact sIret Cx hr hlk hW hL ⟨rfl, (by omega)⟩ dX7_state_66
  by_cases c_7 : k = 3
  · refine lv_tableIn (off := 66) (tgt := 67) hx hb dX7_state_1 (by rw [c_7]; decide) (by rw [c_7]; decide) (by rw [c_7]; decide) (by decide) ?_
    refine lv_aload_n hx hb dX7_state_67 rfl (lv_at hl 0 rfl) ?_
    have q_8 : (-2147483648) ≤ S.1 119 12 ∧ S.1 119 12 ≤ 2147483647 := hI.fi 119 12 7 (by decide) rfl
    refine g_X7_78 Cx hW (k := 119) (by decide) rfl (v := S.1 119 12) rfl dX7_state_68 ?_
    exact sIret Cx hr hlk hW hL ⟨rfl, (by omega)⟩ dX7_state_71
  by_cases c_9 : k = 4
  · refine lv_tableIn (off := 71) (tgt := 72) hx hb dX7_state_1 (by rw [c_9]; decide) (by rw [c_9]; decide) (by rw [c_9]; decide) (by decide) ?_
    refine lv_aload_n hx hb dX7_state_72 rfl (lv_at hl 0 rfl) ?_
    have q_10 : (-2147483648) ≤ S.1 119 13 ∧ S.1 119 13 ≤ 2147483647 := hI.fi 119 13 7 (by decide) rfl
    refine g_X7_81 Cx hW (k := 119) (by decide) rfl (v := S.1 119 13) rfl dX7_state_73 ?_
    exact sIret Cx hr hlk hW hL ⟨rfl, (by omega)⟩ dX7_state_76
  by_cases c_11 : k = 5
  · refine lv_tableIn (off := 76) (tgt := 77) hx hb dX7_state_1 (by rw [c_11]; decide) (by rw [c_11]; decide) (by rw [c_11]; decide) (by decide) ?_
    refine lv_aload_n hx hb dX7_state_77 rfl (lv_at hl 0 rfl) ?_
    refine g_X7_12 Cx hW (k := 119) (by decide) rfl (v := .ref (G.2.2.1 + 120)) (rf_119_0 hI) dX7_state_78 ?_
    have q_12 : 0 ≤ S.1 120 9 ∧ S.1 120 9 ≤ 40 := hI.fi 120 9 6 (by decide) rfl
    refine sBi (sV (As := []) (rest := []) (k := 120) Cx (s_X6_count_120 l G S  hI) (c_X7_98 Cx rfl rfl (rmk_ok (by omega) (by decide))) hW (by decide) rfl rfl rfl hl.1 rfl (Nat.le_of_ble_eq_true rfl) dX7_state_81 ⟨Nat.le_of_ble_eq_true rfl, Nat.le_of_ble_eq_true rfl⟩) hL (fun r_15 u_13 H locs k_14 hW hL => ?_)
    obtain ⟨eu_13, xu_13⟩ := k_14
    rw [eu_13] at hW
    exact sIret Cx hr hlk hW hL ⟨rfl, (by omega)⟩ dX7_state_84
  by_cases c_16 : k = 6
  · refine lv_tableIn (off := 84) (tgt := 85) hx hb dX7_state_1 (by rw [c_16]; decide) (by rw [c_16]; decide) (by rw [c_16]; decide) (by decide) ?_
    refine lv_aload_n hx hb dX7_state_85 rfl (lv_at hl 0 rfl) ?_
    refine g_X7_12 Cx hW (k := 119) (by decide) rfl (v := .ref (G.2.2.1 + 120)) (rf_119_0 hI) dX7_state_86 ?_
    have q_17 : 0 ≤ S.1 120 9 ∧ S.1 120 9 ≤ 40 := hI.fi 120 9 6 (by decide) rfl
    refine sBi (sV (As := []) (rest := []) (k := 120) Cx (s_X6_count_120 l G S  hI) (c_X7_98 Cx rfl rfl (rmk_ok (by omega) (by decide))) hW (by decide) rfl rfl rfl hl.1 rfl (Nat.le_of_ble_eq_true rfl) dX7_state_89 ⟨Nat.le_of_ble_eq_true rfl, Nat.le_of_ble_eq_true rfl⟩) hL (fun r_20 u_18 H locs k_19 hW hL => ?_)
    obtain ⟨eu_18, xu_18⟩ := k_19
    rw [eu_18] at hW
    refine lv_aload_n hx hb dX7_state_92 rfl (lv_at hl 0 rfl) ?_
    obtain ⟨o_21, mo_21, eo_21⟩ := hI.rm.2.2.1
    refine g_X7_51 Cx hW (k := 119) (by decide) rfl (v := .ref (G.2.2.1 + o_21)) eo_21 dX7_state_93 ?_
    have q_22 : 0 ≤ S.1 o_21 3 ∧ S.1 o_21 3 ≤ 16 := hI.fi o_21 3 3 (mdl_k mo_21) mo_21.1
    refine g_X7_102 Cx hW (k := o_21) (mdl_l mo_21) mo_21.1 (v := S.1 o_21 3) rfl dX7_state_96 ?_
    refine r_isub hx hb dX7_state_99 ?_
    exact sIret Cx hr hlk hW hL ⟨rfl, (by omega)⟩ dX7_state_100
  by_cases c_23 : k = 7
  · refine lv_tableIn (off := 100) (tgt := 101) hx hb dX7_state_1 (by rw [c_23]; decide) (by rw [c_23]; decide) (by rw [c_23]; decide) (by decide) ?_
    refine lv_aload_n hx hb dX7_state_101 rfl (lv_at hl 0 rfl) ?_
    have q_24 : 0 ≤ S.1 119 14 ∧ S.1 119 14 ≤ 3 := hI.fi 119 14 7 (by decide) rfl
    refine g_X7_88 Cx hW (k := 119) (by decide) rfl (v := S.1 119 14) rfl dX7_state_102 ?_
    exact sIret Cx hr hlk hW hL ⟨rfl, (by omega)⟩ dX7_state_105
  by_cases c_25 : k = 8
  · refine lv_tableIn (off := 105) (tgt := 106) hx hb dX7_state_1 (by rw [c_25]; decide) (by rw [c_25]; decide) (by rw [c_25]; decide) (by decide) ?_
    refine lv_aload_n hx hb dX7_state_106 rfl (lv_at hl 0 rfl) ?_
    refine sBi (sV (As := []) (rest := []) (k := 119) Cx (s_X7_isProved l G S  hI) (c_X7_104 Cx rfl rfl (rmk_ok (by omega) (by decide))) hW (by decide) rfl rfl rfl hl.1 rfl (Nat.le_of_ble_eq_true rfl) dX7_state_107 ⟨Nat.le_of_ble_eq_true rfl, Nat.le_of_ble_eq_true rfl⟩) hL (fun r_28 u_26 H locs k_27 hW hL => ?_)
    obtain ⟨eu_26, xu_26⟩ := k_27
    rw [eu_26] at hW
    refine r_if_eq (tgt := 123) hx hb ⟨(by omega), (by omega)⟩ dX7_state_110 (by decide) (fun c_29 => ?_) (fun c_29 => ?_)
    · refine lv_iconst (v := iv 0) hx hb dX7_state_123 (by decide) ?_
      exact sIret Cx hr hlk hW hL ⟨rfl, (by omega)⟩ dX7_state_124
    · refine lv_aload_n hx hb dX7_state_113 rfl (lv_at hl 0 rfl) ?_
      refine g_X7_28 Cx hW (k := 119) (by decide) rfl (v := .ref (G.2.2.1 + 157)) (rf_119_2 hI) dX7_state_114 ?_
      refine sBi (sV (As := []) (rest := []) (k := 157) Cx (s_X5_proofLength l G S  hI) (c_X7_107 Cx rfl rfl (rmk_ok (by omega) (by decide))) hW (by decide) rfl rfl rfl hl.1 rfl (Nat.le_of_ble_eq_true rfl) dX7_state_117 ⟨Nat.le_of_ble_eq_true rfl, Nat.le_of_ble_eq_true rfl⟩) hL (fun r_32 u_30 H locs k_31 hW hL => ?_)
      obtain ⟨eu_30, xu_30⟩ := k_31
      rw [eu_30] at hW
      refine lv_goto (tgt := 124) hx hb dX7_state_120 (by decide) ?_
      exact sIret Cx hr hlk hW hL ⟨rfl, (by omega)⟩ dX7_state_124
  refine lv_tableOut (tgt := 125) hx hb dX7_state_1 (by rw [iv_toInt ⟨(by omega), (by omega)⟩]; omega) (by decide) ?_
  refine lv_iconst (v := iv (-1)) hx hb dX7_state_125 (by decide) ?_
  exact sIret Cx hr hlk hW hL ⟨rfl, (by omega)⟩ dX7_state_126
