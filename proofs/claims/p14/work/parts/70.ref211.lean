/-! The reference reads: tokens -/
/-- the first T tokens stand in the text -/
def dTP (S : sS) (T : Int) : Prop := ∀ t, 0 ≤ t → t < T → (0 ≤ S.2.1 245 t ∧ 0 ≤ S.2.1 246 t ∧ S.2.1 245 t + S.2.1 246 t ≤ S.1 231 14) ∧ (S.2.1 244 t = 2 → 0 ≤ S.2.1 247 t ∧ S.2.1 247 t ≤ 99999)
def dTE (S : sS) (T : Int) : Prop := ∀ t, 0 ≤ t → t < T → 1 ≤ S.2.1 244 t ∧ S.2.1 244 t ≤ 4
def dTO (S : sS) : Prop := (1 ≤ S.1 231 19 ∧ S.1 231 19 ≤ S.1 231 14 + 1) ∧ dTP S (S.1 231 19) ∧ dTE S (S.1 231 19 - 1) ∧ (S.2.1 244 (S.1 231 19 - 1) = 5 ∨ S.2.1 244 (S.1 231 19 - 1) = 6)
def tkR (S u : sS) (T k f w v : Int) : Prop := (∀ x, u.2.1 244 x = if x = T then k else S.2.1 244 x) ∧ (∀ x, u.2.1 245 x = if x = T then f else S.2.1 245 x) ∧ (∀ x, u.2.1 246 x = if x = T then w else S.2.1 246 x) ∧ ∀ x, u.2.1 247 x = if x = T then v else S.2.1 247 x
theorem dTP.tok {S u : sS} {T k f w v : Int} (h : dTP S T) (r : tkR S u T k f w v) (e : u.1 231 14 = S.1 231 14) (hf : 0 ≤ f ∧ 0 ≤ w ∧ f + w ≤ S.1 231 14) (hv : k = 2 → 0 ≤ v ∧ v ≤ 99999) : dTP u (T + 1) := fun t t0 t1 => by
  rw [r.1, r.2.1, r.2.2.1, r.2.2.2, e]
  by_cases q : t = T
  · simp only [if_pos q]; exact ⟨hf, hv⟩
  · simp only [if_neg q]; exact h t t0 (by omega)
theorem dTE.tok {S u : sS} {T k f w v : Int} (h : dTE S T) (r : tkR S u T k f w v) : dTE u T := fun t t0 t1 => by
  rw [r.1, if_neg (by omega)]; exact h t t0 t1
theorem dTE.one {S : sS} {T : Int} (h : dTE S T) (hk : 1 ≤ S.2.1 244 T ∧ S.2.1 244 T ≤ 4) : dTE S (T + 1) := fun t t0 t1 => by
  by_cases q : t = T
  · rw [q]; exact hk
  · exact h t t0 (by omega)
theorem dTO.mk1 {S : sS} {T : Int} (e : S.1 231 19 = T + 1) (h0 : 0 ≤ T ∧ T ≤ S.1 231 14) (h1 : dTP S (T + 1)) (h2 : dTE S T) (h3 : S.2.1 244 T = 5 ∨ S.2.1 244 T = 6) : dTO S := by
  unfold dTO; rw [e, show T + 1 - 1 = T by omega]; exact ⟨by omega, h1, h2, h3⟩
theorem dTO.end {S u : sS} (h : dTO S) (e14 : u.1 231 14 = S.1 231 14) (e19 : u.1 231 19 = S.1 231 19) (a244 : ∀ x, x < S.1 231 19 → u.2.1 244 x = S.2.1 244 x) (a245 : u.2.1 245 = S.2.1 245) (a246 : u.2.1 246 = S.2.1 246) (a247 : u.2.1 247 = S.2.1 247) : dTO u := by
  obtain ⟨h0, h1, h2, h3⟩ := h
  unfold dTO
  rw [e14, e19, a244 _ (by omega)]
  refine ⟨h0, fun t t0 t1 => ?_, fun t t0 t1 => ?_, h3⟩
  · rw [e14, a245, a246, a247, a244 _ t1]; exact h1 t t0 t1
  · rw [a244 _ (by omega)]; exact h2 t t0 t1
set_option maxRecDepth 100000 in
set_option maxHeartbeats 4000000 in
theorem s_X12_isLetter (l : Launch) (G : sG) (S : sS) {ch : Int} (hch : -2147483648 ≤ ch ∧ ch ≤ 2147483647) : Met l yX12_isLetter (.code yX12_isLetter cX12_isLetter 1 (some .boolean) :: tb) (rmk 1 0 0) (sPc G 294 S [.int (iv ch)]) (sQi G 294 (fun r u => u = S ∧ ((0 ≤ r ∧ r ≤ 1) ∧ (r = 1 ↔ ((97 ≤ ch ∧ ch ≤ 122) ∨ (65 ≤ ch ∧ ch ≤ 90)))))) 0 0 (sF G) := by
  refine sEnter (by decide) (Nat.le_of_ble_eq_true rfl) ?_
  intro p e s m args below meth c Cx hr hlk hnm hW ls hl
  have Cx : sC G p m c cX12_isLetter 1 s args RX12 := Cx
  obtain ⟨hx, hb, hml, hown, hts⟩ := id Cx.1
  have hL : sL G [] := sL_nil
  have hl : lv_has ls 1 [(0, .int (iv ch))] := hl
  have hW0 := hW
  refine lv_iload_n hx hb dX12_isLetter_0 rfl (lv_at hl 0 rfl) ?_
  refine lv_bipush (v := iv 97) hx hb dX12_isLetter_1 (by decide) ?_
  refine r_icmp_lt (tgt := 12) hx hb ⟨(by omega), (by omega)⟩ ⟨(by omega), (by omega)⟩ dX12_isLetter_3 (by decide) (fun c_1 => ?_) (fun c_1 => ?_)
  · refine lv_iload_n hx hb dX12_isLetter_12 rfl (lv_at hl 0 rfl) ?_
    refine lv_bipush (v := iv 65) hx hb dX12_isLetter_13 (by decide) ?_
    refine r_icmp_lt (tgt := 28) hx hb ⟨(by omega), (by omega)⟩ ⟨(by omega), (by omega)⟩ dX12_isLetter_15 (by decide) (fun c_2 => ?_) (fun c_2 => ?_)
    · refine lv_iconst (v := iv 0) hx hb dX12_isLetter_28 (by decide) ?_
      exact sZret Cx hr hlk hW hL (by omega) ⟨rfl, (by omega)⟩ dX12_isLetter_29
    · refine lv_iload_n hx hb dX12_isLetter_18 rfl (lv_at hl 0 rfl) ?_
      refine lv_bipush (v := iv 90) hx hb dX12_isLetter_19 (by decide) ?_
      refine r_icmp_gt (tgt := 28) hx hb ⟨(by omega), (by omega)⟩ ⟨(by omega), (by omega)⟩ dX12_isLetter_21 (by decide) (fun c_3 => ?_) (fun c_3 => ?_)
      · refine lv_iconst (v := iv 0) hx hb dX12_isLetter_28 (by decide) ?_
        exact sZret Cx hr hlk hW hL (by omega) ⟨rfl, (by omega)⟩ dX12_isLetter_29
      · refine lv_iconst (v := iv 1) hx hb dX12_isLetter_24 (by decide) ?_
        refine lv_goto (tgt := 29) hx hb dX12_isLetter_25 (by decide) ?_
        exact sZret Cx hr hlk hW hL (by omega) ⟨rfl, (by omega)⟩ dX12_isLetter_29
  · refine lv_iload_n hx hb dX12_isLetter_6 rfl (lv_at hl 0 rfl) ?_
    refine lv_bipush (v := iv 122) hx hb dX12_isLetter_7 (by decide) ?_
    refine r_icmp_le (tgt := 24) hx hb ⟨(by omega), (by omega)⟩ ⟨(by omega), (by omega)⟩ dX12_isLetter_9 (by decide) (fun c_4 => ?_) (fun c_4 => ?_)
    · refine lv_iconst (v := iv 1) hx hb dX12_isLetter_24 (by decide) ?_
      refine lv_goto (tgt := 29) hx hb dX12_isLetter_25 (by decide) ?_
      exact sZret Cx hr hlk hW hL (by omega) ⟨rfl, (by omega)⟩ dX12_isLetter_29
    · refine lv_iload_n hx hb dX12_isLetter_12 rfl (lv_at hl 0 rfl) ?_
      refine lv_bipush (v := iv 65) hx hb dX12_isLetter_13 (by decide) ?_
      refine r_icmp_lt (tgt := 28) hx hb ⟨(by omega), (by omega)⟩ ⟨(by omega), (by omega)⟩ dX12_isLetter_15 (by decide) (fun c_5 => ?_) (fun c_5 => ?_)
      · refine lv_iconst (v := iv 0) hx hb dX12_isLetter_28 (by decide) ?_
        exact sZret Cx hr hlk hW hL (by omega) ⟨rfl, (by omega)⟩ dX12_isLetter_29
      · refine lv_iload_n hx hb dX12_isLetter_18 rfl (lv_at hl 0 rfl) ?_
        refine lv_bipush (v := iv 90) hx hb dX12_isLetter_19 (by decide) ?_
        refine r_icmp_gt (tgt := 28) hx hb ⟨(by omega), (by omega)⟩ ⟨(by omega), (by omega)⟩ dX12_isLetter_21 (by decide) (fun c_6 => ?_) (fun c_6 => ?_)
        · refine lv_iconst (v := iv 0) hx hb dX12_isLetter_28 (by decide) ?_
          exact sZret Cx hr hlk hW hL (by omega) ⟨rfl, (by omega)⟩ dX12_isLetter_29
        · refine lv_iconst (v := iv 1) hx hb dX12_isLetter_24 (by decide) ?_
          refine lv_goto (tgt := 29) hx hb dX12_isLetter_25 (by decide) ?_
          exact sZret Cx hr hlk hW hL (by omega) ⟨rfl, (by omega)⟩ dX12_isLetter_29

set_option maxRecDepth 100000 in
set_option maxHeartbeats 4000000 in
theorem s_X12_isDigit (l : Launch) (G : sG) (S : sS) {ch : Int} (hch : -2147483648 ≤ ch ∧ ch ≤ 2147483647) : Met l yX12_isDigit (.code yX12_isDigit cX12_isDigit 1 (some .boolean) :: tb) (rmk 1 0 0) (sPc G 294 S [.int (iv ch)]) (sQi G 294 (fun r u => u = S ∧ ((0 ≤ r ∧ r ≤ 1) ∧ (r = 1 ↔ (48 ≤ ch ∧ ch ≤ 57))))) 0 0 (sF G) := by
  refine sEnter (by decide) (Nat.le_of_ble_eq_true rfl) ?_
  intro p e s m args below meth c Cx hr hlk hnm hW ls hl
  have Cx : sC G p m c cX12_isDigit 1 s args RX12 := Cx
  obtain ⟨hx, hb, hml, hown, hts⟩ := id Cx.1
  have hL : sL G [] := sL_nil
  have hl : lv_has ls 1 [(0, .int (iv ch))] := hl
  have hW0 := hW
  refine lv_iload_n hx hb dX12_isDigit_0 rfl (lv_at hl 0 rfl) ?_
  refine lv_bipush (v := iv 48) hx hb dX12_isDigit_1 (by decide) ?_
  refine r_icmp_lt (tgt := 16) hx hb ⟨(by omega), (by omega)⟩ ⟨(by omega), (by omega)⟩ dX12_isDigit_3 (by decide) (fun c_1 => ?_) (fun c_1 => ?_)
  · refine lv_iconst (v := iv 0) hx hb dX12_isDigit_16 (by decide) ?_
    exact sZret Cx hr hlk hW hL (by omega) ⟨rfl, (by omega)⟩ dX12_isDigit_17
  · refine lv_iload_n hx hb dX12_isDigit_6 rfl (lv_at hl 0 rfl) ?_
    refine lv_bipush (v := iv 57) hx hb dX12_isDigit_7 (by decide) ?_
    refine r_icmp_gt (tgt := 16) hx hb ⟨(by omega), (by omega)⟩ ⟨(by omega), (by omega)⟩ dX12_isDigit_9 (by decide) (fun c_2 => ?_) (fun c_2 => ?_)
    · refine lv_iconst (v := iv 0) hx hb dX12_isDigit_16 (by decide) ?_
      exact sZret Cx hr hlk hW hL (by omega) ⟨rfl, (by omega)⟩ dX12_isDigit_17
    · refine lv_iconst (v := iv 1) hx hb dX12_isDigit_12 (by decide) ?_
      refine lv_goto (tgt := 17) hx hb dX12_isDigit_13 (by decide) ?_
      exact sZret Cx hr hlk hW hL (by omega) ⟨rfl, (by omega)⟩ dX12_isDigit_17

set_option maxRecDepth 100000 in
set_option maxHeartbeats 4000000 in
theorem s_X12_at (l : Launch) (G : sG) (S : sS) {a : Int} (hI : dX G S) (ha : 0 ≤ a ∧ a ≤ 2147483647) (h14 : 0 ≤ S.1 231 14 ∧ S.1 231 14 ≤ 30000) : Met l yX12_at (.code yX12_at cX12_at 2 (some .int) :: tb) (rmk 1 0 0) (sPc G 294 S [.ref (G.2.2.1 + 231), .int (iv a)]) (sQi G 294 (fun r u => u = S ∧ ((-128 ≤ r ∧ r ≤ 127) ∧ (r ≠ 0 → a < S.1 231 14) ∧ Hd (a < S.1 231 14 → r = S.2.1 243 a)))) 0 0 (sF G) := by
  refine sEnter (by decide) (Nat.le_of_ble_eq_true rfl) ?_
  intro p e s m args below meth c Cx hr hlk hnm hW ls hl
  have Cx : sC G p m c cX12_at 2 s args RX12 := Cx
  obtain ⟨hx, hb, hml, hown, hts⟩ := id Cx.1
  have hL : sL G [] := sL_nil
  have hl : lv_has ls 2 [(0, .ref (G.2.2.1 + 231)), (1, .int (iv a))] := hl
  have hW0 := hW
  refine lv_iload_n hx hb dX12_at_0 rfl (lv_at hl 1 rfl) ?_
  refine lv_aload_n hx hb dX12_at_1 rfl (lv_at hl 0 rfl) ?_
  have q_1 : (-2147483648) ≤ S.1 231 14 ∧ S.1 231 14 ≤ 2147483647 := hI.fi 14
  refine g_X12_276 Cx hW (k := 231) (by decide) rfl (v := S.1 231 14) rfl dX12_at_2 ?_
  refine r_icmp_ge (tgt := 17) hx hb ⟨(by omega), (by omega)⟩ ⟨(by omega), (by omega)⟩ dX12_at_5 (by decide) (fun c_2 => ?_) (fun c_2 => ?_)
  · refine lv_iconst (v := iv 0) hx hb dX12_at_17 (by decide) ?_
    exact sIret Cx hr hlk hW hL ⟨rfl, ⟨(by omega), (by omega), (fun q => absurd q (by omega))⟩⟩ dX12_at_18
  · refine lv_aload_n hx hb dX12_at_8 rfl (lv_at hl 0 rfl) ?_
    refine g_X12_44 Cx hW (k := 231) (by decide) rfl (v := .ref (G.2.2.1 + 243)) (rd_13 hI) dX12_at_9 ?_
    refine lv_iload_n hx hb dX12_at_12 rfl (lv_at hl 1 rfl) ?_
    refine rBald Cx hW (k := 243) (by decide) rfl (by decide) (by omega) (by omega) dX12_at_13 ?_
    have q_3 : (-128) ≤ S.2.1 243 a ∧ S.2.1 243 a ≤ 127 := hI.ai 243 a
    refine r_i (b := S.2.1 243 a) rfl ?_
    refine lv_goto (tgt := 18) hx hb dX12_at_14 (by decide) ?_
    exact sIret Cx hr hlk hW hL ⟨rfl, ⟨(by omega), (by omega), (fun _ => rfl)⟩⟩ dX12_at_18

set_option maxRecDepth 100000 in
set_option maxHeartbeats 4000000 in
theorem s_X12_signAt (l : Launch) (G : sG) (S : sS) {a : Int} (hI : dX G S) (ha : 0 ≤ a ∧ a ≤ 30000) (h14 : 0 ≤ S.1 231 14 ∧ S.1 231 14 ≤ 30000) : Met l yX12_signAt (.code yX12_signAt cX12_signAt 3 (some .int) :: tb) (rmk 2 0 0) (sPc G 294 S [.ref (G.2.2.1 + 231), .int (iv a)]) (sQi G 294 (fun r u => u = S ∧ ((0 ≤ r ∧ r ≤ 125) ∧ (1 ≤ r ∧ r ≤ 3 → a + 1 < S.1 231 14)))) 0 0 (sF G) := by
  refine sEnter (by decide) (Nat.le_of_ble_eq_true rfl) ?_
  intro p e s m args below meth c Cx hr hlk hnm hW ls hl
  have Cx : sC G p m c cX12_signAt 3 s args RX12 := Cx
  obtain ⟨hx, hb, hml, hown, hts⟩ := id Cx.1
  have hL : sL G [] := sL_nil
  have hl : lv_has ls 3 [(0, .ref (G.2.2.1 + 231)), (1, .int (iv a))] := hl
  have hW0 := hW
  refine lv_aload_n hx hb dX12_signAt_0 rfl (lv_at hl 0 rfl) ?_
  refine lv_iload_n hx hb dX12_signAt_1 rfl (lv_at hl 1 rfl) ?_
  have q_1 : (-2147483648) ≤ S.1 231 14 ∧ S.1 231 14 ≤ 2147483647 := hI.fi 14
  refine sBi (sV (As := [.int (iv a)]) (rest := []) (k := 231) Cx (s_X12_at l G S (a := a) hI (by omega) (by omega)) (c_X12_292 Cx rfl rfl (rmk_ok (by omega) (by decide))) hW (by decide) rfl rfl rfl hl.1 rfl (Nat.le_of_ble_eq_true rfl) dX12_signAt_2 ⟨Nat.le_of_ble_eq_true rfl, Nat.le_of_ble_eq_true rfl⟩) hL (fun r_4 u_2 H locs k_3 hW hL => ?_)
  obtain ⟨eu_2, xu_2⟩ := k_3
  rw [eu_2] at hW
  refine lv_istore_n (lv' := [(2, .int (iv r_4)), (0, .ref (G.2.2.1 + 231)), (1, .int (iv a))]) hx hb dX12_signAt_5 rfl hl (by decide) rfl (fun ls hl => ?_)
  refine lv_iload_n hx hb dX12_signAt_6 rfl (lv_at hl 0 rfl) ?_
  by_cases c_5 : r_4 = 40
  · refine lv_tableIn (off := 229) (tgt := 236) hx hb dX12_signAt_7 (by rw [c_5]; decide) (by rw [c_5]; decide) (by rw [c_5]; decide) (by decide) ?_
    refine lv_iload_n hx hb dX12_signAt_236 rfl (lv_at hl 0 rfl) ?_
    exact sIret Cx hr hlk hW hL ⟨rfl, (by omega)⟩ dX12_signAt_237
  by_cases c_6 : r_4 = 41
  · refine lv_tableIn (off := 229) (tgt := 236) hx hb dX12_signAt_7 (by rw [c_6]; decide) (by rw [c_6]; decide) (by rw [c_6]; decide) (by decide) ?_
    refine lv_iload_n hx hb dX12_signAt_236 rfl (lv_at hl 0 rfl) ?_
    exact sIret Cx hr hlk hW hL ⟨rfl, (by omega)⟩ dX12_signAt_237
  by_cases c_7 : r_4 = 42
  · refine lv_tableIn (off := 229) (tgt := 236) hx hb dX12_signAt_7 (by rw [c_7]; decide) (by rw [c_7]; decide) (by rw [c_7]; decide) (by decide) ?_
    refine lv_iload_n hx hb dX12_signAt_236 rfl (lv_at hl 0 rfl) ?_
    exact sIret Cx hr hlk hW hL ⟨rfl, (by omega)⟩ dX12_signAt_237
  by_cases c_8 : r_4 = 43
  · refine lv_tableIn (off := 229) (tgt := 236) hx hb dX12_signAt_7 (by rw [c_8]; decide) (by rw [c_8]; decide) (by rw [c_8]; decide) (by decide) ?_
    refine lv_iload_n hx hb dX12_signAt_236 rfl (lv_at hl 0 rfl) ?_
    exact sIret Cx hr hlk hW hL ⟨rfl, (by omega)⟩ dX12_signAt_237
  by_cases c_9 : r_4 = 44
  · refine lv_tableIn (off := 229) (tgt := 236) hx hb dX12_signAt_7 (by rw [c_9]; decide) (by rw [c_9]; decide) (by rw [c_9]; decide) (by decide) ?_
    refine lv_iload_n hx hb dX12_signAt_236 rfl (lv_at hl 0 rfl) ?_
    exact sIret Cx hr hlk hW hL ⟨rfl, (by omega)⟩ dX12_signAt_237
  by_cases c_10 : r_4 = 45
  · refine lv_tableIn (off := 229) (tgt := 236) hx hb dX12_signAt_7 (by rw [c_10]; decide) (by rw [c_10]; decide) (by rw [c_10]; decide) (by decide) ?_
    refine lv_iload_n hx hb dX12_signAt_236 rfl (lv_at hl 0 rfl) ?_
    exact sIret Cx hr hlk hW hL ⟨rfl, (by omega)⟩ dX12_signAt_237
  by_cases c_11 : r_4 = 46
  · refine lv_tableIn (off := 231) (tgt := 238) hx hb dX12_signAt_7 (by rw [c_11]; decide) (by rw [c_11]; decide) (by rw [c_11]; decide) (by decide) ?_
    refine lv_aload_n hx hb dX12_signAt_238 rfl (lv_at hl 1 rfl) ?_
    refine lv_iload_n hx hb dX12_signAt_239 rfl (lv_at hl 2 rfl) ?_
    refine lv_iconst (v := iv 1) hx hb dX12_signAt_240 (by decide) ?_
    refine r_iadd hx hb dX12_signAt_241 ?_
    refine sBi (sV (As := [.int (iv (a + 1))]) (rest := []) (k := 231) Cx (s_X12_at l G S (a := a + 1) hI (by omega) (by omega)) (c_X12_292 Cx rfl rfl (rmk_ok (by omega) (by decide))) hW (by decide) rfl rfl rfl hl.1 rfl (Nat.le_of_ble_eq_true rfl) dX12_signAt_242 ⟨Nat.le_of_ble_eq_true rfl, Nat.le_of_ble_eq_true rfl⟩) hL (fun r_14 u_12 H locs k_13 hW hL => ?_)
    obtain ⟨eu_12, xu_12⟩ := k_13
    rw [eu_12] at hW
    refine lv_bipush (v := iv 46) hx hb dX12_signAt_245 (by decide) ?_
    refine r_icmp_ne (tgt := 254) hx hb ⟨(by omega), (by omega)⟩ ⟨(by omega), (by omega)⟩ dX12_signAt_247 (by decide) (fun c_15 => ?_) (fun c_15 => ?_)
    · refine lv_iconst (v := iv 0) hx hb dX12_signAt_254 (by decide) ?_
      exact sIret Cx hr hlk hW hL ⟨rfl, (by omega)⟩ dX12_signAt_255
    · refine lv_iconst (v := iv 1) hx hb dX12_signAt_250 (by decide) ?_
      refine lv_goto (tgt := 255) hx hb dX12_signAt_251 (by decide) ?_
      exact sIret Cx hr hlk hW hL ⟨rfl, (by omega)⟩ dX12_signAt_255
  by_cases c_16 : r_4 = 47
  · refine lv_tableIn (off := 285) (tgt := 292) hx hb dX12_signAt_7 (by rw [c_16]; decide) (by rw [c_16]; decide) (by rw [c_16]; decide) (by decide) ?_
    refine lv_iconst (v := iv 0) hx hb dX12_signAt_292 (by decide) ?_
    exact sIret Cx hr hlk hW hL ⟨rfl, (by omega)⟩ dX12_signAt_293
  by_cases c_17 : r_4 = 48
  · refine lv_tableIn (off := 285) (tgt := 292) hx hb dX12_signAt_7 (by rw [c_17]; decide) (by rw [c_17]; decide) (by rw [c_17]; decide) (by decide) ?_
    refine lv_iconst (v := iv 0) hx hb dX12_signAt_292 (by decide) ?_
    exact sIret Cx hr hlk hW hL ⟨rfl, (by omega)⟩ dX12_signAt_293
  by_cases c_18 : r_4 = 49
  · refine lv_tableIn (off := 285) (tgt := 292) hx hb dX12_signAt_7 (by rw [c_18]; decide) (by rw [c_18]; decide) (by rw [c_18]; decide) (by decide) ?_
    refine lv_iconst (v := iv 0) hx hb dX12_signAt_292 (by decide) ?_
    exact sIret Cx hr hlk hW hL ⟨rfl, (by omega)⟩ dX12_signAt_293
  by_cases c_19 : r_4 = 50
  · refine lv_tableIn (off := 285) (tgt := 292) hx hb dX12_signAt_7 (by rw [c_19]; decide) (by rw [c_19]; decide) (by rw [c_19]; decide) (by decide) ?_
    refine lv_iconst (v := iv 0) hx hb dX12_signAt_292 (by decide) ?_
    exact sIret Cx hr hlk hW hL ⟨rfl, (by omega)⟩ dX12_signAt_293
  by_cases c_20 : r_4 = 51
  · refine lv_tableIn (off := 285) (tgt := 292) hx hb dX12_signAt_7 (by rw [c_20]; decide) (by rw [c_20]; decide) (by rw [c_20]; decide) (by decide) ?_
    refine lv_iconst (v := iv 0) hx hb dX12_signAt_292 (by decide) ?_
    exact sIret Cx hr hlk hW hL ⟨rfl, (by omega)⟩ dX12_signAt_293
  by_cases c_21 : r_4 = 52
  · refine lv_tableIn (off := 285) (tgt := 292) hx hb dX12_signAt_7 (by rw [c_21]; decide) (by rw [c_21]; decide) (by rw [c_21]; decide) (by decide) ?_
    refine lv_iconst (v := iv 0) hx hb dX12_signAt_292 (by decide) ?_
    exact sIret Cx hr hlk hW hL ⟨rfl, (by omega)⟩ dX12_signAt_293
  by_cases c_22 : r_4 = 53
  · refine lv_tableIn (off := 285) (tgt := 292) hx hb dX12_signAt_7 (by rw [c_22]; decide) (by rw [c_22]; decide) (by rw [c_22]; decide) (by decide) ?_
    refine lv_iconst (v := iv 0) hx hb dX12_signAt_292 (by decide) ?_
    exact sIret Cx hr hlk hW hL ⟨rfl, (by omega)⟩ dX12_signAt_293
  by_cases c_23 : r_4 = 54
  · refine lv_tableIn (off := 285) (tgt := 292) hx hb dX12_signAt_7 (by rw [c_23]; decide) (by rw [c_23]; decide) (by rw [c_23]; decide) (by decide) ?_
    refine lv_iconst (v := iv 0) hx hb dX12_signAt_292 (by decide) ?_
    exact sIret Cx hr hlk hW hL ⟨rfl, (by omega)⟩ dX12_signAt_293
  by_cases c_24 : r_4 = 55
  · refine lv_tableIn (off := 285) (tgt := 292) hx hb dX12_signAt_7 (by rw [c_24]; decide) (by rw [c_24]; decide) (by rw [c_24]; decide) (by decide) ?_
    refine lv_iconst (v := iv 0) hx hb dX12_signAt_292 (by decide) ?_
    exact sIret Cx hr hlk hW hL ⟨rfl, (by omega)⟩ dX12_signAt_293
  by_cases c_25 : r_4 = 56
  · refine lv_tableIn (off := 285) (tgt := 292) hx hb dX12_signAt_7 (by rw [c_25]; decide) (by rw [c_25]; decide) (by rw [c_25]; decide) (by decide) ?_
    refine lv_iconst (v := iv 0) hx hb dX12_signAt_292 (by decide) ?_
    exact sIret Cx hr hlk hW hL ⟨rfl, (by omega)⟩ dX12_signAt_293
  by_cases c_26 : r_4 = 57
  · refine lv_tableIn (off := 285) (tgt := 292) hx hb dX12_signAt_7 (by rw [c_26]; decide) (by rw [c_26]; decide) (by rw [c_26]; decide) (by decide) ?_
    refine lv_iconst (v := iv 0) hx hb dX12_signAt_292 (by decide) ?_
    exact sIret Cx hr hlk hW hL ⟨rfl, (by omega)⟩ dX12_signAt_293
  by_cases c_27 : r_4 = 58
  · refine lv_tableIn (off := 229) (tgt := 236) hx hb dX12_signAt_7 (by rw [c_27]; decide) (by rw [c_27]; decide) (by rw [c_27]; decide) (by decide) ?_
    refine lv_iload_n hx hb dX12_signAt_236 rfl (lv_at hl 0 rfl) ?_
    exact sIret Cx hr hlk hW hL ⟨rfl, (by omega)⟩ dX12_signAt_237
  by_cases c_28 : r_4 = 59
  · refine lv_tableIn (off := 229) (tgt := 236) hx hb dX12_signAt_7 (by rw [c_28]; decide) (by rw [c_28]; decide) (by rw [c_28]; decide) (by decide) ?_
    refine lv_iload_n hx hb dX12_signAt_236 rfl (lv_at hl 0 rfl) ?_
    exact sIret Cx hr hlk hW hL ⟨rfl, (by omega)⟩ dX12_signAt_237
  by_cases c_29 : r_4 = 60
  · refine lv_tableIn (off := 249) (tgt := 256) hx hb dX12_signAt_7 (by rw [c_29]; decide) (by rw [c_29]; decide) (by rw [c_29]; decide) (by decide) ?_
    refine lv_aload_n hx hb dX12_signAt_256 rfl (lv_at hl 1 rfl) ?_
    refine lv_iload_n hx hb dX12_signAt_257 rfl (lv_at hl 2 rfl) ?_
    refine lv_iconst (v := iv 1) hx hb dX12_signAt_258 (by decide) ?_
    refine r_iadd hx hb dX12_signAt_259 ?_
    refine sBi (sV (As := [.int (iv (a + 1))]) (rest := []) (k := 231) Cx (s_X12_at l G S (a := a + 1) hI (by omega) (by omega)) (c_X12_292 Cx rfl rfl (rmk_ok (by omega) (by decide))) hW (by decide) rfl rfl rfl hl.1 rfl (Nat.le_of_ble_eq_true rfl) dX12_signAt_260 ⟨Nat.le_of_ble_eq_true rfl, Nat.le_of_ble_eq_true rfl⟩) hL (fun r_32 u_30 H locs k_31 hW hL => ?_)
    obtain ⟨eu_30, xu_30⟩ := k_31
    rw [eu_30] at hW
    refine lv_bipush (v := iv 61) hx hb dX12_signAt_263 (by decide) ?_
    refine r_icmp_ne (tgt := 272) hx hb ⟨(by omega), (by omega)⟩ ⟨(by omega), (by omega)⟩ dX12_signAt_265 (by decide) (fun c_33 => ?_) (fun c_33 => ?_)
    · refine lv_iconst (v := iv 0) hx hb dX12_signAt_272 (by decide) ?_
      exact sIret Cx hr hlk hW hL ⟨rfl, (by omega)⟩ dX12_signAt_273
    · refine lv_iconst (v := iv 2) hx hb dX12_signAt_268 (by decide) ?_
      refine lv_goto (tgt := 273) hx hb dX12_signAt_269 (by decide) ?_
      exact sIret Cx hr hlk hW hL ⟨rfl, (by omega)⟩ dX12_signAt_273
  by_cases c_34 : r_4 = 61
  · refine lv_tableIn (off := 229) (tgt := 236) hx hb dX12_signAt_7 (by rw [c_34]; decide) (by rw [c_34]; decide) (by rw [c_34]; decide) (by decide) ?_
    refine lv_iload_n hx hb dX12_signAt_236 rfl (lv_at hl 0 rfl) ?_
    exact sIret Cx hr hlk hW hL ⟨rfl, (by omega)⟩ dX12_signAt_237
  by_cases c_35 : r_4 = 62
  · refine lv_tableIn (off := 267) (tgt := 274) hx hb dX12_signAt_7 (by rw [c_35]; decide) (by rw [c_35]; decide) (by rw [c_35]; decide) (by decide) ?_
    refine lv_aload_n hx hb dX12_signAt_274 rfl (lv_at hl 1 rfl) ?_
    refine lv_iload_n hx hb dX12_signAt_275 rfl (lv_at hl 2 rfl) ?_
    refine lv_iconst (v := iv 1) hx hb dX12_signAt_276 (by decide) ?_
    refine r_iadd hx hb dX12_signAt_277 ?_
    refine sBi (sV (As := [.int (iv (a + 1))]) (rest := []) (k := 231) Cx (s_X12_at l G S (a := a + 1) hI (by omega) (by omega)) (c_X12_292 Cx rfl rfl (rmk_ok (by omega) (by decide))) hW (by decide) rfl rfl rfl hl.1 rfl (Nat.le_of_ble_eq_true rfl) dX12_signAt_278 ⟨Nat.le_of_ble_eq_true rfl, Nat.le_of_ble_eq_true rfl⟩) hL (fun r_38 u_36 H locs k_37 hW hL => ?_)
    obtain ⟨eu_36, xu_36⟩ := k_37
    rw [eu_36] at hW
    refine lv_bipush (v := iv 61) hx hb dX12_signAt_281 (by decide) ?_
    refine r_icmp_ne (tgt := 290) hx hb ⟨(by omega), (by omega)⟩ ⟨(by omega), (by omega)⟩ dX12_signAt_283 (by decide) (fun c_39 => ?_) (fun c_39 => ?_)
    · refine lv_iconst (v := iv 0) hx hb dX12_signAt_290 (by decide) ?_
      exact sIret Cx hr hlk hW hL ⟨rfl, (by omega)⟩ dX12_signAt_291
    · refine lv_iconst (v := iv 3) hx hb dX12_signAt_286 (by decide) ?_
      refine lv_goto (tgt := 291) hx hb dX12_signAt_287 (by decide) ?_
      exact sIret Cx hr hlk hW hL ⟨rfl, (by omega)⟩ dX12_signAt_291
  by_cases c_40 : r_4 = 63
  · refine lv_tableIn (off := 285) (tgt := 292) hx hb dX12_signAt_7 (by rw [c_40]; decide) (by rw [c_40]; decide) (by rw [c_40]; decide) (by decide) ?_
    refine lv_iconst (v := iv 0) hx hb dX12_signAt_292 (by decide) ?_
    exact sIret Cx hr hlk hW hL ⟨rfl, (by omega)⟩ dX12_signAt_293
  by_cases c_41 : r_4 = 64
  · refine lv_tableIn (off := 285) (tgt := 292) hx hb dX12_signAt_7 (by rw [c_41]; decide) (by rw [c_41]; decide) (by rw [c_41]; decide) (by decide) ?_
    refine lv_iconst (v := iv 0) hx hb dX12_signAt_292 (by decide) ?_
    exact sIret Cx hr hlk hW hL ⟨rfl, (by omega)⟩ dX12_signAt_293
  by_cases c_42 : r_4 = 65
  · refine lv_tableIn (off := 285) (tgt := 292) hx hb dX12_signAt_7 (by rw [c_42]; decide) (by rw [c_42]; decide) (by rw [c_42]; decide) (by decide) ?_
    refine lv_iconst (v := iv 0) hx hb dX12_signAt_292 (by decide) ?_
    exact sIret Cx hr hlk hW hL ⟨rfl, (by omega)⟩ dX12_signAt_293
  by_cases c_43 : r_4 = 66
  · refine lv_tableIn (off := 285) (tgt := 292) hx hb dX12_signAt_7 (by rw [c_43]; decide) (by rw [c_43]; decide) (by rw [c_43]; decide) (by decide) ?_
    refine lv_iconst (v := iv 0) hx hb dX12_signAt_292 (by decide) ?_
    exact sIret Cx hr hlk hW hL ⟨rfl, (by omega)⟩ dX12_signAt_293
  by_cases c_44 : r_4 = 67
  · refine lv_tableIn (off := 285) (tgt := 292) hx hb dX12_signAt_7 (by rw [c_44]; decide) (by rw [c_44]; decide) (by rw [c_44]; decide) (by decide) ?_
    refine lv_iconst (v := iv 0) hx hb dX12_signAt_292 (by decide) ?_
    exact sIret Cx hr hlk hW hL ⟨rfl, (by omega)⟩ dX12_signAt_293
  by_cases c_45 : r_4 = 68
  · refine lv_tableIn (off := 285) (tgt := 292) hx hb dX12_signAt_7 (by rw [c_45]; decide) (by rw [c_45]; decide) (by rw [c_45]; decide) (by decide) ?_
    refine lv_iconst (v := iv 0) hx hb dX12_signAt_292 (by decide) ?_
    exact sIret Cx hr hlk hW hL ⟨rfl, (by omega)⟩ dX12_signAt_293
  by_cases c_46 : r_4 = 69
  · refine lv_tableIn (off := 285) (tgt := 292) hx hb dX12_signAt_7 (by rw [c_46]; decide) (by rw [c_46]; decide) (by rw [c_46]; decide) (by decide) ?_
    refine lv_iconst (v := iv 0) hx hb dX12_signAt_292 (by decide) ?_
    exact sIret Cx hr hlk hW hL ⟨rfl, (by omega)⟩ dX12_signAt_293
  by_cases c_47 : r_4 = 70
  · refine lv_tableIn (off := 285) (tgt := 292) hx hb dX12_signAt_7 (by rw [c_47]; decide) (by rw [c_47]; decide) (by rw [c_47]; decide) (by decide) ?_
    refine lv_iconst (v := iv 0) hx hb dX12_signAt_292 (by decide) ?_
    exact sIret Cx hr hlk hW hL ⟨rfl, (by omega)⟩ dX12_signAt_293
  by_cases c_48 : r_4 = 71
  · refine lv_tableIn (off := 285) (tgt := 292) hx hb dX12_signAt_7 (by rw [c_48]; decide) (by rw [c_48]; decide) (by rw [c_48]; decide) (by decide) ?_
    refine lv_iconst (v := iv 0) hx hb dX12_signAt_292 (by decide) ?_
    exact sIret Cx hr hlk hW hL ⟨rfl, (by omega)⟩ dX12_signAt_293
  by_cases c_49 : r_4 = 72
  · refine lv_tableIn (off := 285) (tgt := 292) hx hb dX12_signAt_7 (by rw [c_49]; decide) (by rw [c_49]; decide) (by rw [c_49]; decide) (by decide) ?_
    refine lv_iconst (v := iv 0) hx hb dX12_signAt_292 (by decide) ?_
    exact sIret Cx hr hlk hW hL ⟨rfl, (by omega)⟩ dX12_signAt_293
  by_cases c_50 : r_4 = 73
  · refine lv_tableIn (off := 285) (tgt := 292) hx hb dX12_signAt_7 (by rw [c_50]; decide) (by rw [c_50]; decide) (by rw [c_50]; decide) (by decide) ?_
    refine lv_iconst (v := iv 0) hx hb dX12_signAt_292 (by decide) ?_
    exact sIret Cx hr hlk hW hL ⟨rfl, (by omega)⟩ dX12_signAt_293
  by_cases c_51 : r_4 = 74
  · refine lv_tableIn (off := 285) (tgt := 292) hx hb dX12_signAt_7 (by rw [c_51]; decide) (by rw [c_51]; decide) (by rw [c_51]; decide) (by decide) ?_
    refine lv_iconst (v := iv 0) hx hb dX12_signAt_292 (by decide) ?_
    exact sIret Cx hr hlk hW hL ⟨rfl, (by omega)⟩ dX12_signAt_293
  by_cases c_52 : r_4 = 75
  · refine lv_tableIn (off := 285) (tgt := 292) hx hb dX12_signAt_7 (by rw [c_52]; decide) (by rw [c_52]; decide) (by rw [c_52]; decide) (by decide) ?_
    refine lv_iconst (v := iv 0) hx hb dX12_signAt_292 (by decide) ?_
    exact sIret Cx hr hlk hW hL ⟨rfl, (by omega)⟩ dX12_signAt_293
  by_cases c_53 : r_4 = 76
  · refine lv_tableIn (off := 285) (tgt := 292) hx hb dX12_signAt_7 (by rw [c_53]; decide) (by rw [c_53]; decide) (by rw [c_53]; decide) (by decide) ?_
    refine lv_iconst (v := iv 0) hx hb dX12_signAt_292 (by decide) ?_
    exact sIret Cx hr hlk hW hL ⟨rfl, (by omega)⟩ dX12_signAt_293
  by_cases c_54 : r_4 = 77
  · refine lv_tableIn (off := 285) (tgt := 292) hx hb dX12_signAt_7 (by rw [c_54]; decide) (by rw [c_54]; decide) (by rw [c_54]; decide) (by decide) ?_
    refine lv_iconst (v := iv 0) hx hb dX12_signAt_292 (by decide) ?_
    exact sIret Cx hr hlk hW hL ⟨rfl, (by omega)⟩ dX12_signAt_293
  by_cases c_55 : r_4 = 78
  · refine lv_tableIn (off := 285) (tgt := 292) hx hb dX12_signAt_7 (by rw [c_55]; decide) (by rw [c_55]; decide) (by rw [c_55]; decide) (by decide) ?_
    refine lv_iconst (v := iv 0) hx hb dX12_signAt_292 (by decide) ?_
    exact sIret Cx hr hlk hW hL ⟨rfl, (by omega)⟩ dX12_signAt_293
  by_cases c_56 : r_4 = 79
  · refine lv_tableIn (off := 285) (tgt := 292) hx hb dX12_signAt_7 (by rw [c_56]; decide) (by rw [c_56]; decide) (by rw [c_56]; decide) (by decide) ?_
    refine lv_iconst (v := iv 0) hx hb dX12_signAt_292 (by decide) ?_
    exact sIret Cx hr hlk hW hL ⟨rfl, (by omega)⟩ dX12_signAt_293
  by_cases c_57 : r_4 = 80
  · refine lv_tableIn (off := 285) (tgt := 292) hx hb dX12_signAt_7 (by rw [c_57]; decide) (by rw [c_57]; decide) (by rw [c_57]; decide) (by decide) ?_
    refine lv_iconst (v := iv 0) hx hb dX12_signAt_292 (by decide) ?_
    exact sIret Cx hr hlk hW hL ⟨rfl, (by omega)⟩ dX12_signAt_293
  by_cases c_58 : r_4 = 81
  · refine lv_tableIn (off := 285) (tgt := 292) hx hb dX12_signAt_7 (by rw [c_58]; decide) (by rw [c_58]; decide) (by rw [c_58]; decide) (by decide) ?_
    refine lv_iconst (v := iv 0) hx hb dX12_signAt_292 (by decide) ?_
    exact sIret Cx hr hlk hW hL ⟨rfl, (by omega)⟩ dX12_signAt_293
  by_cases c_59 : r_4 = 82
  · refine lv_tableIn (off := 285) (tgt := 292) hx hb dX12_signAt_7 (by rw [c_59]; decide) (by rw [c_59]; decide) (by rw [c_59]; decide) (by decide) ?_
    refine lv_iconst (v := iv 0) hx hb dX12_signAt_292 (by decide) ?_
    exact sIret Cx hr hlk hW hL ⟨rfl, (by omega)⟩ dX12_signAt_293
  by_cases c_60 : r_4 = 83
  · refine lv_tableIn (off := 285) (tgt := 292) hx hb dX12_signAt_7 (by rw [c_60]; decide) (by rw [c_60]; decide) (by rw [c_60]; decide) (by decide) ?_
    refine lv_iconst (v := iv 0) hx hb dX12_signAt_292 (by decide) ?_
    exact sIret Cx hr hlk hW hL ⟨rfl, (by omega)⟩ dX12_signAt_293
  by_cases c_61 : r_4 = 84
  · refine lv_tableIn (off := 285) (tgt := 292) hx hb dX12_signAt_7 (by rw [c_61]; decide) (by rw [c_61]; decide) (by rw [c_61]; decide) (by decide) ?_
    refine lv_iconst (v := iv 0) hx hb dX12_signAt_292 (by decide) ?_
    exact sIret Cx hr hlk hW hL ⟨rfl, (by omega)⟩ dX12_signAt_293
  by_cases c_62 : r_4 = 85
  · refine lv_tableIn (off := 285) (tgt := 292) hx hb dX12_signAt_7 (by rw [c_62]; decide) (by rw [c_62]; decide) (by rw [c_62]; decide) (by decide) ?_
    refine lv_iconst (v := iv 0) hx hb dX12_signAt_292 (by decide) ?_
    exact sIret Cx hr hlk hW hL ⟨rfl, (by omega)⟩ dX12_signAt_293
  by_cases c_63 : r_4 = 86
  · refine lv_tableIn (off := 285) (tgt := 292) hx hb dX12_signAt_7 (by rw [c_63]; decide) (by rw [c_63]; decide) (by rw [c_63]; decide) (by decide) ?_
    refine lv_iconst (v := iv 0) hx hb dX12_signAt_292 (by decide) ?_
    exact sIret Cx hr hlk hW hL ⟨rfl, (by omega)⟩ dX12_signAt_293
  by_cases c_64 : r_4 = 87
  · refine lv_tableIn (off := 285) (tgt := 292) hx hb dX12_signAt_7 (by rw [c_64]; decide) (by rw [c_64]; decide) (by rw [c_64]; decide) (by decide) ?_
    refine lv_iconst (v := iv 0) hx hb dX12_signAt_292 (by decide) ?_
    exact sIret Cx hr hlk hW hL ⟨rfl, (by omega)⟩ dX12_signAt_293
  by_cases c_65 : r_4 = 88
  · refine lv_tableIn (off := 285) (tgt := 292) hx hb dX12_signAt_7 (by rw [c_65]; decide) (by rw [c_65]; decide) (by rw [c_65]; decide) (by decide) ?_
    refine lv_iconst (v := iv 0) hx hb dX12_signAt_292 (by decide) ?_
    exact sIret Cx hr hlk hW hL ⟨rfl, (by omega)⟩ dX12_signAt_293
  by_cases c_66 : r_4 = 89
  · refine lv_tableIn (off := 285) (tgt := 292) hx hb dX12_signAt_7 (by rw [c_66]; decide) (by rw [c_66]; decide) (by rw [c_66]; decide) (by decide) ?_
    refine lv_iconst (v := iv 0) hx hb dX12_signAt_292 (by decide) ?_
    exact sIret Cx hr hlk hW hL ⟨rfl, (by omega)⟩ dX12_signAt_293
  by_cases c_67 : r_4 = 90
  · refine lv_tableIn (off := 285) (tgt := 292) hx hb dX12_signAt_7 (by rw [c_67]; decide) (by rw [c_67]; decide) (by rw [c_67]; decide) (by decide) ?_
    refine lv_iconst (v := iv 0) hx hb dX12_signAt_292 (by decide) ?_
    exact sIret Cx hr hlk hW hL ⟨rfl, (by omega)⟩ dX12_signAt_293
  by_cases c_68 : r_4 = 91
  · refine lv_tableIn (off := 229) (tgt := 236) hx hb dX12_signAt_7 (by rw [c_68]; decide) (by rw [c_68]; decide) (by rw [c_68]; decide) (by decide) ?_
    refine lv_iload_n hx hb dX12_signAt_236 rfl (lv_at hl 0 rfl) ?_
    exact sIret Cx hr hlk hW hL ⟨rfl, (by omega)⟩ dX12_signAt_237
  by_cases c_69 : r_4 = 92
  · refine lv_tableIn (off := 285) (tgt := 292) hx hb dX12_signAt_7 (by rw [c_69]; decide) (by rw [c_69]; decide) (by rw [c_69]; decide) (by decide) ?_
    refine lv_iconst (v := iv 0) hx hb dX12_signAt_292 (by decide) ?_
    exact sIret Cx hr hlk hW hL ⟨rfl, (by omega)⟩ dX12_signAt_293
  by_cases c_70 : r_4 = 93
  · refine lv_tableIn (off := 229) (tgt := 236) hx hb dX12_signAt_7 (by rw [c_70]; decide) (by rw [c_70]; decide) (by rw [c_70]; decide) (by decide) ?_
    refine lv_iload_n hx hb dX12_signAt_236 rfl (lv_at hl 0 rfl) ?_
    exact sIret Cx hr hlk hW hL ⟨rfl, (by omega)⟩ dX12_signAt_237
  refine lv_tableOut (tgt := 292) hx hb dX12_signAt_7 (by rw [iv_toInt ⟨(by omega), (by omega)⟩]; omega) (by decide) ?_
  refine lv_iconst (v := iv 0) hx hb dX12_signAt_292 (by decide) ?_
  exact sIret Cx hr hlk hW hL ⟨rfl, (by omega)⟩ dX12_signAt_293

set_option maxRecDepth 100000 in
set_option maxHeartbeats 4000000 in
theorem s_X12_among (l : Launch) (G : sG) (S : sS) {si : Nat} {a b : Int} (hI : dX G S) (hsi : si < 38) (hab : 0 ≤ a ∧ 0 ≤ b ∧ a + b ≤ 30000) : Met l yX12_among (.code yX12_among cX12_among 8 (some .int) :: tb) (rmk 5 0 0) (sPc G 294 S [.ref (G.2.2.1 + 231), .ref (G.1.2 100 si), .int (iv a), .int (iv b)]) (sQi G 294 (fun r u => u = S ∧ (-1 ≤ r ∧ r ≤ 70))) 0 0 (sF G) := by
  refine sEnter (by decide) (Nat.le_of_ble_eq_true rfl) ?_
  intro p e s m args below meth c Cx hr hlk hnm hW ls hl
  have Cx : sC G p m c cX12_among 8 s args RX12 := Cx
  obtain ⟨hx, hb, hml, hown, hts⟩ := id Cx.1
  have hL : sL G [] := sL_nil
  have hl : lv_has ls 8 [(0, .ref (G.2.2.1 + 231)), (1, .ref (G.1.2 100 si)), (2, .int (iv a)), (3, .int (iv b))] := hl
  have hW0 := hW
  have hnr := strN_r si hsi
  refine lv_iconst (v := iv (-1)) hx hb dX12_among_0 (by decide) ?_
  refine lv_istore (lv' := [(4, .int (iv ((-1)))), (0, .ref (G.2.2.1 + 231)), (1, .ref (G.1.2 100 si)), (2, .int (iv a)), (3, .int (iv b))]) hx hb dX12_among_1 hl (by decide) rfl (fun ls hl => ?_)
  refine lv_iconst (v := iv 0) hx hb dX12_among_3 (by decide) ?_
  refine lv_istore (lv' := [(5, .int (iv 0)), (4, .int (iv ((-1)))), (0, .ref (G.2.2.1 + 231)), (1, .ref (G.1.2 100 si)), (2, .int (iv a)), (3, .int (iv b))]) hx hb dX12_among_4 hl (by decide) rfl (fun ls hl => ?_)
  have loop_6 : ∀ (fuel : Nat) (i : Int) (k : Int) (H : Heap) (locs : List Loc) (ls : Array Slot), (71 - i).toNat < fuel → (0 ≤ i ∧ i ≤ 70) → (-1 ≤ k ∧ k < i) → sW G 294 S H → sL G locs → lv_has ls 8 [(5, .int (iv i)), (4, .int (iv k)), (0, .ref (G.2.2.1 + 231)), (1, .ref (G.1.2 100 si)), (2, .int (iv a)), (3, .int (iv b))] → W p l e (rmk 5 0 0) s m args below meth c H locs 0 0 (MQ below (sQi G 294 (fun r u => u = S ∧ (-1 ≤ r ∧ r ≤ 70))) args s 0 0 (sF G)) (F0 m 6 ls []) := by
    intro fuel
    induction fuel with
    | zero => intro i k H locs ls hmeas hi hk hW hL hl; exact absurd hmeas (Nat.not_lt_zero _)
    | succ fuel ih_6 =>
      intro i k H locs ls hmeas hi hk hW hL hl
      refine lv_iload hx hb dX12_among_6 (lv_at hl 0 rfl) ?_
      refine lv_iconst (v := iv 1) hx hb dX12_among_8 (by decide) ?_
      refine r_iadd hx hb dX12_among_9 ?_
      refine lv_aload_n hx hb dX12_among_10 rfl (lv_at hl 3 rfl) ?_
      refine sBi (sVz (As := []) (rest := [.int (iv (i + 1))]) (a := G.1.2 100 si) Cx (s_J0_length_8abf5 l G S (si := si) hsi) (c_X12_279 Cx rfl rfl (rmk_ok (by omega) (by decide))) hW (zRecv Cx hW0 hW hsi) rfl hl.1 rfl (Nat.le_of_ble_eq_true rfl) dX12_among_11 ⟨Nat.le_of_ble_eq_true rfl, Nat.le_of_ble_eq_true rfl⟩) hL (fun r_3 u_1 H locs k_2 hW hL => ?_)
      obtain ⟨eu_1, xu_1⟩ := k_2
      rw [eu_1] at hW
      refine r_icmp_ge (tgt := 133) hx hb ⟨(by omega), (by omega)⟩ ⟨(by omega), (by omega)⟩ dX12_among_14 (by decide) (fun c_4 => ?_) (fun c_4 => ?_)
      · refine lv_iconst (v := iv (-1)) hx hb dX12_among_133 (by decide) ?_
        exact sIret Cx hr hlk hW hL ⟨rfl, (by omega)⟩ dX12_among_134
      · refine lv_aload_n hx hb dX12_among_17 rfl (lv_at hl 3 rfl) ?_
        refine lv_iload hx hb dX12_among_18 (lv_at hl 0 rfl) ?_
        refine sBi (sVz (As := [.int (iv i)]) (rest := []) (a := G.1.2 100 si) Cx (s_J0_charAt_5068e l G S (si := si) (k := i) hsi (by omega)) (c_X12_285 Cx rfl rfl (rmk_ok (by omega) (by decide))) hW (zRecv Cx hW0 hW hsi) rfl hl.1 rfl (Nat.le_of_ble_eq_true rfl) dX12_among_20 ⟨Nat.le_of_ble_eq_true rfl, Nat.le_of_ble_eq_true rfl⟩) hL (fun r_7 u_5 H locs k_6 hW hL => ?_)
        obtain ⟨eu_5, xu_5⟩ := k_6
        rw [eu_5] at hW
        refine lv_bipush (v := iv 32) hx hb dX12_among_23 (by decide) ?_
        refine r_icmp_eq (tgt := 31) hx hb ⟨(by omega), (by omega)⟩ ⟨(by omega), (by omega)⟩ dX12_among_25 (by decide) (fun c_8 => ?_) (fun c_8 => ?_)
        · refine lv_iinc (v := iv (k + 1)) (lv' := [(4, .int (iv (k + 1))), (5, .int (iv i)), (0, .ref (G.2.2.1 + 231)), (1, .ref (G.1.2 100 si)), (2, .int (iv a)), (3, .int (iv b))]) hx hb dX12_among_31 hl (k := 1) rfl ((Int32.ofInt_add _ _).symm) (by decide) rfl (fun ls hl => ?_)
          refine lv_iload hx hb dX12_among_34 (lv_at hl 1 rfl) ?_
          refine lv_iload_n hx hb dX12_among_36 rfl (lv_at hl 5 rfl) ?_
          refine r_iadd hx hb dX12_among_37 ?_
          refine lv_iconst (v := iv 1) hx hb dX12_among_38 (by decide) ?_
          refine r_iadd hx hb dX12_among_39 ?_
          refine lv_aload_n hx hb dX12_among_40 rfl (lv_at hl 3 rfl) ?_
          refine sBi (sVz (As := []) (rest := [.int (iv ((i + b) + 1))]) (a := G.1.2 100 si) Cx (s_J0_length_8abf5 l G S (si := si) hsi) (c_X12_279 Cx rfl rfl (rmk_ok (by omega) (by decide))) hW (zRecv Cx hW0 hW hsi) rfl hl.1 rfl (Nat.le_of_ble_eq_true rfl) dX12_among_41 ⟨Nat.le_of_ble_eq_true rfl, Nat.le_of_ble_eq_true rfl⟩) hL (fun r_11 u_9 H locs k_10 hW hL => ?_)
          obtain ⟨eu_9, xu_9⟩ := k_10
          rw [eu_9] at hW
          refine r_icmp_ge (tgt := 66) hx hb ⟨(by omega), (by omega)⟩ ⟨(by omega), (by omega)⟩ dX12_among_44 (by decide) (fun c_12 => ?_) (fun c_12 => ?_)
          · refine lv_iconst (v := iv 0) hx hb dX12_among_66 (by decide) ?_
            refine lv_istore (lv' := [(6, .int (iv 0)), (4, .int (iv (k + 1))), (5, .int (iv i)), (0, .ref (G.2.2.1 + 231)), (1, .ref (G.1.2 100 si)), (2, .int (iv a)), (3, .int (iv b))]) hx hb dX12_among_67 hl (by decide) rfl (fun ls hl => ?_)
            refine lv_iconst (v := iv 0) hx hb dX12_among_69 (by decide) ?_
            refine lv_istore (lv' := [(7, .int (iv 0)), (6, .int (iv 0)), (4, .int (iv (k + 1))), (5, .int (iv i)), (0, .ref (G.2.2.1 + 231)), (1, .ref (G.1.2 100 si)), (2, .int (iv a)), (3, .int (iv b))]) hx hb dX12_among_70 hl (by decide) rfl (fun ls hl => ?_)
            have loop_72 : ∀ (fuel : Nat) (j : Int) (ok : Int) (H : Heap) (locs : List Loc) (ls : Array Slot), (b - j).toNat < fuel → (0 ≤ j ∧ j ≤ b) → ((0 ≤ ok ∧ ok ≤ 1) ∧ (ok = 1 → i + b + 1 < ((strN.getD si 0 : Nat) : Int))) → sW G 294 S H → sL G locs → lv_has ls 8 [(7, .int (iv j)), (6, .int (iv ok)), (4, .int (iv (k + 1))), (5, .int (iv i)), (0, .ref (G.2.2.1 + 231)), (1, .ref (G.1.2 100 si)), (2, .int (iv a)), (3, .int (iv b))] → W p l e (rmk 5 0 0) s m args below meth c H locs 0 0 (MQ below (sQi G 294 (fun r u => u = S ∧ (-1 ≤ r ∧ r ≤ 70))) args s 0 0 (sF G)) (F0 m 72 ls []) := by
              intro fuel
              induction fuel with
              | zero => intro j ok H locs ls hmeas hj hok hW hL hl; exact absurd hmeas (Nat.not_lt_zero _)
              | succ fuel ih_72 =>
                intro j ok H locs ls hmeas hj hok hW hL hl
                refine lv_iload hx hb dX12_among_72 (lv_at hl 0 rfl) ?_
                refine lv_iload_n hx hb dX12_among_74 rfl (lv_at hl 7 rfl) ?_
                refine r_icmp_ge (tgt := 119) hx hb ⟨(by omega), (by omega)⟩ ⟨(by omega), (by omega)⟩ dX12_among_75 (by decide) (fun c_13 => ?_) (fun c_13 => ?_)
                · refine lv_iload hx hb dX12_among_119 (lv_at hl 1 rfl) ?_
                  refine r_if_eq (tgt := 127) hx hb ⟨(by omega), (by omega)⟩ dX12_among_121 (by decide) (fun c_14 => ?_) (fun c_14 => ?_)
                  · refine lv_iinc (v := iv (i + 1)) (lv' := [(5, .int (iv (i + 1))), (7, .int (iv j)), (6, .int (iv ok)), (4, .int (iv (k + 1))), (0, .ref (G.2.2.1 + 231)), (1, .ref (G.1.2 100 si)), (2, .int (iv a)), (3, .int (iv b))]) hx hb dX12_among_127 hl (k := 3) rfl ((Int32.ofInt_add _ _).symm) (by decide) rfl (fun ls hl => ?_)
                    refine lv_goto (tgt := 6) hx hb dX12_among_130 (by decide) ?_
                    exact ih_6 (i + 1) (k + 1) _ _ _ (by omega) (by omega) (by omega) hW hL (lv_sub hl [0, 3, 4, 5, 6, 7] rfl)
                  · refine lv_iload hx hb dX12_among_124 (lv_at hl 2 rfl) ?_
                    exact sIret Cx hr hlk hW hL ⟨rfl, (by omega)⟩ dX12_among_126
                · refine lv_iload hx hb dX12_among_78 (lv_at hl 1 rfl) ?_
                  refine r_if_eq (tgt := 119) hx hb ⟨(by omega), (by omega)⟩ dX12_among_80 (by decide) (fun c_15 => ?_) (fun c_15 => ?_)
                  · refine lv_iload hx hb dX12_among_119 (lv_at hl 1 rfl) ?_
                    refine r_if_eq (tgt := 127) hx hb ⟨(by omega), (by omega)⟩ dX12_among_121 (by decide) (fun c_16 => ?_) (fun c_16 => ?_)
                    · refine lv_iinc (v := iv (i + 1)) (lv' := [(5, .int (iv (i + 1))), (7, .int (iv j)), (6, .int (iv ok)), (4, .int (iv (k + 1))), (0, .ref (G.2.2.1 + 231)), (1, .ref (G.1.2 100 si)), (2, .int (iv a)), (3, .int (iv b))]) hx hb dX12_among_127 hl (k := 3) rfl ((Int32.ofInt_add _ _).symm) (by decide) rfl (fun ls hl => ?_)
                      refine lv_goto (tgt := 6) hx hb dX12_among_130 (by decide) ?_
                      exact ih_6 (i + 1) (k + 1) _ _ _ (by omega) (by omega) (by omega) hW hL (lv_sub hl [0, 3, 4, 5, 6, 7] rfl)
                    · refine lv_iload hx hb dX12_among_124 (lv_at hl 2 rfl) ?_
                      exact sIret Cx hr hlk hW hL ⟨rfl, (by omega)⟩ dX12_among_126
                  · refine lv_aload_n hx hb dX12_among_83 rfl (lv_at hl 5 rfl) ?_
                    refine lv_iload hx hb dX12_among_84 (lv_at hl 3 rfl) ?_
                    refine lv_iconst (v := iv 1) hx hb dX12_among_86 (by decide) ?_
                    refine r_iadd hx hb dX12_among_87 ?_
                    refine lv_iload hx hb dX12_among_88 (lv_at hl 0 rfl) ?_
                    refine r_iadd hx hb dX12_among_90 ?_
                    refine sBi (sVz (As := [.int (iv ((i + 1) + j))]) (rest := []) (a := G.1.2 100 si) Cx (s_J0_charAt_5068e l G S (si := si) (k := (i + 1) + j) hsi (by omega)) (c_X12_285 Cx rfl rfl (rmk_ok (by omega) (by decide))) hW (zRecv Cx hW0 hW hsi) rfl hl.1 rfl (Nat.le_of_ble_eq_true rfl) dX12_among_91 ⟨Nat.le_of_ble_eq_true rfl, Nat.le_of_ble_eq_true rfl⟩) hL (fun r_19 u_17 H locs k_18 hW hL => ?_)
                    obtain ⟨eu_17, xu_17⟩ := k_18
                    rw [eu_17] at hW
                    refine lv_aload_n hx hb dX12_among_94 rfl (lv_at hl 4 rfl) ?_
                    refine g_X12_44 Cx hW (k := 231) (by decide) rfl (v := .ref (G.2.2.1 + 243)) (rd_13 hI) dX12_among_95 ?_
                    refine lv_iload_n hx hb dX12_among_98 rfl (lv_at hl 6 rfl) ?_
                    refine lv_iload hx hb dX12_among_99 (lv_at hl 0 rfl) ?_
                    refine r_iadd hx hb dX12_among_101 ?_
                    refine rBald Cx hW (k := 243) (by decide) rfl (by decide) (by omega) (by omega) dX12_among_102 ?_
                    have q_20 : (-128) ≤ S.2.1 243 (a + j) ∧ S.2.1 243 (a + j) ≤ 127 := hI.ai 243 (a + j)
                    refine r_i (b := S.2.1 243 (a + j)) rfl ?_
                    refine r_icmp_ne (tgt := 110) hx hb ⟨(by omega), (by omega)⟩ ⟨(by omega), (by omega)⟩ dX12_among_103 (by decide) (fun c_21 => ?_) (fun c_21 => ?_)
                    · refine lv_iconst (v := iv 0) hx hb dX12_among_110 (by decide) ?_
                      refine lv_istore (lv' := [(6, .int (iv 0)), (7, .int (iv j)), (4, .int (iv (k + 1))), (5, .int (iv i)), (0, .ref (G.2.2.1 + 231)), (1, .ref (G.1.2 100 si)), (2, .int (iv a)), (3, .int (iv b))]) hx hb dX12_among_111 hl (by decide) rfl (fun ls hl => ?_)
                      refine lv_iinc (v := iv (j + 1)) (lv' := [(7, .int (iv (j + 1))), (6, .int (iv 0)), (4, .int (iv (k + 1))), (5, .int (iv i)), (0, .ref (G.2.2.1 + 231)), (1, .ref (G.1.2 100 si)), (2, .int (iv a)), (3, .int (iv b))]) hx hb dX12_among_113 hl (k := 1) rfl ((Int32.ofInt_add _ _).symm) (by decide) rfl (fun ls hl => ?_)
                      refine lv_goto (tgt := 72) hx hb dX12_among_116 (by decide) ?_
                      exact ih_72 (j + 1) 0 _ _ _ (by omega) (by omega) (by omega) hW hL (lv_sub hl [0, 1, 2, 3, 4, 5, 6, 7] rfl)
                    · refine lv_iconst (v := iv 1) hx hb dX12_among_106 (by decide) ?_
                      refine lv_goto (tgt := 111) hx hb dX12_among_107 (by decide) ?_
                      refine lv_istore (lv' := [(6, .int (iv 1)), (7, .int (iv j)), (4, .int (iv (k + 1))), (5, .int (iv i)), (0, .ref (G.2.2.1 + 231)), (1, .ref (G.1.2 100 si)), (2, .int (iv a)), (3, .int (iv b))]) hx hb dX12_among_111 hl (by decide) rfl (fun ls hl => ?_)
                      refine lv_iinc (v := iv (j + 1)) (lv' := [(7, .int (iv (j + 1))), (6, .int (iv 1)), (4, .int (iv (k + 1))), (5, .int (iv i)), (0, .ref (G.2.2.1 + 231)), (1, .ref (G.1.2 100 si)), (2, .int (iv a)), (3, .int (iv b))]) hx hb dX12_among_113 hl (k := 1) rfl ((Int32.ofInt_add _ _).symm) (by decide) rfl (fun ls hl => ?_)
                      refine lv_goto (tgt := 72) hx hb dX12_among_116 (by decide) ?_
                      exact ih_72 (j + 1) 1 _ _ _ (by omega) (by omega) (by omega) hW hL (lv_sub hl [0, 1, 2, 3, 4, 5, 6, 7] rfl)
            exact loop_72 (_ + 1) 0 0 _ _ _ (Nat.lt_succ_self _) (by omega) (by omega) hW hL (lv_sub hl [0, 1, 2, 3, 4, 5, 6, 7] rfl)
          · refine lv_aload_n hx hb dX12_among_47 rfl (lv_at hl 3 rfl) ?_
            refine lv_iload hx hb dX12_among_48 (lv_at hl 1 rfl) ?_
            refine lv_iload_n hx hb dX12_among_50 rfl (lv_at hl 5 rfl) ?_
            refine r_iadd hx hb dX12_among_51 ?_
            refine lv_iconst (v := iv 1) hx hb dX12_among_52 (by decide) ?_
            refine r_iadd hx hb dX12_among_53 ?_
            refine sBi (sVz (As := [.int (iv ((i + b) + 1))]) (rest := []) (a := G.1.2 100 si) Cx (s_J0_charAt_5068e l G S (si := si) (k := (i + b) + 1) hsi (by omega)) (c_X12_285 Cx rfl rfl (rmk_ok (by omega) (by decide))) hW (zRecv Cx hW0 hW hsi) rfl hl.1 rfl (Nat.le_of_ble_eq_true rfl) dX12_among_54 ⟨Nat.le_of_ble_eq_true rfl, Nat.le_of_ble_eq_true rfl⟩) hL (fun r_24 u_22 H locs k_23 hW hL => ?_)
            obtain ⟨eu_22, xu_22⟩ := k_23
            rw [eu_22] at hW
            refine lv_bipush (v := iv 32) hx hb dX12_among_57 (by decide) ?_
            refine r_icmp_ne (tgt := 66) hx hb ⟨(by omega), (by omega)⟩ ⟨(by omega), (by omega)⟩ dX12_among_59 (by decide) (fun c_25 => ?_) (fun c_25 => ?_)
            · refine lv_iconst (v := iv 0) hx hb dX12_among_66 (by decide) ?_
              refine lv_istore (lv' := [(6, .int (iv 0)), (4, .int (iv (k + 1))), (5, .int (iv i)), (0, .ref (G.2.2.1 + 231)), (1, .ref (G.1.2 100 si)), (2, .int (iv a)), (3, .int (iv b))]) hx hb dX12_among_67 hl (by decide) rfl (fun ls hl => ?_)
              refine lv_iconst (v := iv 0) hx hb dX12_among_69 (by decide) ?_
              refine lv_istore (lv' := [(7, .int (iv 0)), (6, .int (iv 0)), (4, .int (iv (k + 1))), (5, .int (iv i)), (0, .ref (G.2.2.1 + 231)), (1, .ref (G.1.2 100 si)), (2, .int (iv a)), (3, .int (iv b))]) hx hb dX12_among_70 hl (by decide) rfl (fun ls hl => ?_)
              have loop_72 : ∀ (fuel : Nat) (j : Int) (ok : Int) (H : Heap) (locs : List Loc) (ls : Array Slot), (b - j).toNat < fuel → (0 ≤ j ∧ j ≤ b) → ((0 ≤ ok ∧ ok ≤ 1) ∧ (ok = 1 → i + b + 1 < ((strN.getD si 0 : Nat) : Int))) → sW G 294 S H → sL G locs → lv_has ls 8 [(7, .int (iv j)), (6, .int (iv ok)), (4, .int (iv (k + 1))), (5, .int (iv i)), (0, .ref (G.2.2.1 + 231)), (1, .ref (G.1.2 100 si)), (2, .int (iv a)), (3, .int (iv b))] → W p l e (rmk 5 0 0) s m args below meth c H locs 0 0 (MQ below (sQi G 294 (fun r u => u = S ∧ (-1 ≤ r ∧ r ≤ 70))) args s 0 0 (sF G)) (F0 m 72 ls []) := by
                intro fuel
                induction fuel with
                | zero => intro j ok H locs ls hmeas hj hok hW hL hl; exact absurd hmeas (Nat.not_lt_zero _)
                | succ fuel ih_72 =>
                  intro j ok H locs ls hmeas hj hok hW hL hl
                  refine lv_iload hx hb dX12_among_72 (lv_at hl 0 rfl) ?_
                  refine lv_iload_n hx hb dX12_among_74 rfl (lv_at hl 7 rfl) ?_
                  refine r_icmp_ge (tgt := 119) hx hb ⟨(by omega), (by omega)⟩ ⟨(by omega), (by omega)⟩ dX12_among_75 (by decide) (fun c_26 => ?_) (fun c_26 => ?_)
                  · refine lv_iload hx hb dX12_among_119 (lv_at hl 1 rfl) ?_
                    refine r_if_eq (tgt := 127) hx hb ⟨(by omega), (by omega)⟩ dX12_among_121 (by decide) (fun c_27 => ?_) (fun c_27 => ?_)
                    · refine lv_iinc (v := iv (i + 1)) (lv' := [(5, .int (iv (i + 1))), (7, .int (iv j)), (6, .int (iv ok)), (4, .int (iv (k + 1))), (0, .ref (G.2.2.1 + 231)), (1, .ref (G.1.2 100 si)), (2, .int (iv a)), (3, .int (iv b))]) hx hb dX12_among_127 hl (k := 3) rfl ((Int32.ofInt_add _ _).symm) (by decide) rfl (fun ls hl => ?_)
                      refine lv_goto (tgt := 6) hx hb dX12_among_130 (by decide) ?_
                      exact ih_6 (i + 1) (k + 1) _ _ _ (by omega) (by omega) (by omega) hW hL (lv_sub hl [0, 3, 4, 5, 6, 7] rfl)
                    · refine lv_iload hx hb dX12_among_124 (lv_at hl 2 rfl) ?_
                      exact sIret Cx hr hlk hW hL ⟨rfl, (by omega)⟩ dX12_among_126
                  · refine lv_iload hx hb dX12_among_78 (lv_at hl 1 rfl) ?_
                    refine r_if_eq (tgt := 119) hx hb ⟨(by omega), (by omega)⟩ dX12_among_80 (by decide) (fun c_28 => ?_) (fun c_28 => ?_)
                    · refine lv_iload hx hb dX12_among_119 (lv_at hl 1 rfl) ?_
                      refine r_if_eq (tgt := 127) hx hb ⟨(by omega), (by omega)⟩ dX12_among_121 (by decide) (fun c_29 => ?_) (fun c_29 => ?_)
                      · refine lv_iinc (v := iv (i + 1)) (lv' := [(5, .int (iv (i + 1))), (7, .int (iv j)), (6, .int (iv ok)), (4, .int (iv (k + 1))), (0, .ref (G.2.2.1 + 231)), (1, .ref (G.1.2 100 si)), (2, .int (iv a)), (3, .int (iv b))]) hx hb dX12_among_127 hl (k := 3) rfl ((Int32.ofInt_add _ _).symm) (by decide) rfl (fun ls hl => ?_)
                        refine lv_goto (tgt := 6) hx hb dX12_among_130 (by decide) ?_
                        exact ih_6 (i + 1) (k + 1) _ _ _ (by omega) (by omega) (by omega) hW hL (lv_sub hl [0, 3, 4, 5, 6, 7] rfl)
                      · refine lv_iload hx hb dX12_among_124 (lv_at hl 2 rfl) ?_
                        exact sIret Cx hr hlk hW hL ⟨rfl, (by omega)⟩ dX12_among_126
                    · refine lv_aload_n hx hb dX12_among_83 rfl (lv_at hl 5 rfl) ?_
                      refine lv_iload hx hb dX12_among_84 (lv_at hl 3 rfl) ?_
                      refine lv_iconst (v := iv 1) hx hb dX12_among_86 (by decide) ?_
                      refine r_iadd hx hb dX12_among_87 ?_
                      refine lv_iload hx hb dX12_among_88 (lv_at hl 0 rfl) ?_
                      refine r_iadd hx hb dX12_among_90 ?_
                      refine sBi (sVz (As := [.int (iv ((i + 1) + j))]) (rest := []) (a := G.1.2 100 si) Cx (s_J0_charAt_5068e l G S (si := si) (k := (i + 1) + j) hsi (by omega)) (c_X12_285 Cx rfl rfl (rmk_ok (by omega) (by decide))) hW (zRecv Cx hW0 hW hsi) rfl hl.1 rfl (Nat.le_of_ble_eq_true rfl) dX12_among_91 ⟨Nat.le_of_ble_eq_true rfl, Nat.le_of_ble_eq_true rfl⟩) hL (fun r_32 u_30 H locs k_31 hW hL => ?_)
                      obtain ⟨eu_30, xu_30⟩ := k_31
                      rw [eu_30] at hW
                      refine lv_aload_n hx hb dX12_among_94 rfl (lv_at hl 4 rfl) ?_
                      refine g_X12_44 Cx hW (k := 231) (by decide) rfl (v := .ref (G.2.2.1 + 243)) (rd_13 hI) dX12_among_95 ?_
                      refine lv_iload_n hx hb dX12_among_98 rfl (lv_at hl 6 rfl) ?_
                      refine lv_iload hx hb dX12_among_99 (lv_at hl 0 rfl) ?_
                      refine r_iadd hx hb dX12_among_101 ?_
                      refine rBald Cx hW (k := 243) (by decide) rfl (by decide) (by omega) (by omega) dX12_among_102 ?_
                      have q_33 : (-128) ≤ S.2.1 243 (a + j) ∧ S.2.1 243 (a + j) ≤ 127 := hI.ai 243 (a + j)
                      refine r_i (b := S.2.1 243 (a + j)) rfl ?_
                      refine r_icmp_ne (tgt := 110) hx hb ⟨(by omega), (by omega)⟩ ⟨(by omega), (by omega)⟩ dX12_among_103 (by decide) (fun c_34 => ?_) (fun c_34 => ?_)
                      · refine lv_iconst (v := iv 0) hx hb dX12_among_110 (by decide) ?_
                        refine lv_istore (lv' := [(6, .int (iv 0)), (7, .int (iv j)), (4, .int (iv (k + 1))), (5, .int (iv i)), (0, .ref (G.2.2.1 + 231)), (1, .ref (G.1.2 100 si)), (2, .int (iv a)), (3, .int (iv b))]) hx hb dX12_among_111 hl (by decide) rfl (fun ls hl => ?_)
                        refine lv_iinc (v := iv (j + 1)) (lv' := [(7, .int (iv (j + 1))), (6, .int (iv 0)), (4, .int (iv (k + 1))), (5, .int (iv i)), (0, .ref (G.2.2.1 + 231)), (1, .ref (G.1.2 100 si)), (2, .int (iv a)), (3, .int (iv b))]) hx hb dX12_among_113 hl (k := 1) rfl ((Int32.ofInt_add _ _).symm) (by decide) rfl (fun ls hl => ?_)
                        refine lv_goto (tgt := 72) hx hb dX12_among_116 (by decide) ?_
                        exact ih_72 (j + 1) 0 _ _ _ (by omega) (by omega) (by omega) hW hL (lv_sub hl [0, 1, 2, 3, 4, 5, 6, 7] rfl)
                      · refine lv_iconst (v := iv 1) hx hb dX12_among_106 (by decide) ?_
                        refine lv_goto (tgt := 111) hx hb dX12_among_107 (by decide) ?_
                        refine lv_istore (lv' := [(6, .int (iv 1)), (7, .int (iv j)), (4, .int (iv (k + 1))), (5, .int (iv i)), (0, .ref (G.2.2.1 + 231)), (1, .ref (G.1.2 100 si)), (2, .int (iv a)), (3, .int (iv b))]) hx hb dX12_among_111 hl (by decide) rfl (fun ls hl => ?_)
                        refine lv_iinc (v := iv (j + 1)) (lv' := [(7, .int (iv (j + 1))), (6, .int (iv 1)), (4, .int (iv (k + 1))), (5, .int (iv i)), (0, .ref (G.2.2.1 + 231)), (1, .ref (G.1.2 100 si)), (2, .int (iv a)), (3, .int (iv b))]) hx hb dX12_among_113 hl (k := 1) rfl ((Int32.ofInt_add _ _).symm) (by decide) rfl (fun ls hl => ?_)
                        refine lv_goto (tgt := 72) hx hb dX12_among_116 (by decide) ?_
                        exact ih_72 (j + 1) 1 _ _ _ (by omega) (by omega) (by omega) hW hL (lv_sub hl [0, 1, 2, 3, 4, 5, 6, 7] rfl)
              exact loop_72 (_ + 1) 0 0 _ _ _ (Nat.lt_succ_self _) (by omega) (by omega) hW hL (lv_sub hl [0, 1, 2, 3, 4, 5, 6, 7] rfl)
            · refine lv_iconst (v := iv 1) hx hb dX12_among_62 (by decide) ?_
              refine lv_goto (tgt := 67) hx hb dX12_among_63 (by decide) ?_
              refine lv_istore (lv' := [(6, .int (iv 1)), (4, .int (iv (k + 1))), (5, .int (iv i)), (0, .ref (G.2.2.1 + 231)), (1, .ref (G.1.2 100 si)), (2, .int (iv a)), (3, .int (iv b))]) hx hb dX12_among_67 hl (by decide) rfl (fun ls hl => ?_)
              refine lv_iconst (v := iv 0) hx hb dX12_among_69 (by decide) ?_
              refine lv_istore (lv' := [(7, .int (iv 0)), (6, .int (iv 1)), (4, .int (iv (k + 1))), (5, .int (iv i)), (0, .ref (G.2.2.1 + 231)), (1, .ref (G.1.2 100 si)), (2, .int (iv a)), (3, .int (iv b))]) hx hb dX12_among_70 hl (by decide) rfl (fun ls hl => ?_)
              have loop_72 : ∀ (fuel : Nat) (j : Int) (ok : Int) (H : Heap) (locs : List Loc) (ls : Array Slot), (b - j).toNat < fuel → (0 ≤ j ∧ j ≤ b) → ((0 ≤ ok ∧ ok ≤ 1) ∧ (ok = 1 → i + b + 1 < ((strN.getD si 0 : Nat) : Int))) → sW G 294 S H → sL G locs → lv_has ls 8 [(7, .int (iv j)), (6, .int (iv ok)), (4, .int (iv (k + 1))), (5, .int (iv i)), (0, .ref (G.2.2.1 + 231)), (1, .ref (G.1.2 100 si)), (2, .int (iv a)), (3, .int (iv b))] → W p l e (rmk 5 0 0) s m args below meth c H locs 0 0 (MQ below (sQi G 294 (fun r u => u = S ∧ (-1 ≤ r ∧ r ≤ 70))) args s 0 0 (sF G)) (F0 m 72 ls []) := by
                intro fuel
                induction fuel with
                | zero => intro j ok H locs ls hmeas hj hok hW hL hl; exact absurd hmeas (Nat.not_lt_zero _)
                | succ fuel ih_72 =>
                  intro j ok H locs ls hmeas hj hok hW hL hl
                  refine lv_iload hx hb dX12_among_72 (lv_at hl 0 rfl) ?_
                  refine lv_iload_n hx hb dX12_among_74 rfl (lv_at hl 7 rfl) ?_
                  refine r_icmp_ge (tgt := 119) hx hb ⟨(by omega), (by omega)⟩ ⟨(by omega), (by omega)⟩ dX12_among_75 (by decide) (fun c_35 => ?_) (fun c_35 => ?_)
                  · refine lv_iload hx hb dX12_among_119 (lv_at hl 1 rfl) ?_
                    refine r_if_eq (tgt := 127) hx hb ⟨(by omega), (by omega)⟩ dX12_among_121 (by decide) (fun c_36 => ?_) (fun c_36 => ?_)
                    · refine lv_iinc (v := iv (i + 1)) (lv' := [(5, .int (iv (i + 1))), (7, .int (iv j)), (6, .int (iv ok)), (4, .int (iv (k + 1))), (0, .ref (G.2.2.1 + 231)), (1, .ref (G.1.2 100 si)), (2, .int (iv a)), (3, .int (iv b))]) hx hb dX12_among_127 hl (k := 3) rfl ((Int32.ofInt_add _ _).symm) (by decide) rfl (fun ls hl => ?_)
                      refine lv_goto (tgt := 6) hx hb dX12_among_130 (by decide) ?_
                      exact ih_6 (i + 1) (k + 1) _ _ _ (by omega) (by omega) (by omega) hW hL (lv_sub hl [0, 3, 4, 5, 6, 7] rfl)
                    · refine lv_iload hx hb dX12_among_124 (lv_at hl 2 rfl) ?_
                      exact sIret Cx hr hlk hW hL ⟨rfl, (by omega)⟩ dX12_among_126
                  · refine lv_iload hx hb dX12_among_78 (lv_at hl 1 rfl) ?_
                    refine r_if_eq (tgt := 119) hx hb ⟨(by omega), (by omega)⟩ dX12_among_80 (by decide) (fun c_37 => ?_) (fun c_37 => ?_)
                    · refine lv_iload hx hb dX12_among_119 (lv_at hl 1 rfl) ?_
                      refine r_if_eq (tgt := 127) hx hb ⟨(by omega), (by omega)⟩ dX12_among_121 (by decide) (fun c_38 => ?_) (fun c_38 => ?_)
                      · refine lv_iinc (v := iv (i + 1)) (lv' := [(5, .int (iv (i + 1))), (7, .int (iv j)), (6, .int (iv ok)), (4, .int (iv (k + 1))), (0, .ref (G.2.2.1 + 231)), (1, .ref (G.1.2 100 si)), (2, .int (iv a)), (3, .int (iv b))]) hx hb dX12_among_127 hl (k := 3) rfl ((Int32.ofInt_add _ _).symm) (by decide) rfl (fun ls hl => ?_)
                        refine lv_goto (tgt := 6) hx hb dX12_among_130 (by decide) ?_
                        exact ih_6 (i + 1) (k + 1) _ _ _ (by omega) (by omega) (by omega) hW hL (lv_sub hl [0, 3, 4, 5, 6, 7] rfl)
                      · refine lv_iload hx hb dX12_among_124 (lv_at hl 2 rfl) ?_
                        exact sIret Cx hr hlk hW hL ⟨rfl, (by omega)⟩ dX12_among_126
                    · refine lv_aload_n hx hb dX12_among_83 rfl (lv_at hl 5 rfl) ?_
                      refine lv_iload hx hb dX12_among_84 (lv_at hl 3 rfl) ?_
                      refine lv_iconst (v := iv 1) hx hb dX12_among_86 (by decide) ?_
                      refine r_iadd hx hb dX12_among_87 ?_
                      refine lv_iload hx hb dX12_among_88 (lv_at hl 0 rfl) ?_
                      refine r_iadd hx hb dX12_among_90 ?_
                      refine sBi (sVz (As := [.int (iv ((i + 1) + j))]) (rest := []) (a := G.1.2 100 si) Cx (s_J0_charAt_5068e l G S (si := si) (k := (i + 1) + j) hsi (by omega)) (c_X12_285 Cx rfl rfl (rmk_ok (by omega) (by decide))) hW (zRecv Cx hW0 hW hsi) rfl hl.1 rfl (Nat.le_of_ble_eq_true rfl) dX12_among_91 ⟨Nat.le_of_ble_eq_true rfl, Nat.le_of_ble_eq_true rfl⟩) hL (fun r_41 u_39 H locs k_40 hW hL => ?_)
                      obtain ⟨eu_39, xu_39⟩ := k_40
                      rw [eu_39] at hW
                      refine lv_aload_n hx hb dX12_among_94 rfl (lv_at hl 4 rfl) ?_
                      refine g_X12_44 Cx hW (k := 231) (by decide) rfl (v := .ref (G.2.2.1 + 243)) (rd_13 hI) dX12_among_95 ?_
                      refine lv_iload_n hx hb dX12_among_98 rfl (lv_at hl 6 rfl) ?_
                      refine lv_iload hx hb dX12_among_99 (lv_at hl 0 rfl) ?_
                      refine r_iadd hx hb dX12_among_101 ?_
                      refine rBald Cx hW (k := 243) (by decide) rfl (by decide) (by omega) (by omega) dX12_among_102 ?_
                      have q_42 : (-128) ≤ S.2.1 243 (a + j) ∧ S.2.1 243 (a + j) ≤ 127 := hI.ai 243 (a + j)
                      refine r_i (b := S.2.1 243 (a + j)) rfl ?_
                      refine r_icmp_ne (tgt := 110) hx hb ⟨(by omega), (by omega)⟩ ⟨(by omega), (by omega)⟩ dX12_among_103 (by decide) (fun c_43 => ?_) (fun c_43 => ?_)
                      · refine lv_iconst (v := iv 0) hx hb dX12_among_110 (by decide) ?_
                        refine lv_istore (lv' := [(6, .int (iv 0)), (7, .int (iv j)), (4, .int (iv (k + 1))), (5, .int (iv i)), (0, .ref (G.2.2.1 + 231)), (1, .ref (G.1.2 100 si)), (2, .int (iv a)), (3, .int (iv b))]) hx hb dX12_among_111 hl (by decide) rfl (fun ls hl => ?_)
                        refine lv_iinc (v := iv (j + 1)) (lv' := [(7, .int (iv (j + 1))), (6, .int (iv 0)), (4, .int (iv (k + 1))), (5, .int (iv i)), (0, .ref (G.2.2.1 + 231)), (1, .ref (G.1.2 100 si)), (2, .int (iv a)), (3, .int (iv b))]) hx hb dX12_among_113 hl (k := 1) rfl ((Int32.ofInt_add _ _).symm) (by decide) rfl (fun ls hl => ?_)
                        refine lv_goto (tgt := 72) hx hb dX12_among_116 (by decide) ?_
                        exact ih_72 (j + 1) 0 _ _ _ (by omega) (by omega) (by omega) hW hL (lv_sub hl [0, 1, 2, 3, 4, 5, 6, 7] rfl)
                      · refine lv_iconst (v := iv 1) hx hb dX12_among_106 (by decide) ?_
                        refine lv_goto (tgt := 111) hx hb dX12_among_107 (by decide) ?_
                        refine lv_istore (lv' := [(6, .int (iv 1)), (7, .int (iv j)), (4, .int (iv (k + 1))), (5, .int (iv i)), (0, .ref (G.2.2.1 + 231)), (1, .ref (G.1.2 100 si)), (2, .int (iv a)), (3, .int (iv b))]) hx hb dX12_among_111 hl (by decide) rfl (fun ls hl => ?_)
                        refine lv_iinc (v := iv (j + 1)) (lv' := [(7, .int (iv (j + 1))), (6, .int (iv 1)), (4, .int (iv (k + 1))), (5, .int (iv i)), (0, .ref (G.2.2.1 + 231)), (1, .ref (G.1.2 100 si)), (2, .int (iv a)), (3, .int (iv b))]) hx hb dX12_among_113 hl (k := 1) rfl ((Int32.ofInt_add _ _).symm) (by decide) rfl (fun ls hl => ?_)
                        refine lv_goto (tgt := 72) hx hb dX12_among_116 (by decide) ?_
                        exact ih_72 (j + 1) 1 _ _ _ (by omega) (by omega) (by omega) hW hL (lv_sub hl [0, 1, 2, 3, 4, 5, 6, 7] rfl)
              exact loop_72 (_ + 1) 0 1 _ _ _ (Nat.lt_succ_self _) (by omega) (by omega) hW hL (lv_sub hl [0, 1, 2, 3, 4, 5, 6, 7] rfl)
        · refine lv_goto (tgt := 127) hx hb dX12_among_28 (by decide) ?_
          refine lv_iinc (v := iv (i + 1)) (lv' := [(5, .int (iv (i + 1))), (4, .int (iv k)), (0, .ref (G.2.2.1 + 231)), (1, .ref (G.1.2 100 si)), (2, .int (iv a)), (3, .int (iv b))]) hx hb dX12_among_127 hl (k := 0) rfl ((Int32.ofInt_add _ _).symm) (by decide) rfl (fun ls hl => ?_)
          refine lv_goto (tgt := 6) hx hb dX12_among_130 (by decide) ?_
          exact ih_6 (i + 1) k _ _ _ (by omega) (by omega) (by omega) hW hL (lv_sub hl [0, 1, 2, 3, 4, 5] rfl)
  exact loop_6 (_ + 1) 0 ((-1)) _ _ _ (Nat.lt_succ_self _) (by omega) (by omega) hW hL (lv_sub hl [0, 1, 2, 3, 4, 5] rfl)

set_option maxRecDepth 100000 in
set_option maxHeartbeats 4000000 in
theorem s_X12_token (l : Launch) (G : sG) (S : sS) {k f wd v : Int} (hI : dX G S) (hk : -2147483648 ≤ k ∧ k ≤ 2147483647) (hf : -2147483648 ≤ f ∧ f ≤ 2147483647) (hwd : -2147483648 ≤ wd ∧ wd ≤ 2147483647) (hv : -2147483648 ≤ v ∧ v ≤ 2147483647) (h19 : 0 ≤ S.1 231 19 ∧ S.1 231 19 ≤ 30001) : Met l yX12_token (.code yX12_token cX12_token 5 none :: tb) (rmk 1 0 0) (sPc G 294 S [.ref (G.2.2.1 + 231), .int (iv k), .int (iv f), .int (iv wd), .int (iv v)]) (sQv G 294 (fun u => dX G u ∧ Fr S u (pl [231, 244, 245, 246, 247]) ∧ FF S u (fl [19]) ∧ (u.1 231 19 = S.1 231 19 + 1 ∧ tkR S u (S.1 231 19) k f wd v))) 0 0 (sF G) := by
  refine sEnter (by decide) (Nat.le_of_ble_eq_true rfl) ?_
  intro p e s m args below meth c Cx hr hlk hnm hW ls hl
  have Cx : sC G p m c cX12_token 5 s args RX12 := Cx
  obtain ⟨hx, hb, hml, hown, hts⟩ := id Cx.1
  have hL : sL G [] := sL_nil
  have hl : lv_has ls 5 [(0, .ref (G.2.2.1 + 231)), (1, .int (iv k)), (2, .int (iv f)), (3, .int (iv wd)), (4, .int (iv v))] := hl
  have hW0 := hW
  refine lv_aload_n hx hb dX12_token_0 rfl (lv_at hl 0 rfl) ?_
  refine g_X12_47 Cx hW (k := 231) (by decide) rfl (v := .ref (G.2.2.1 + 244)) (rd_15 hI) dX12_token_1 ?_
  refine lv_aload_n hx hb dX12_token_4 rfl (lv_at hl 0 rfl) ?_
  have q_1 : (-2147483648) ≤ S.1 231 19 ∧ S.1 231 19 ≤ 2147483647 := hI.fi 19
  refine g_X12_289 Cx hW (k := 231) (by decide) rfl (v := S.1 231 19) rfl dX12_token_5 ?_
  refine lv_iload_n hx hb dX12_token_8 rfl (lv_at hl 1 rfl) ?_
  refine rIast Cx hW hL (k := 244) (by decide) rfl (by decide) (by omega) (by omega) dX12_token_9 (fun H locs hW hL => ?_)
  have F_2 : Fr S (uA S 244 (S.1 231 19) k) (pl [231, 244, 245, 246, 247]) := (Fr.rf : Fr S S (pl [231, 244, 245, 246, 247])).A rfl
  have i_3 : dX G (uA S 244 (S.1 231 19) k) := hI.A (k := 244) (show (-2147483648) ≤ k ∧ k ≤ 2147483647 from ⟨by omega, by omega⟩)
  refine lv_aload_n hx hb dX12_token_10 rfl (lv_at hl 0 rfl) ?_
  refine g_X12_50 Cx hW (k := 231) (by decide) rfl (v := .ref (G.2.2.1 + 245)) (rd_16 i_3) dX12_token_11 ?_
  refine lv_aload_n hx hb dX12_token_14 rfl (lv_at hl 0 rfl) ?_
  refine g_X12_289 Cx hW (k := 231) (by decide) rfl (v := S.1 231 19) uA_f dX12_token_15 ?_
  refine lv_iload_n hx hb dX12_token_18 rfl (lv_at hl 2 rfl) ?_
  refine rIast Cx hW hL (k := 245) (by decide) rfl (by decide) (by omega) (by omega) dX12_token_19 (fun H locs hW hL => ?_)
  have F_4 : Fr S (uA (uA S 244 (S.1 231 19) k) 245 (S.1 231 19) f) (pl [231, 244, 245, 246, 247]) := F_2.A rfl
  have i_5 : dX G (uA (uA S 244 (S.1 231 19) k) 245 (S.1 231 19) f) := i_3.A (k := 245) (show (-2147483648) ≤ f ∧ f ≤ 2147483647 from ⟨by omega, by omega⟩)
  refine lv_aload_n hx hb dX12_token_20 rfl (lv_at hl 0 rfl) ?_
  refine g_X12_53 Cx hW (k := 231) (by decide) rfl (v := .ref (G.2.2.1 + 246)) (rd_17 i_5) dX12_token_21 ?_
  refine lv_aload_n hx hb dX12_token_24 rfl (lv_at hl 0 rfl) ?_
  refine g_X12_289 Cx hW (k := 231) (by decide) rfl (v := S.1 231 19) ((uA_f).trans (uA_f)) dX12_token_25 ?_
  refine lv_iload_n hx hb dX12_token_28 rfl (lv_at hl 3 rfl) ?_
  refine rIast Cx hW hL (k := 246) (by decide) rfl (by decide) (by omega) (by omega) dX12_token_29 (fun H locs hW hL => ?_)
  have F_6 : Fr S (uA (uA (uA S 244 (S.1 231 19) k) 245 (S.1 231 19) f) 246 (S.1 231 19) wd) (pl [231, 244, 245, 246, 247]) := F_4.A rfl
  have i_7 : dX G (uA (uA (uA S 244 (S.1 231 19) k) 245 (S.1 231 19) f) 246 (S.1 231 19) wd) := i_5.A (k := 246) (show (-2147483648) ≤ wd ∧ wd ≤ 2147483647 from ⟨by omega, by omega⟩)
  refine lv_aload_n hx hb dX12_token_30 rfl (lv_at hl 0 rfl) ?_
  refine g_X12_56 Cx hW (k := 231) (by decide) rfl (v := .ref (G.2.2.1 + 247)) (rd_18 i_7) dX12_token_31 ?_
  refine lv_aload_n hx hb dX12_token_34 rfl (lv_at hl 0 rfl) ?_
  refine g_X12_289 Cx hW (k := 231) (by decide) rfl (v := S.1 231 19) ((uA_f).trans ((uA_f).trans (uA_f))) dX12_token_35 ?_
  refine lv_iload hx hb dX12_token_38 (lv_at hl 4 rfl) ?_
  refine rIast Cx hW hL (k := 247) (by decide) rfl (by decide) (by omega) (by omega) dX12_token_40 (fun H locs hW hL => ?_)
  have F_8 : Fr S (uA (uA (uA (uA S 244 (S.1 231 19) k) 245 (S.1 231 19) f) 246 (S.1 231 19) wd) 247 (S.1 231 19) v) (pl [231, 244, 245, 246, 247]) := F_6.A rfl
  have i_9 : dX G (uA (uA (uA (uA S 244 (S.1 231 19) k) 245 (S.1 231 19) f) 246 (S.1 231 19) wd) 247 (S.1 231 19) v) := i_7.A (k := 247) (show (-2147483648) ≤ v ∧ v ≤ 2147483647 from ⟨by omega, by omega⟩)
  refine lv_aload_n hx hb dX12_token_41 rfl (lv_at hl 0 rfl) ?_
  refine lv_dup hx hb dX12_token_42 rfl ?_
  refine g_X12_289 Cx hW (k := 231) (by decide) rfl (v := S.1 231 19) ((uA_f).trans ((uA_f).trans ((uA_f).trans (uA_f)))) dX12_token_43 ?_
  refine lv_iconst (v := iv 1) hx hb dX12_token_46 (by decide) ?_
  refine r_iadd hx hb dX12_token_47 ?_
  refine p_X12_289 Cx hW hL (k := 231) (by decide) rfl dX12_token_48 (fun H locs hW hL => ?_)
  have F_10 : Fr S (uF (uA (uA (uA (uA S 244 (S.1 231 19) k) 245 (S.1 231 19) f) 246 (S.1 231 19) wd) 247 (S.1 231 19) v) 231 19 ((S.1 231 19) + 1)) (pl [231, 244, 245, 246, 247]) := F_8.F rfl
  have g_11 : FF S (uF (uA (uA (uA (uA S 244 (S.1 231 19) k) 245 (S.1 231 19) f) 246 (S.1 231 19) wd) 247 (S.1 231 19) v) 231 19 ((S.1 231 19) + 1)) (fl [19]) := FF.F FF.rf rfl
  have i_12 : dX G (uF (uA (uA (uA (uA S 244 (S.1 231 19) k) 245 (S.1 231 19) f) 246 (S.1 231 19) wd) 247 (S.1 231 19) v) 231 19 ((S.1 231 19) + 1)) := i_9.F (i := 19) (show (-2147483648) ≤ (S.1 231 19) + 1 ∧ (S.1 231 19) + 1 ≤ 2147483647 from ⟨by omega, by omega⟩)
  have lk_13 : (uF (uA (uA (uA (uA S 244 (S.1 231 19) k) 245 (S.1 231 19) f) 246 (S.1 231 19) wd) 247 (S.1 231 19) v) 231 19 ((S.1 231 19) + 1)).1 231 19 = (S.1 231 19) + 1 := uF_on
  exact sVret Cx hr hlk hW hL ⟨i_12, F_10, g_11, ⟨(by have y := (show (uF (uA (uA (uA (uA S 244 (S.1 231 19) k) 245 (S.1 231 19) f) 246 (S.1 231 19) wd) 247 (S.1 231 19) v) 231 19 ((S.1 231 19) + 1)).1 231 19 = (S.1 231 19) + 1 from uF_on); omega), ⟨(fun x => by rw [show (uF (uA (uA (uA (uA S 244 (S.1 231 19) k) 245 (S.1 231 19) f) 246 (S.1 231 19) wd) 247 (S.1 231 19) v) 231 19 ((S.1 231 19) + 1)).2.1 244 x = (uA S 244 (S.1 231 19) k).2.1 244 x from (uF_a).trans ((uA_ne (fun h => absurd h.1 (by decide))).trans ((uA_ne (fun h => absurd h.1 (by decide))).trans (uA_ne (fun h => absurd h.1 (by decide))))), uA_get]; by_cases z : x = S.1 231 19; (rw [if_pos ⟨rfl, z⟩, if_pos z]); exact (if_neg (fun h => z h.2)).trans ((rfl).trans (if_neg z).symm)), (fun x => by rw [show (uF (uA (uA (uA (uA S 244 (S.1 231 19) k) 245 (S.1 231 19) f) 246 (S.1 231 19) wd) 247 (S.1 231 19) v) 231 19 ((S.1 231 19) + 1)).2.1 245 x = (uA (uA S 244 (S.1 231 19) k) 245 (S.1 231 19) f).2.1 245 x from (uF_a).trans ((uA_ne (fun h => absurd h.1 (by decide))).trans (uA_ne (fun h => absurd h.1 (by decide)))), uA_get]; by_cases z : x = S.1 231 19; (rw [if_pos ⟨rfl, z⟩, if_pos z]); exact (if_neg (fun h => z h.2)).trans ((uA_ne (fun h => absurd h.1 (by decide))).trans (if_neg z).symm)), (fun x => by rw [show (uF (uA (uA (uA (uA S 244 (S.1 231 19) k) 245 (S.1 231 19) f) 246 (S.1 231 19) wd) 247 (S.1 231 19) v) 231 19 ((S.1 231 19) + 1)).2.1 246 x = (uA (uA (uA S 244 (S.1 231 19) k) 245 (S.1 231 19) f) 246 (S.1 231 19) wd).2.1 246 x from (uF_a).trans (uA_ne (fun h => absurd h.1 (by decide))), uA_get]; by_cases z : x = S.1 231 19; (rw [if_pos ⟨rfl, z⟩, if_pos z]); exact (if_neg (fun h => z h.2)).trans (((uA_ne (fun h => absurd h.1 (by decide))).trans (uA_ne (fun h => absurd h.1 (by decide)))).trans (if_neg z).symm)), (fun x => by rw [show (uF (uA (uA (uA (uA S 244 (S.1 231 19) k) 245 (S.1 231 19) f) 246 (S.1 231 19) wd) 247 (S.1 231 19) v) 231 19 ((S.1 231 19) + 1)).2.1 247 x = (uA (uA (uA (uA S 244 (S.1 231 19) k) 245 (S.1 231 19) f) 246 (S.1 231 19) wd) 247 (S.1 231 19) v).2.1 247 x from uF_a, uA_get]; by_cases z : x = S.1 231 19; (rw [if_pos ⟨rfl, z⟩, if_pos z]); exact (if_neg (fun h => z h.2)).trans (((uA_ne (fun h => absurd h.1 (by decide))).trans ((uA_ne (fun h => absurd h.1 (by decide))).trans (uA_ne (fun h => absurd h.1 (by decide))))).trans (if_neg z).symm))⟩⟩⟩ dX12_token_51

set_option maxRecDepth 100000 in
set_option maxHeartbeats 4000000 in
theorem s_X12_tokenize (l : Launch) (G : sG) (S : sS)  (hI : dX G S) (h14 : 0 ≤ S.1 231 14 ∧ S.1 231 14 ≤ 30000) : Met l yX12_tokenize (.code yX12_tokenize cX12_tokenize 5 none :: tb) (rmk 6 0 0) (sPc G 294 S [.ref (G.2.2.1 + 231)]) (sQv G 294 (fun u => dX G u ∧ Fr S u (pl [231, 244, 245, 246, 247]) ∧ FF S u (fl [19]) ∧ (dTO u))) 0 0 (sF G) := by
  refine sEnter (by decide) (Nat.le_of_ble_eq_true rfl) ?_
  intro p e s m args below meth c Cx hr hlk hnm hW ls hl
  have Cx : sC G p m c cX12_tokenize 5 s args RX12 := Cx
  obtain ⟨hx, hb, hml, hown, hts⟩ := id Cx.1
  have hL : sL G [] := sL_nil
  have hl : lv_has ls 5 [(0, .ref (G.2.2.1 + 231))] := hl
  have hW0 := hW
  refine lv_aload_n hx hb dX12_tokenize_0 rfl (lv_at hl 0 rfl) ?_
  refine lv_iconst (v := iv 0) hx hb dX12_tokenize_1 (by decide) ?_
  refine p_X12_289 Cx hW hL (k := 231) (by decide) rfl dX12_tokenize_2 (fun H locs hW hL => ?_)
  have F_1 : Fr S (uF S 231 19 0) (pl [231, 244, 245, 246, 247]) := (Fr.rf : Fr S S (pl [231, 244, 245, 246, 247])).F rfl
  have g_2 : FF S (uF S 231 19 0) (fl [19]) := FF.F FF.rf rfl
  have i_3 : dX G (uF S 231 19 0) := hI.F (i := 19) (show (-2147483648) ≤ 0 ∧ 0 ≤ 2147483647 from ⟨by omega, by omega⟩)
  refine lv_iconst (v := iv 0) hx hb dX12_tokenize_5 (by decide) ?_
  refine lv_istore_n (lv' := [(1, .int (iv 0)), (0, .ref (G.2.2.1 + 231))]) hx hb dX12_tokenize_6 rfl hl (by decide) rfl (fun ls hl => ?_)
  have loop_7 : ∀ (fuel : Nat) (S7 : sS) (ps : Int) (H : Heap) (locs : List Loc) (ls : Array Slot), (S.1 231 14 - ps).toNat < fuel → (dX G S7) → (Fr S S7 (pl [231, 244, 245, 246, 247])) → (Fr ((uF S 231 19 0)) S7 (pl [231, 244, 245, 246, 247])) → (FF S S7 (fl [19])) → (FF ((uF S 231 19 0)) S7 (fl [19])) → (0 ≤ ps ∧ ps ≤ S.1 231 14) → (0 ≤ S7.1 231 19 ∧ S7.1 231 19 ≤ ps) → (dTP S7 (S7.1 231 19)) → (dTE S7 (S7.1 231 19)) → sW G 294 S7 H → sL G locs → lv_has ls 5 [(1, .int (iv ps)), (0, .ref (G.2.2.1 + 231))] → W p l e (rmk 6 0 0) s m args below meth c H locs 0 0 (MQ below (sQv G 294 (fun u => dX G u ∧ Fr S u (pl [231, 244, 245, 246, 247]) ∧ FF S u (fl [19]) ∧ (dTO u))) args s 0 0 (sF G)) (F0 m 7 ls []) := by
    intro fuel
    induction fuel with
    | zero => intro S7 ps H locs ls hmeas hI7 hFm7 hL7_ hGm7 gL7_ hp hT hTP hTE hW hL hl; exact absurd hmeas (Nat.not_lt_zero _)
    | succ fuel ih_7 =>
      intro S7 ps H locs ls hmeas hI7 hFm7 hL7_ hGm7 gL7_ hp hT hTP hTE hW hL hl
      have z14 : S7.1 231 14 = S.1 231 14 := hGm7 14 rfl
      refine lv_iload_n hx hb dX12_tokenize_7 rfl (lv_at hl 0 rfl) ?_
      refine lv_aload_n hx hb dX12_tokenize_8 rfl (lv_at hl 1 rfl) ?_
      have q_4 : (-2147483648) ≤ S.1 231 14 ∧ S.1 231 14 ≤ 2147483647 := hI.fi 14
      refine g_X12_276 Cx hW (k := 231) (by decide) rfl (v := S.1 231 14) ((gL7_ 14 rfl).trans (uF_ne (fun h => absurd h.2 (by decide)))) dX12_tokenize_9 ?_
      refine r_icmp_ge (tgt := 289) hx hb ⟨(by omega), (by omega)⟩ ⟨(by omega), (by omega)⟩ dX12_tokenize_12 (by decide) (fun c_5 => ?_) (fun c_5 => ?_)
      · refine lv_aload_n hx hb dX12_tokenize_289 rfl (lv_at hl 1 rfl) ?_
        have q_6 : (-2147483648) ≤ S7.1 231 19 ∧ S7.1 231 19 ≤ 2147483647 := hI7.fi 19
        refine g_X12_289 Cx hW (k := 231) (by decide) rfl (v := S7.1 231 19) rfl dX12_tokenize_290 ?_
        refine r_if_eq (tgt := 312) hx hb ⟨(by omega), (by omega)⟩ dX12_tokenize_293 (by decide) (fun c_7 => ?_) (fun c_7 => ?_)
        · refine lv_aload_n hx hb dX12_tokenize_312 rfl (lv_at hl 1 rfl) ?_
          refine lv_iconst (v := iv 5) hx hb dX12_tokenize_313 (by decide) ?_
          refine lv_aload_n hx hb dX12_tokenize_314 rfl (lv_at hl 1 rfl) ?_
          refine g_X12_276 Cx hW (k := 231) (by decide) rfl (v := S.1 231 14) ((gL7_ 14 rfl).trans (uF_ne (fun h => absurd h.2 (by decide)))) dX12_tokenize_315 ?_
          refine lv_iconst (v := iv 0) hx hb dX12_tokenize_318 (by decide) ?_
          refine lv_iconst (v := iv 0) hx hb dX12_tokenize_319 (by decide) ?_
          refine sBv (sV (As := [.int (iv 5), .int (iv (S.1 231 14)), .int (iv 0), .int (iv 0)]) (rest := []) (k := 231) Cx (s_X12_token l G S7 (k := 5) (f := S.1 231 14) (wd := 0) (v := 0) hI7 (by omega) (by omega) (by omega) (by omega) (by omega)) (c_X12_308 Cx rfl rfl (rmk_ok (by omega) (by decide))) hW (by decide) rfl rfl rfl hl.1 rfl (Nat.le_of_ble_eq_true rfl) dX12_tokenize_320 ⟨Nat.le_of_ble_eq_true rfl, Nat.le_of_ble_eq_true rfl⟩) hL (fun u_8 H locs k_9 hW hL => ?_)
          obtain ⟨iu_8, fu_8, gu_8, xu_8⟩ := k_9
          have F_10 := hFm7.trans fu_8
          have F_11 := hL7_.trans fu_8
          have g_12 : FF S u_8 (fl [19]) := FF.trans hGm7 (FF.to gu_8 (fl_sub (by decide)))
          have g_13 : FF ((uF S 231 19 0)) u_8 (fl [19]) := FF.trans gL7_ (FF.to gu_8 (fl_sub (by decide)))
          have hTO : dTO u_8 := dTO.mk1 (T := S7.1 231 19) xu_8.1 (by have y := gu_8 14 rfl; omega) (hTP.tok xu_8.2 (gu_8 14 rfl) (by omega) (by omega)) (hTE.tok xu_8.2) (.inl (by rw [xu_8.2.1, if_pos rfl]))
          refine lv_aload_n hx hb dX12_tokenize_323 rfl (lv_at hl 1 rfl) ?_
          have q_14 : (-2147483648) ≤ u_8.1 231 19 ∧ u_8.1 231 19 ≤ 2147483647 := iu_8.fi 19
          refine g_X12_289 Cx hW (k := 231) (by decide) rfl (v := u_8.1 231 19) rfl dX12_tokenize_324 ?_
          refine lv_istore_n (lv' := [(2, .int (iv (u_8.1 231 19))), (1, .int (iv ps)), (0, .ref (G.2.2.1 + 231))]) hx hb dX12_tokenize_327 rfl hl (by decide) rfl (fun ls hl => ?_)
          have loop_328 : ∀ (fuel : Nat) (S328 : sS) (i : Int) (H : Heap) (locs : List Loc) (ls : Array Slot), (40000 - i).toNat < fuel → (dX G S328) → (Fr S S328 (pl [231, 244, 245, 246, 247])) → (Fr u_8 S328 (pl [244])) → (FF S S328 (fl [19])) → (FF u_8 S328 (fl [])) → (u_8.1 231 19 ≤ i ∧ i ≤ u_8.1 231 19 + 3) → (∀ x, x < u_8.1 231 19 → S328.2.1 244 x = u_8.2.1 244 x) → sW G 294 S328 H → sL G locs → lv_has ls 5 [(2, .int (iv i)), (1, .int (iv ps)), (0, .ref (G.2.2.1 + 231))] → W p l e (rmk 6 0 0) s m args below meth c H locs 0 0 (MQ below (sQv G 294 (fun u => dX G u ∧ Fr S u (pl [231, 244, 245, 246, 247]) ∧ FF S u (fl [19]) ∧ (dTO u))) args s 0 0 (sF G)) (F0 m 328 ls []) := by
            intro fuel
            induction fuel with
            | zero => intro S328 i H locs ls hmeas hI328 hFm328 hL328_ hGm328 gL328_ hi h328 hW hL hl; exact absurd hmeas (Nat.not_lt_zero _)
            | succ fuel ih_328 =>
              intro S328 i H locs ls hmeas hI328 hFm328 hL328_ hGm328 gL328_ hi h328 hW hL hl
              refine lv_iload_n hx hb dX12_tokenize_328 rfl (lv_at hl 0 rfl) ?_
              refine lv_aload_n hx hb dX12_tokenize_329 rfl (lv_at hl 2 rfl) ?_
              refine g_X12_289 Cx hW (k := 231) (by decide) rfl (v := u_8.1 231 19) (gL328_ 19 rfl) dX12_tokenize_330 ?_
              refine lv_iconst (v := iv 3) hx hb dX12_tokenize_333 (by decide) ?_
              refine r_iadd hx hb dX12_tokenize_334 ?_
              refine r_icmp_ge (tgt := 351) hx hb ⟨(by omega), (by omega)⟩ ⟨(by omega), (by omega)⟩ dX12_tokenize_335 (by decide) (fun c_15 => ?_) (fun c_15 => ?_)
              · exact sVret Cx hr hlk hW hL ⟨hI328, hFm328, hGm328, (dTO.end hTO (gL328_ 14 rfl) (gL328_ 19 rfl) (fun x a => h328 x (by omega)) (funext fun j => (hL328_ 245 rfl).2.1 j) (funext fun j => (hL328_ 246 rfl).2.1 j) (funext fun j => (hL328_ 247 rfl).2.1 j))⟩ dX12_tokenize_351
              · refine lv_aload_n hx hb dX12_tokenize_338 rfl (lv_at hl 2 rfl) ?_
                refine g_X12_47 Cx hW (k := 231) (by decide) rfl (v := .ref (G.2.2.1 + 244)) (rd_15 hI328) dX12_tokenize_339 ?_
                refine lv_iload_n hx hb dX12_tokenize_342 rfl (lv_at hl 0 rfl) ?_
                refine lv_iconst (v := iv 5) hx hb dX12_tokenize_343 (by decide) ?_
                refine rIast Cx hW hL (k := 244) (by decide) rfl (by decide) (by omega) (by omega) dX12_tokenize_344 (fun H locs hW hL => ?_)
                have F_16 : Fr S (uA S328 244 i 5) (pl [231, 244, 245, 246, 247]) := hFm328.A rfl
                have F_17 : Fr u_8 (uA S328 244 i 5) (pl [244]) := hL328_.A rfl
                have i_18 : dX G (uA S328 244 i 5) := hI328.A (k := 244) (show (-2147483648) ≤ 5 ∧ 5 ≤ 2147483647 from ⟨by omega, by omega⟩)
                refine lv_iinc (v := iv (i + 1)) (lv' := [(2, .int (iv (i + 1))), (1, .int (iv ps)), (0, .ref (G.2.2.1 + 231))]) hx hb dX12_tokenize_345 hl (k := 0) rfl ((Int32.ofInt_add _ _).symm) (by decide) rfl (fun ls hl => ?_)
                refine lv_goto (tgt := 328) hx hb dX12_tokenize_348 (by decide) ?_
                exact ih_328 (uA S328 244 i 5) (i + 1) _ _ _ (by omega) i_18 F_16 F_17 hGm328 gL328_ (by omega) (fun x a => by rw [uA_ne (fun h => by have := h.2; omega)]; exact h328 x a) hW hL (lv_sub hl [0, 1, 2] rfl)
          exact loop_328 (_ + 1) u_8 (u_8.1 231 19) _ _ _ (Nat.lt_succ_self _) iu_8 F_10 Fr.rf g_12 FF.rf (by omega) (fun x _ => rfl) hW hL (lv_sub hl [0, 1, 2] rfl)
        · have hte9 := hTE (S7.1 231 19 - 1) (by omega) (by omega)
          refine lv_aload_n hx hb dX12_tokenize_296 rfl (lv_at hl 1 rfl) ?_
          refine g_X12_47 Cx hW (k := 231) (by decide) rfl (v := .ref (G.2.2.1 + 244)) (rd_15 hI7) dX12_tokenize_297 ?_
          refine lv_aload_n hx hb dX12_tokenize_300 rfl (lv_at hl 1 rfl) ?_
          refine g_X12_289 Cx hW (k := 231) (by decide) rfl (v := S7.1 231 19) rfl dX12_tokenize_301 ?_
          refine lv_iconst (v := iv 1) hx hb dX12_tokenize_304 (by decide) ?_
          refine r_isub hx hb dX12_tokenize_305 ?_
          refine rIald Cx hW (k := 244) (by decide) rfl (by decide) (by omega) (by omega) dX12_tokenize_306 ?_
          have q_19 : (-2147483648) ≤ S7.2.1 244 ((S7.1 231 19) - 1) ∧ S7.2.1 244 ((S7.1 231 19) - 1) ≤ 2147483647 := hI7.ai 244 ((S7.1 231 19) - 1)
          refine r_i (b := S7.2.1 244 ((S7.1 231 19) - 1)) rfl ?_
          refine lv_bipush (v := iv 6) hx hb dX12_tokenize_307 (by decide) ?_
          refine r_icmp_eq (tgt := 323) hx hb ⟨(by omega), (by omega)⟩ ⟨(by omega), (by omega)⟩ dX12_tokenize_309 (by decide) (fun c => absurd c (by omega)) (fun _ => ?_)
          refine lv_aload_n hx hb dX12_tokenize_312 rfl (lv_at hl 1 rfl) ?_
          refine lv_iconst (v := iv 5) hx hb dX12_tokenize_313 (by decide) ?_
          refine lv_aload_n hx hb dX12_tokenize_314 rfl (lv_at hl 1 rfl) ?_
          refine g_X12_276 Cx hW (k := 231) (by decide) rfl (v := S.1 231 14) ((gL7_ 14 rfl).trans (uF_ne (fun h => absurd h.2 (by decide)))) dX12_tokenize_315 ?_
          refine lv_iconst (v := iv 0) hx hb dX12_tokenize_318 (by decide) ?_
          refine lv_iconst (v := iv 0) hx hb dX12_tokenize_319 (by decide) ?_
          refine sBv (sV (As := [.int (iv 5), .int (iv (S.1 231 14)), .int (iv 0), .int (iv 0)]) (rest := []) (k := 231) Cx (s_X12_token l G S7 (k := 5) (f := S.1 231 14) (wd := 0) (v := 0) hI7 (by omega) (by omega) (by omega) (by omega) (by omega)) (c_X12_308 Cx rfl rfl (rmk_ok (by omega) (by decide))) hW (by decide) rfl rfl rfl hl.1 rfl (Nat.le_of_ble_eq_true rfl) dX12_tokenize_320 ⟨Nat.le_of_ble_eq_true rfl, Nat.le_of_ble_eq_true rfl⟩) hL (fun u_20 H locs k_21 hW hL => ?_)
          obtain ⟨iu_20, fu_20, gu_20, xu_20⟩ := k_21
          have F_22 := hFm7.trans fu_20
          have F_23 := hL7_.trans fu_20
          have g_24 : FF S u_20 (fl [19]) := FF.trans hGm7 (FF.to gu_20 (fl_sub (by decide)))
          have g_25 : FF ((uF S 231 19 0)) u_20 (fl [19]) := FF.trans gL7_ (FF.to gu_20 (fl_sub (by decide)))
          have hTO : dTO u_20 := dTO.mk1 (T := S7.1 231 19) xu_20.1 (by have y := gu_20 14 rfl; omega) (hTP.tok xu_20.2 (gu_20 14 rfl) (by omega) (by omega)) (hTE.tok xu_20.2) (.inl (by rw [xu_20.2.1, if_pos rfl]))
          refine lv_aload_n hx hb dX12_tokenize_323 rfl (lv_at hl 1 rfl) ?_
          have q_26 : (-2147483648) ≤ u_20.1 231 19 ∧ u_20.1 231 19 ≤ 2147483647 := iu_20.fi 19
          refine g_X12_289 Cx hW (k := 231) (by decide) rfl (v := u_20.1 231 19) rfl dX12_tokenize_324 ?_
          refine lv_istore_n (lv' := [(2, .int (iv (u_20.1 231 19))), (1, .int (iv ps)), (0, .ref (G.2.2.1 + 231))]) hx hb dX12_tokenize_327 rfl hl (by decide) rfl (fun ls hl => ?_)
          have loop_328 : ∀ (fuel : Nat) (S328 : sS) (i : Int) (H : Heap) (locs : List Loc) (ls : Array Slot), (40000 - i).toNat < fuel → (dX G S328) → (Fr S S328 (pl [231, 244, 245, 246, 247])) → (Fr u_20 S328 (pl [244])) → (FF S S328 (fl [19])) → (FF u_20 S328 (fl [])) → (u_20.1 231 19 ≤ i ∧ i ≤ u_20.1 231 19 + 3) → (∀ x, x < u_20.1 231 19 → S328.2.1 244 x = u_20.2.1 244 x) → sW G 294 S328 H → sL G locs → lv_has ls 5 [(2, .int (iv i)), (1, .int (iv ps)), (0, .ref (G.2.2.1 + 231))] → W p l e (rmk 6 0 0) s m args below meth c H locs 0 0 (MQ below (sQv G 294 (fun u => dX G u ∧ Fr S u (pl [231, 244, 245, 246, 247]) ∧ FF S u (fl [19]) ∧ (dTO u))) args s 0 0 (sF G)) (F0 m 328 ls []) := by
            intro fuel
            induction fuel with
            | zero => intro S328 i H locs ls hmeas hI328 hFm328 hL328_ hGm328 gL328_ hi h328 hW hL hl; exact absurd hmeas (Nat.not_lt_zero _)
            | succ fuel ih_328 =>
              intro S328 i H locs ls hmeas hI328 hFm328 hL328_ hGm328 gL328_ hi h328 hW hL hl
              refine lv_iload_n hx hb dX12_tokenize_328 rfl (lv_at hl 0 rfl) ?_
              refine lv_aload_n hx hb dX12_tokenize_329 rfl (lv_at hl 2 rfl) ?_
              refine g_X12_289 Cx hW (k := 231) (by decide) rfl (v := u_20.1 231 19) (gL328_ 19 rfl) dX12_tokenize_330 ?_
              refine lv_iconst (v := iv 3) hx hb dX12_tokenize_333 (by decide) ?_
              refine r_iadd hx hb dX12_tokenize_334 ?_
              refine r_icmp_ge (tgt := 351) hx hb ⟨(by omega), (by omega)⟩ ⟨(by omega), (by omega)⟩ dX12_tokenize_335 (by decide) (fun c_27 => ?_) (fun c_27 => ?_)
              · exact sVret Cx hr hlk hW hL ⟨hI328, hFm328, hGm328, (dTO.end hTO (gL328_ 14 rfl) (gL328_ 19 rfl) (fun x a => h328 x (by omega)) (funext fun j => (hL328_ 245 rfl).2.1 j) (funext fun j => (hL328_ 246 rfl).2.1 j) (funext fun j => (hL328_ 247 rfl).2.1 j))⟩ dX12_tokenize_351
              · refine lv_aload_n hx hb dX12_tokenize_338 rfl (lv_at hl 2 rfl) ?_
                refine g_X12_47 Cx hW (k := 231) (by decide) rfl (v := .ref (G.2.2.1 + 244)) (rd_15 hI328) dX12_tokenize_339 ?_
                refine lv_iload_n hx hb dX12_tokenize_342 rfl (lv_at hl 0 rfl) ?_
                refine lv_iconst (v := iv 5) hx hb dX12_tokenize_343 (by decide) ?_
                refine rIast Cx hW hL (k := 244) (by decide) rfl (by decide) (by omega) (by omega) dX12_tokenize_344 (fun H locs hW hL => ?_)
                have F_28 : Fr S (uA S328 244 i 5) (pl [231, 244, 245, 246, 247]) := hFm328.A rfl
                have F_29 : Fr u_20 (uA S328 244 i 5) (pl [244]) := hL328_.A rfl
                have i_30 : dX G (uA S328 244 i 5) := hI328.A (k := 244) (show (-2147483648) ≤ 5 ∧ 5 ≤ 2147483647 from ⟨by omega, by omega⟩)
                refine lv_iinc (v := iv (i + 1)) (lv' := [(2, .int (iv (i + 1))), (1, .int (iv ps)), (0, .ref (G.2.2.1 + 231))]) hx hb dX12_tokenize_345 hl (k := 0) rfl ((Int32.ofInt_add _ _).symm) (by decide) rfl (fun ls hl => ?_)
                refine lv_goto (tgt := 328) hx hb dX12_tokenize_348 (by decide) ?_
                exact ih_328 (uA S328 244 i 5) (i + 1) _ _ _ (by omega) i_30 F_28 F_29 hGm328 gL328_ (by omega) (fun x a => by rw [uA_ne (fun h => by have := h.2; omega)]; exact h328 x a) hW hL (lv_sub hl [0, 1, 2] rfl)
          exact loop_328 (_ + 1) u_20 (u_20.1 231 19) _ _ _ (Nat.lt_succ_self _) iu_20 F_22 Fr.rf g_24 FF.rf (by omega) (fun x _ => rfl) hW hL (lv_sub hl [0, 1, 2] rfl)
      · refine lv_aload_n hx hb dX12_tokenize_15 rfl (lv_at hl 1 rfl) ?_
        refine g_X12_44 Cx hW (k := 231) (by decide) rfl (v := .ref (G.2.2.1 + 243)) (rd_13 hI7) dX12_tokenize_16 ?_
        refine lv_iload_n hx hb dX12_tokenize_19 rfl (lv_at hl 0 rfl) ?_
        refine rBald Cx hW (k := 243) (by decide) rfl (by decide) (by omega) (by omega) dX12_tokenize_20 ?_
        have q_31 : (-128) ≤ S.2.1 243 ps ∧ S.2.1 243 ps ≤ 127 := hI.ai 243 ps
        refine r_i (b := S.2.1 243 ps) (((hL7_ 243 rfl).2.1 ps).trans (uF_a)) ?_
        have hrc : S.2.1 243 ps = S.2.1 243 ps := rfl
        refine lv_istore_n (lv' := [(2, .int (iv (S.2.1 243 ps))), (1, .int (iv ps)), (0, .ref (G.2.2.1 + 231))]) hx hb dX12_tokenize_21 rfl hl (by decide) rfl (fun ls hl => ?_)
        refine lv_iload_n hx hb dX12_tokenize_22 rfl (lv_at hl 0 rfl) ?_
        refine lv_bipush (v := iv 32) hx hb dX12_tokenize_23 (by decide) ?_
        refine r_icmp_eq (tgt := 34) hx hb ⟨(by omega), (by omega)⟩ ⟨(by omega), (by omega)⟩ dX12_tokenize_25 (by decide) (fun c_32 => ?_) (fun c_32 => ?_)
        · refine lv_iinc (v := iv (ps + 1)) (lv' := [(1, .int (iv (ps + 1))), (2, .int (iv (S.2.1 243 ps))), (0, .ref (G.2.2.1 + 231))]) hx hb dX12_tokenize_34 hl (k := 1) rfl ((Int32.ofInt_add _ _).symm) (by decide) rfl (fun ls hl => ?_)
          refine lv_goto (tgt := 7) hx hb dX12_tokenize_37 (by decide) ?_
          have q_33 : (-2147483648) ≤ S7.1 231 19 ∧ S7.1 231 19 ≤ 2147483647 := hI7.fi 19
          exact ih_7 S7 (ps + 1) _ _ _ (by omega) hI7 hFm7 hL7_ hGm7 gL7_ (by omega) (by omega) hTP hTE hW hL (lv_sub hl [0, 2] rfl)
        · refine lv_iload_n hx hb dX12_tokenize_28 rfl (lv_at hl 0 rfl) ?_
          refine lv_bipush (v := iv 10) hx hb dX12_tokenize_29 (by decide) ?_
          refine r_icmp_ne (tgt := 40) hx hb ⟨(by omega), (by omega)⟩ ⟨(by omega), (by omega)⟩ dX12_tokenize_31 (by decide) (fun c_34 => ?_) (fun c_34 => ?_)
          · refine lv_iconst (v := iv 0) hx hb dX12_tokenize_40 (by decide) ?_
            refine lv_istore_n (lv' := [(3, .int (iv 0)), (2, .int (iv (S.2.1 243 ps))), (1, .int (iv ps)), (0, .ref (G.2.2.1 + 231))]) hx hb dX12_tokenize_41 rfl hl (by decide) rfl (fun ls hl => ?_)
            have join_263 : ∀ (S263 : sS) (w1 : Int) (H : Heap) (locs : List Loc) (ls : Array Slot), (dX G S263) → (Fr S S263 (pl [231, 244, 245, 246, 247])) → (Fr ((uF S 231 19 0)) S263 (pl [231, 244, 245, 246, 247])) → (Fr S7 S263 (pl [231, 244, 245, 246, 247])) → (FF S S263 (fl [19])) → (FF ((uF S 231 19 0)) S263 (fl [19])) → (FF S7 S263 (fl [19])) → (1 ≤ w1 ∧ ps + w1 ≤ S.1 231 14) → (S263.1 231 19 = S7.1 231 19 + 1) → (dTP S263 (S7.1 231 19 + 1)) → ((1 ≤ S263.2.1 244 (S7.1 231 19) ∧ S263.2.1 244 (S7.1 231 19) ≤ 6) ∧ S263.2.1 244 (S7.1 231 19) ≠ 5) → (dTE S263 (S7.1 231 19)) → sW G 294 S263 H → sL G locs → lv_has ls 5 [(3, .int (iv w1)), (2, .int (iv (S.2.1 243 ps))), (1, .int (iv ps)), (0, .ref (G.2.2.1 + 231))] → W p l e (rmk 6 0 0) s m args below meth c H locs 0 0 (MQ below (sQv G 294 (fun u => dX G u ∧ Fr S u (pl [231, 244, 245, 246, 247]) ∧ FF S u (fl [19]) ∧ (dTO u))) args s 0 0 (sF G)) (F0 m 263 ls []) := by
              intro S263 w1 H locs ls hI263 hFm263 hFL7263 hL263_ hGm263 hGL7263 gL263_ hw1 hj0 hj1 hj3 hj4 hW hL hl
              have z14b : S263.1 231 14 = S.1 231 14 := hGm263 14 rfl
              refine lv_aload_n hx hb dX12_tokenize_263 rfl (lv_at hl 3 rfl) ?_
              refine g_X12_47 Cx hW (k := 231) (by decide) rfl (v := .ref (G.2.2.1 + 244)) (rd_15 hI263) dX12_tokenize_264 ?_
              refine lv_aload_n hx hb dX12_tokenize_267 rfl (lv_at hl 3 rfl) ?_
              have q_35 : (-2147483648) ≤ S263.1 231 19 ∧ S263.1 231 19 ≤ 2147483647 := hI263.fi 19
              refine g_X12_289 Cx hW (k := 231) (by decide) rfl (v := S263.1 231 19) rfl dX12_tokenize_268 ?_
              refine lv_iconst (v := iv 1) hx hb dX12_tokenize_271 (by decide) ?_
              refine r_isub hx hb dX12_tokenize_272 ?_
              refine rIald Cx hW (k := 244) (by decide) rfl (by decide) (by omega) (by omega) dX12_tokenize_273 ?_
              have q_36 : (-2147483648) ≤ S263.2.1 244 ((S263.1 231 19) - 1) ∧ S263.2.1 244 ((S263.1 231 19) - 1) ≤ 2147483647 := hI263.ai 244 ((S263.1 231 19) - 1)
              refine r_i (b := S263.2.1 244 ((S263.1 231 19) - 1)) rfl ?_
              have hrd : S263.2.1 244 (S7.1 231 19) = S263.2.1 244 ((S263.1 231 19) - 1) := congrArg (S263.2.1 244) (by omega)
              refine lv_bipush (v := iv 6) hx hb dX12_tokenize_274 (by decide) ?_
              refine r_icmp_ne (tgt := 282) hx hb ⟨(by omega), (by omega)⟩ ⟨(by omega), (by omega)⟩ dX12_tokenize_276 (by decide) (fun c_37 => ?_) (fun c_37 => ?_)
              · refine lv_iload_n hx hb dX12_tokenize_282 rfl (lv_at hl 2 rfl) ?_
                refine lv_iload_n hx hb dX12_tokenize_283 rfl (lv_at hl 0 rfl) ?_
                refine r_iadd hx hb dX12_tokenize_284 ?_
                refine lv_istore_n (lv' := [(1, .int (iv (ps + w1))), (3, .int (iv w1)), (2, .int (iv (S.2.1 243 ps))), (0, .ref (G.2.2.1 + 231))]) hx hb dX12_tokenize_285 rfl hl (by decide) rfl (fun ls hl => ?_)
                refine lv_goto (tgt := 7) hx hb dX12_tokenize_286 (by decide) ?_
                exact ih_7 S263 (ps + w1) _ _ _ (by omega) hI263 hFm263 hFL7263 hGm263 hGL7263 (by omega) (by omega) (by rw [hj0]; exact hj1) (by rw [hj0]; exact hj4.one (by omega)) hW hL (lv_sub hl [0, 3] rfl)
              · refine lv_goto (tgt := 289) hx hb dX12_tokenize_279 (by decide) ?_
                refine lv_aload_n hx hb dX12_tokenize_289 rfl (lv_at hl 3 rfl) ?_
                refine g_X12_289 Cx hW (k := 231) (by decide) rfl (v := S263.1 231 19) rfl dX12_tokenize_290 ?_
                refine r_if_eq (tgt := 312) hx hb ⟨(by omega), (by omega)⟩ dX12_tokenize_293 (by decide) (fun c => absurd c (by omega)) (fun _ => ?_)
                refine lv_aload_n hx hb dX12_tokenize_296 rfl (lv_at hl 3 rfl) ?_
                refine g_X12_47 Cx hW (k := 231) (by decide) rfl (v := .ref (G.2.2.1 + 244)) (rd_15 hI263) dX12_tokenize_297 ?_
                refine lv_aload_n hx hb dX12_tokenize_300 rfl (lv_at hl 3 rfl) ?_
                refine g_X12_289 Cx hW (k := 231) (by decide) rfl (v := S263.1 231 19) rfl dX12_tokenize_301 ?_
                refine lv_iconst (v := iv 1) hx hb dX12_tokenize_304 (by decide) ?_
                refine r_isub hx hb dX12_tokenize_305 ?_
                refine rIald Cx hW (k := 244) (by decide) rfl (by decide) (by omega) (by omega) dX12_tokenize_306 ?_
                refine r_i (b := S263.2.1 244 ((S263.1 231 19) - 1)) rfl ?_
                refine lv_bipush (v := iv 6) hx hb dX12_tokenize_307 (by decide) ?_
                refine r_icmp_eq (tgt := 323) hx hb ⟨(by omega), (by omega)⟩ ⟨(by omega), (by omega)⟩ dX12_tokenize_309 (by decide) (fun _ => ?_) (fun c => absurd (by omega) c)
                have hTO : dTO S263 := dTO.mk1 (T := S7.1 231 19) (by omega) (by omega) hj1 hj4 (.inr (by omega))
                refine lv_aload_n hx hb dX12_tokenize_323 rfl (lv_at hl 3 rfl) ?_
                refine g_X12_289 Cx hW (k := 231) (by decide) rfl (v := S263.1 231 19) rfl dX12_tokenize_324 ?_
                refine lv_istore_n (lv' := [(2, .int (iv (S263.1 231 19))), (3, .int (iv w1)), (1, .int (iv ps)), (0, .ref (G.2.2.1 + 231))]) hx hb dX12_tokenize_327 rfl hl (by decide) rfl (fun ls hl => ?_)
                have loop_328 : ∀ (fuel : Nat) (S328 : sS) (i : Int) (H : Heap) (locs : List Loc) (ls : Array Slot), (40000 - i).toNat < fuel → (dX G S328) → (Fr S S328 (pl [231, 244, 245, 246, 247])) → (Fr S263 S328 (pl [244])) → (FF S S328 (fl [19])) → (FF S263 S328 (fl [])) → (S263.1 231 19 ≤ i ∧ i ≤ S263.1 231 19 + 3) → (∀ x, x < S263.1 231 19 → S328.2.1 244 x = S263.2.1 244 x) → sW G 294 S328 H → sL G locs → lv_has ls 5 [(2, .int (iv i)), (3, .int (iv w1)), (1, .int (iv ps)), (0, .ref (G.2.2.1 + 231))] → W p l e (rmk 6 0 0) s m args below meth c H locs 0 0 (MQ below (sQv G 294 (fun u => dX G u ∧ Fr S u (pl [231, 244, 245, 246, 247]) ∧ FF S u (fl [19]) ∧ (dTO u))) args s 0 0 (sF G)) (F0 m 328 ls []) := by
                  intro fuel
                  induction fuel with
                  | zero => intro S328 i H locs ls hmeas hI328 hFm328 hL328_ hGm328 gL328_ hi h328 hW hL hl; exact absurd hmeas (Nat.not_lt_zero _)
                  | succ fuel ih_328 =>
                    intro S328 i H locs ls hmeas hI328 hFm328 hL328_ hGm328 gL328_ hi h328 hW hL hl
                    refine lv_iload_n hx hb dX12_tokenize_328 rfl (lv_at hl 0 rfl) ?_
                    refine lv_aload_n hx hb dX12_tokenize_329 rfl (lv_at hl 3 rfl) ?_
                    refine g_X12_289 Cx hW (k := 231) (by decide) rfl (v := S263.1 231 19) (gL328_ 19 rfl) dX12_tokenize_330 ?_
                    refine lv_iconst (v := iv 3) hx hb dX12_tokenize_333 (by decide) ?_
                    refine r_iadd hx hb dX12_tokenize_334 ?_
                    refine r_icmp_ge (tgt := 351) hx hb ⟨(by omega), (by omega)⟩ ⟨(by omega), (by omega)⟩ dX12_tokenize_335 (by decide) (fun c_38 => ?_) (fun c_38 => ?_)
                    · exact sVret Cx hr hlk hW hL ⟨hI328, hFm328, hGm328, (dTO.end hTO (gL328_ 14 rfl) (gL328_ 19 rfl) (fun x a => h328 x (by omega)) (funext fun j => (hL328_ 245 rfl).2.1 j) (funext fun j => (hL328_ 246 rfl).2.1 j) (funext fun j => (hL328_ 247 rfl).2.1 j))⟩ dX12_tokenize_351
                    · refine lv_aload_n hx hb dX12_tokenize_338 rfl (lv_at hl 3 rfl) ?_
                      refine g_X12_47 Cx hW (k := 231) (by decide) rfl (v := .ref (G.2.2.1 + 244)) (rd_15 hI328) dX12_tokenize_339 ?_
                      refine lv_iload_n hx hb dX12_tokenize_342 rfl (lv_at hl 0 rfl) ?_
                      refine lv_iconst (v := iv 5) hx hb dX12_tokenize_343 (by decide) ?_
                      refine rIast Cx hW hL (k := 244) (by decide) rfl (by decide) (by omega) (by omega) dX12_tokenize_344 (fun H locs hW hL => ?_)
                      have F_39 : Fr S (uA S328 244 i 5) (pl [231, 244, 245, 246, 247]) := hFm328.A rfl
                      have F_40 : Fr S263 (uA S328 244 i 5) (pl [244]) := hL328_.A rfl
                      have i_41 : dX G (uA S328 244 i 5) := hI328.A (k := 244) (show (-2147483648) ≤ 5 ∧ 5 ≤ 2147483647 from ⟨by omega, by omega⟩)
                      refine lv_iinc (v := iv (i + 1)) (lv' := [(2, .int (iv (i + 1))), (3, .int (iv w1)), (1, .int (iv ps)), (0, .ref (G.2.2.1 + 231))]) hx hb dX12_tokenize_345 hl (k := 0) rfl ((Int32.ofInt_add _ _).symm) (by decide) rfl (fun ls hl => ?_)
                      refine lv_goto (tgt := 328) hx hb dX12_tokenize_348 (by decide) ?_
                      exact ih_328 (uA S328 244 i 5) (i + 1) _ _ _ (by omega) i_41 F_39 F_40 hGm328 gL328_ (by omega) (fun x a => by rw [uA_ne (fun h => by have := h.2; omega)]; exact h328 x a) hW hL (lv_sub hl [0, 1, 2, 3] rfl)
                exact loop_328 (_ + 1) S263 (S263.1 231 19) _ _ _ (Nat.lt_succ_self _) hI263 hFm263 Fr.rf hGm263 FF.rf (by omega) (fun x _ => rfl) hW hL (lv_sub hl [0, 1, 2, 3] rfl)
            refine lv_iload_n hx hb dX12_tokenize_42 rfl (lv_at hl 1 rfl) ?_
            refine sBi (sSt (As := [.int (iv (S.2.1 243 ps))]) (rest := []) Cx (s_X12_isLetter l G S7 (ch := S.2.1 243 ps) (by omega)) (c_X12_295 Cx rfl rfl (rmk_ok (by omega) (by decide))) hW rfl hl.1 rfl (Nat.le_of_ble_eq_true rfl) dX12_tokenize_43 ⟨Nat.le_of_ble_eq_true rfl, Nat.le_of_ble_eq_true rfl⟩) hL (fun r_44 u_42 H locs k_43 hW hL => ?_)
            obtain ⟨eu_42, xu_42⟩ := k_43
            rw [eu_42] at hW
            refine r_if_eq (tgt := 124) hx hb ⟨(by omega), (by omega)⟩ dX12_tokenize_46 (by decide) (fun c_45 => ?_) (fun c_45 => ?_)
            · refine lv_iload_n hx hb dX12_tokenize_124 rfl (lv_at hl 1 rfl) ?_
              refine sBi (sSt (As := [.int (iv (S.2.1 243 ps))]) (rest := []) Cx (s_X12_isDigit l G S7 (ch := S.2.1 243 ps) (by omega)) (c_X12_299 Cx rfl rfl (rmk_ok (by omega) (by decide))) hW rfl hl.1 rfl (Nat.le_of_ble_eq_true rfl) dX12_tokenize_125 ⟨Nat.le_of_ble_eq_true rfl, Nat.le_of_ble_eq_true rfl⟩) hL (fun r_48 u_46 H locs k_47 hW hL => ?_)
              obtain ⟨eu_46, xu_46⟩ := k_47
              rw [eu_46] at hW
              refine r_if_eq (tgt := 216) hx hb ⟨(by omega), (by omega)⟩ dX12_tokenize_128 (by decide) (fun c_49 => ?_) (fun c_49 => ?_)
              · refine lv_aload_n hx hb dX12_tokenize_216 rfl (lv_at hl 3 rfl) ?_
                refine lv_iload_n hx hb dX12_tokenize_217 rfl (lv_at hl 2 rfl) ?_
                have lk_50 : S7.1 231 14 = S.1 231 14 := (gL7_ 14 rfl).trans (uF_ne (fun h => absurd h.2 (by decide)))
                refine sBi (sV (As := [.int (iv ps)]) (rest := []) (k := 231) Cx (s_X12_signAt l G S7 (a := ps) hI7 (by omega) (by omega)) (c_X12_312 Cx rfl rfl (rmk_ok (by omega) (by decide))) hW (by decide) rfl rfl rfl hl.1 rfl (Nat.le_of_ble_eq_true rfl) dX12_tokenize_218 ⟨Nat.le_of_ble_eq_true rfl, Nat.le_of_ble_eq_true rfl⟩) hL (fun r_53 u_51 H locs k_52 hW hL => ?_)
                obtain ⟨eu_51, xu_51⟩ := k_52
                rw [eu_51] at hW
                refine lv_istore (lv' := [(4, .int (iv r_53)), (3, .int (iv 0)), (2, .int (iv (S.2.1 243 ps))), (1, .int (iv ps)), (0, .ref (G.2.2.1 + 231))]) hx hb dX12_tokenize_221 hl (by decide) rfl (fun ls hl => ?_)
                refine lv_iload hx hb dX12_tokenize_223 (lv_at hl 0 rfl) ?_
                refine r_if_ne (tgt := 232) hx hb ⟨(by omega), (by omega)⟩ dX12_tokenize_225 (by decide) (fun c_54 => ?_) (fun c_54 => ?_)
                · refine lv_iload hx hb dX12_tokenize_232 (lv_at hl 0 rfl) ?_
                  refine lv_iconst (v := iv 3) hx hb dX12_tokenize_234 (by decide) ?_
                  refine r_icmp_gt (tgt := 242) hx hb ⟨(by omega), (by omega)⟩ ⟨(by omega), (by omega)⟩ dX12_tokenize_235 (by decide) (fun c_55 => ?_) (fun c_55 => ?_)
                  · refine lv_iconst (v := iv 1) hx hb dX12_tokenize_242 (by decide) ?_
                    refine lv_istore_n (lv' := [(3, .int (iv 1)), (4, .int (iv r_53)), (2, .int (iv (S.2.1 243 ps))), (1, .int (iv ps)), (0, .ref (G.2.2.1 + 231))]) hx hb dX12_tokenize_243 rfl hl (by decide) rfl (fun ls hl => ?_)
                    refine lv_aload_n hx hb dX12_tokenize_244 rfl (lv_at hl 4 rfl) ?_
                    refine lv_iload hx hb dX12_tokenize_245 (lv_at hl 1 rfl) ?_
                    refine r_if_ne (tgt := 255) hx hb ⟨(by omega), (by omega)⟩ dX12_tokenize_247 (by decide) (fun c_56 => ?_) (fun c_56 => ?_)
                    · refine lv_iconst (v := iv 4) hx hb dX12_tokenize_255 (by decide) ?_
                      refine lv_iload_n hx hb dX12_tokenize_256 rfl (lv_at hl 3 rfl) ?_
                      refine lv_iload_n hx hb dX12_tokenize_257 rfl (lv_at hl 0 rfl) ?_
                      refine lv_iload hx hb dX12_tokenize_258 (lv_at hl 1 rfl) ?_
                      have q_57 : (-2147483648) ≤ S7.1 231 19 ∧ S7.1 231 19 ≤ 2147483647 := hI7.fi 19
                      refine sBv (sV (As := [.int (iv 4), .int (iv ps), .int (iv 1), .int (iv r_53)]) (rest := []) (k := 231) Cx (s_X12_token l G S7 (k := 4) (f := ps) (wd := 1) (v := r_53) hI7 (by omega) (by omega) (by omega) (by omega) (by omega)) (c_X12_308 Cx rfl rfl (rmk_ok (by omega) (by decide))) hW (by decide) rfl rfl rfl hl.1 rfl (Nat.le_of_ble_eq_true rfl) dX12_tokenize_260 ⟨Nat.le_of_ble_eq_true rfl, Nat.le_of_ble_eq_true rfl⟩) hL (fun u_58 H locs k_59 hW hL => ?_)
                      obtain ⟨iu_58, fu_58, gu_58, xu_58⟩ := k_59
                      have F_60 := hFm7.trans fu_58
                      have F_61 := hL7_.trans fu_58
                      have F_62 := (Fr.rf : Fr S7 S7 (pl [231, 244, 245, 246, 247])).trans fu_58
                      have g_63 : FF S u_58 (fl [19]) := FF.trans hGm7 (FF.to gu_58 (fl_sub (by decide)))
                      have g_64 : FF ((uF S 231 19 0)) u_58 (fl [19]) := FF.trans gL7_ (FF.to gu_58 (fl_sub (by decide)))
                      have g_65 : FF S7 u_58 (fl [19]) := FF.trans (FF.rf : FF S7 S7 (fl [19])) (FF.to gu_58 (fl_sub (by decide)))
                      have q_66 : (-2147483648) ≤ u_58.1 231 19 ∧ u_58.1 231 19 ≤ 2147483647 := iu_58.fi 19
                      exact join_263 u_58 1 _ _ _ iu_58 F_60 F_61 F_62 g_63 g_64 g_65 (by omega) (by omega) (hTP.tok xu_58.2 (gu_58 14 rfl) (by omega) (by omega)) (by rw [xu_58.2.1, if_pos rfl]; omega) (hTE.tok xu_58.2) hW hL (lv_sub hl [0, 2, 3, 4] rfl)
                    · refine lv_bipush (v := iv 6) hx hb dX12_tokenize_250 (by decide) ?_
                      refine lv_goto (tgt := 256) hx hb dX12_tokenize_252 (by decide) ?_
                      refine lv_iload_n hx hb dX12_tokenize_256 rfl (lv_at hl 3 rfl) ?_
                      refine lv_iload_n hx hb dX12_tokenize_257 rfl (lv_at hl 0 rfl) ?_
                      refine lv_iload hx hb dX12_tokenize_258 (lv_at hl 1 rfl) ?_
                      have q_67 : (-2147483648) ≤ S7.1 231 19 ∧ S7.1 231 19 ≤ 2147483647 := hI7.fi 19
                      refine sBv (sV (As := [.int (iv 6), .int (iv ps), .int (iv 1), .int (iv r_53)]) (rest := []) (k := 231) Cx (s_X12_token l G S7 (k := 6) (f := ps) (wd := 1) (v := r_53) hI7 (by omega) (by omega) (by omega) (by omega) (by omega)) (c_X12_308 Cx rfl rfl (rmk_ok (by omega) (by decide))) hW (by decide) rfl rfl rfl hl.1 rfl (Nat.le_of_ble_eq_true rfl) dX12_tokenize_260 ⟨Nat.le_of_ble_eq_true rfl, Nat.le_of_ble_eq_true rfl⟩) hL (fun u_68 H locs k_69 hW hL => ?_)
                      obtain ⟨iu_68, fu_68, gu_68, xu_68⟩ := k_69
                      have F_70 := hFm7.trans fu_68
                      have F_71 := hL7_.trans fu_68
                      have F_72 := (Fr.rf : Fr S7 S7 (pl [231, 244, 245, 246, 247])).trans fu_68
                      have g_73 : FF S u_68 (fl [19]) := FF.trans hGm7 (FF.to gu_68 (fl_sub (by decide)))
                      have g_74 : FF ((uF S 231 19 0)) u_68 (fl [19]) := FF.trans gL7_ (FF.to gu_68 (fl_sub (by decide)))
                      have g_75 : FF S7 u_68 (fl [19]) := FF.trans (FF.rf : FF S7 S7 (fl [19])) (FF.to gu_68 (fl_sub (by decide)))
                      have q_76 : (-2147483648) ≤ u_68.1 231 19 ∧ u_68.1 231 19 ≤ 2147483647 := iu_68.fi 19
                      exact join_263 u_68 1 _ _ _ iu_68 F_70 F_71 F_72 g_73 g_74 g_75 (by omega) (by omega) (hTP.tok xu_68.2 (gu_68 14 rfl) (by omega) (by omega)) (by rw [xu_68.2.1, if_pos rfl]; omega) (hTE.tok xu_68.2) hW hL (lv_sub hl [0, 2, 3, 4] rfl)
                  · refine lv_iconst (v := iv 2) hx hb dX12_tokenize_238 (by decide) ?_
                    refine lv_goto (tgt := 243) hx hb dX12_tokenize_239 (by decide) ?_
                    refine lv_istore_n (lv' := [(3, .int (iv 2)), (4, .int (iv r_53)), (2, .int (iv (S.2.1 243 ps))), (1, .int (iv ps)), (0, .ref (G.2.2.1 + 231))]) hx hb dX12_tokenize_243 rfl hl (by decide) rfl (fun ls hl => ?_)
                    refine lv_aload_n hx hb dX12_tokenize_244 rfl (lv_at hl 4 rfl) ?_
                    refine lv_iload hx hb dX12_tokenize_245 (lv_at hl 1 rfl) ?_
                    refine r_if_ne (tgt := 255) hx hb ⟨(by omega), (by omega)⟩ dX12_tokenize_247 (by decide) (fun c_77 => ?_) (fun c_77 => ?_)
                    · refine lv_iconst (v := iv 4) hx hb dX12_tokenize_255 (by decide) ?_
                      refine lv_iload_n hx hb dX12_tokenize_256 rfl (lv_at hl 3 rfl) ?_
                      refine lv_iload_n hx hb dX12_tokenize_257 rfl (lv_at hl 0 rfl) ?_
                      refine lv_iload hx hb dX12_tokenize_258 (lv_at hl 1 rfl) ?_
                      have q_78 : (-2147483648) ≤ S7.1 231 19 ∧ S7.1 231 19 ≤ 2147483647 := hI7.fi 19
                      refine sBv (sV (As := [.int (iv 4), .int (iv ps), .int (iv 2), .int (iv r_53)]) (rest := []) (k := 231) Cx (s_X12_token l G S7 (k := 4) (f := ps) (wd := 2) (v := r_53) hI7 (by omega) (by omega) (by omega) (by omega) (by omega)) (c_X12_308 Cx rfl rfl (rmk_ok (by omega) (by decide))) hW (by decide) rfl rfl rfl hl.1 rfl (Nat.le_of_ble_eq_true rfl) dX12_tokenize_260 ⟨Nat.le_of_ble_eq_true rfl, Nat.le_of_ble_eq_true rfl⟩) hL (fun u_79 H locs k_80 hW hL => ?_)
                      obtain ⟨iu_79, fu_79, gu_79, xu_79⟩ := k_80
                      have F_81 := hFm7.trans fu_79
                      have F_82 := hL7_.trans fu_79
                      have F_83 := (Fr.rf : Fr S7 S7 (pl [231, 244, 245, 246, 247])).trans fu_79
                      have g_84 : FF S u_79 (fl [19]) := FF.trans hGm7 (FF.to gu_79 (fl_sub (by decide)))
                      have g_85 : FF ((uF S 231 19 0)) u_79 (fl [19]) := FF.trans gL7_ (FF.to gu_79 (fl_sub (by decide)))
                      have g_86 : FF S7 u_79 (fl [19]) := FF.trans (FF.rf : FF S7 S7 (fl [19])) (FF.to gu_79 (fl_sub (by decide)))
                      have q_87 : (-2147483648) ≤ u_79.1 231 19 ∧ u_79.1 231 19 ≤ 2147483647 := iu_79.fi 19
                      exact join_263 u_79 2 _ _ _ iu_79 F_81 F_82 F_83 g_84 g_85 g_86 (by omega) (by omega) (hTP.tok xu_79.2 (gu_79 14 rfl) (by omega) (by omega)) (by rw [xu_79.2.1, if_pos rfl]; omega) (hTE.tok xu_79.2) hW hL (lv_sub hl [0, 2, 3, 4] rfl)
                    · refine lv_bipush (v := iv 6) hx hb dX12_tokenize_250 (by decide) ?_
                      refine lv_goto (tgt := 256) hx hb dX12_tokenize_252 (by decide) ?_
                      refine lv_iload_n hx hb dX12_tokenize_256 rfl (lv_at hl 3 rfl) ?_
                      refine lv_iload_n hx hb dX12_tokenize_257 rfl (lv_at hl 0 rfl) ?_
                      refine lv_iload hx hb dX12_tokenize_258 (lv_at hl 1 rfl) ?_
                      have q_88 : (-2147483648) ≤ S7.1 231 19 ∧ S7.1 231 19 ≤ 2147483647 := hI7.fi 19
                      refine sBv (sV (As := [.int (iv 6), .int (iv ps), .int (iv 2), .int (iv r_53)]) (rest := []) (k := 231) Cx (s_X12_token l G S7 (k := 6) (f := ps) (wd := 2) (v := r_53) hI7 (by omega) (by omega) (by omega) (by omega) (by omega)) (c_X12_308 Cx rfl rfl (rmk_ok (by omega) (by decide))) hW (by decide) rfl rfl rfl hl.1 rfl (Nat.le_of_ble_eq_true rfl) dX12_tokenize_260 ⟨Nat.le_of_ble_eq_true rfl, Nat.le_of_ble_eq_true rfl⟩) hL (fun u_89 H locs k_90 hW hL => ?_)
                      obtain ⟨iu_89, fu_89, gu_89, xu_89⟩ := k_90
                      have F_91 := hFm7.trans fu_89
                      have F_92 := hL7_.trans fu_89
                      have F_93 := (Fr.rf : Fr S7 S7 (pl [231, 244, 245, 246, 247])).trans fu_89
                      have g_94 : FF S u_89 (fl [19]) := FF.trans hGm7 (FF.to gu_89 (fl_sub (by decide)))
                      have g_95 : FF ((uF S 231 19 0)) u_89 (fl [19]) := FF.trans gL7_ (FF.to gu_89 (fl_sub (by decide)))
                      have g_96 : FF S7 u_89 (fl [19]) := FF.trans (FF.rf : FF S7 S7 (fl [19])) (FF.to gu_89 (fl_sub (by decide)))
                      have q_97 : (-2147483648) ≤ u_89.1 231 19 ∧ u_89.1 231 19 ≤ 2147483647 := iu_89.fi 19
                      exact join_263 u_89 2 _ _ _ iu_89 F_91 F_92 F_93 g_94 g_95 g_96 (by omega) (by omega) (hTP.tok xu_89.2 (gu_89 14 rfl) (by omega) (by omega)) (by rw [xu_89.2.1, if_pos rfl]; omega) (hTE.tok xu_89.2) hW hL (lv_sub hl [0, 2, 3, 4] rfl)
                · refine lv_iconst (v := iv 1) hx hb dX12_tokenize_228 (by decide) ?_
                  refine lv_goto (tgt := 243) hx hb dX12_tokenize_229 (by decide) ?_
                  refine lv_istore_n (lv' := [(3, .int (iv 1)), (4, .int (iv r_53)), (2, .int (iv (S.2.1 243 ps))), (1, .int (iv ps)), (0, .ref (G.2.2.1 + 231))]) hx hb dX12_tokenize_243 rfl hl (by decide) rfl (fun ls hl => ?_)
                  refine lv_aload_n hx hb dX12_tokenize_244 rfl (lv_at hl 4 rfl) ?_
                  refine lv_iload hx hb dX12_tokenize_245 (lv_at hl 1 rfl) ?_
                  refine r_if_ne (tgt := 255) hx hb ⟨(by omega), (by omega)⟩ dX12_tokenize_247 (by decide) (fun c_98 => ?_) (fun c_98 => ?_)
                  · refine lv_iconst (v := iv 4) hx hb dX12_tokenize_255 (by decide) ?_
                    refine lv_iload_n hx hb dX12_tokenize_256 rfl (lv_at hl 3 rfl) ?_
                    refine lv_iload_n hx hb dX12_tokenize_257 rfl (lv_at hl 0 rfl) ?_
                    refine lv_iload hx hb dX12_tokenize_258 (lv_at hl 1 rfl) ?_
                    have q_99 : (-2147483648) ≤ S7.1 231 19 ∧ S7.1 231 19 ≤ 2147483647 := hI7.fi 19
                    refine sBv (sV (As := [.int (iv 4), .int (iv ps), .int (iv 1), .int (iv r_53)]) (rest := []) (k := 231) Cx (s_X12_token l G S7 (k := 4) (f := ps) (wd := 1) (v := r_53) hI7 (by omega) (by omega) (by omega) (by omega) (by omega)) (c_X12_308 Cx rfl rfl (rmk_ok (by omega) (by decide))) hW (by decide) rfl rfl rfl hl.1 rfl (Nat.le_of_ble_eq_true rfl) dX12_tokenize_260 ⟨Nat.le_of_ble_eq_true rfl, Nat.le_of_ble_eq_true rfl⟩) hL (fun u_100 H locs k_101 hW hL => ?_)
                    obtain ⟨iu_100, fu_100, gu_100, xu_100⟩ := k_101
                    have F_102 := hFm7.trans fu_100
                    have F_103 := hL7_.trans fu_100
                    have F_104 := (Fr.rf : Fr S7 S7 (pl [231, 244, 245, 246, 247])).trans fu_100
                    have g_105 : FF S u_100 (fl [19]) := FF.trans hGm7 (FF.to gu_100 (fl_sub (by decide)))
                    have g_106 : FF ((uF S 231 19 0)) u_100 (fl [19]) := FF.trans gL7_ (FF.to gu_100 (fl_sub (by decide)))
                    have g_107 : FF S7 u_100 (fl [19]) := FF.trans (FF.rf : FF S7 S7 (fl [19])) (FF.to gu_100 (fl_sub (by decide)))
                    have q_108 : (-2147483648) ≤ u_100.1 231 19 ∧ u_100.1 231 19 ≤ 2147483647 := iu_100.fi 19
                    exact join_263 u_100 1 _ _ _ iu_100 F_102 F_103 F_104 g_105 g_106 g_107 (by omega) (by omega) (hTP.tok xu_100.2 (gu_100 14 rfl) (by omega) (by omega)) (by rw [xu_100.2.1, if_pos rfl]; omega) (hTE.tok xu_100.2) hW hL (lv_sub hl [0, 2, 3, 4] rfl)
                  · refine lv_bipush (v := iv 6) hx hb dX12_tokenize_250 (by decide) ?_
                    refine lv_goto (tgt := 256) hx hb dX12_tokenize_252 (by decide) ?_
                    refine lv_iload_n hx hb dX12_tokenize_256 rfl (lv_at hl 3 rfl) ?_
                    refine lv_iload_n hx hb dX12_tokenize_257 rfl (lv_at hl 0 rfl) ?_
                    refine lv_iload hx hb dX12_tokenize_258 (lv_at hl 1 rfl) ?_
                    have q_109 : (-2147483648) ≤ S7.1 231 19 ∧ S7.1 231 19 ≤ 2147483647 := hI7.fi 19
                    refine sBv (sV (As := [.int (iv 6), .int (iv ps), .int (iv 1), .int (iv r_53)]) (rest := []) (k := 231) Cx (s_X12_token l G S7 (k := 6) (f := ps) (wd := 1) (v := r_53) hI7 (by omega) (by omega) (by omega) (by omega) (by omega)) (c_X12_308 Cx rfl rfl (rmk_ok (by omega) (by decide))) hW (by decide) rfl rfl rfl hl.1 rfl (Nat.le_of_ble_eq_true rfl) dX12_tokenize_260 ⟨Nat.le_of_ble_eq_true rfl, Nat.le_of_ble_eq_true rfl⟩) hL (fun u_110 H locs k_111 hW hL => ?_)
                    obtain ⟨iu_110, fu_110, gu_110, xu_110⟩ := k_111
                    have F_112 := hFm7.trans fu_110
                    have F_113 := hL7_.trans fu_110
                    have F_114 := (Fr.rf : Fr S7 S7 (pl [231, 244, 245, 246, 247])).trans fu_110
                    have g_115 : FF S u_110 (fl [19]) := FF.trans hGm7 (FF.to gu_110 (fl_sub (by decide)))
                    have g_116 : FF ((uF S 231 19 0)) u_110 (fl [19]) := FF.trans gL7_ (FF.to gu_110 (fl_sub (by decide)))
                    have g_117 : FF S7 u_110 (fl [19]) := FF.trans (FF.rf : FF S7 S7 (fl [19])) (FF.to gu_110 (fl_sub (by decide)))
                    have q_118 : (-2147483648) ≤ u_110.1 231 19 ∧ u_110.1 231 19 ≤ 2147483647 := iu_110.fi 19
                    exact join_263 u_110 1 _ _ _ iu_110 F_112 F_113 F_114 g_115 g_116 g_117 (by omega) (by omega) (hTP.tok xu_110.2 (gu_110 14 rfl) (by omega) (by omega)) (by rw [xu_110.2.1, if_pos rfl]; omega) (hTE.tok xu_110.2) hW hL (lv_sub hl [0, 2, 3, 4] rfl)
              · refine lv_iconst (v := iv 0) hx hb dX12_tokenize_131 (by decide) ?_
                refine lv_istore (lv' := [(4, .int (iv 0)), (3, .int (iv 0)), (2, .int (iv (S.2.1 243 ps))), (1, .int (iv ps)), (0, .ref (G.2.2.1 + 231))]) hx hb dX12_tokenize_132 hl (by decide) rfl (fun ls hl => ?_)
                have loop_134 : ∀ (fuel : Nat) (v : Int) (w : Int) (H : Heap) (locs : List Loc) (ls : Array Slot), (S.1 231 14 - ps - w).toNat < fuel → (0 ≤ w ∧ ps + w ≤ S.1 231 14) → (Hd (w = 0 → 48 ≤ S7.2.1 243 (ps + w) ∧ S7.2.1 243 (ps + w) ≤ 57)) → ((0 ≤ v ∧ v ≤ 99999) ∧ (w = 0 → v = 0) ∧ (w = 1 → v ≤ 9) ∧ (w = 2 → v ≤ 99) ∧ (w = 3 → v ≤ 999) ∧ (w = 4 → v ≤ 9999)) → sW G 294 S7 H → sL G locs → lv_has ls 5 [(4, .int (iv v)), (3, .int (iv w)), (2, .int (iv (S.2.1 243 ps))), (1, .int (iv ps)), (0, .ref (G.2.2.1 + 231))] → W p l e (rmk 6 0 0) s m args below meth c H locs 0 0 (MQ below (sQv G 294 (fun u => dX G u ∧ Fr S u (pl [231, 244, 245, 246, 247]) ∧ FF S u (fl [19]) ∧ (dTO u))) args s 0 0 (sF G)) (F0 m 134 ls []) := by
                  intro fuel
                  induction fuel with
                  | zero => intro v w H locs ls hmeas hw hw0 hv hW hL hl; exact absurd hmeas (Nat.not_lt_zero _)
                  | succ fuel ih_134 =>
                    intro v w H locs ls hmeas hw hw0 hv hW hL hl
                    refine lv_aload_n hx hb dX12_tokenize_134 rfl (lv_at hl 4 rfl) ?_
                    refine lv_iload_n hx hb dX12_tokenize_135 rfl (lv_at hl 3 rfl) ?_
                    refine lv_iload_n hx hb dX12_tokenize_136 rfl (lv_at hl 1 rfl) ?_
                    refine r_iadd hx hb dX12_tokenize_137 ?_
                    have lk_119 : S7.1 231 14 = S.1 231 14 := (gL7_ 14 rfl).trans (uF_ne (fun h => absurd h.2 (by decide)))
                    refine sBi (sV (As := [.int (iv (ps + w))]) (rest := []) (k := 231) Cx (s_X12_at l G S7 (a := ps + w) hI7 (by omega) (by omega)) (c_X12_292 Cx rfl rfl (rmk_ok (by omega) (by decide))) hW (by decide) rfl rfl rfl hl.1 rfl (Nat.le_of_ble_eq_true rfl) dX12_tokenize_138 ⟨Nat.le_of_ble_eq_true rfl, Nat.le_of_ble_eq_true rfl⟩) hL (fun r_122 u_120 H locs k_121 hW hL => ?_)
                    obtain ⟨eu_120, xu_120⟩ := k_121
                    rw [eu_120] at hW
                    have hau_120 := xu_120.2.2
                    refine sBi (sSt (As := [.int (iv r_122)]) (rest := []) Cx (s_X12_isDigit l G S7 (ch := r_122) (by omega)) (c_X12_299 Cx rfl rfl (rmk_ok (by omega) (by decide))) hW rfl hl.1 rfl (Nat.le_of_ble_eq_true rfl) dX12_tokenize_141 ⟨Nat.le_of_ble_eq_true rfl, Nat.le_of_ble_eq_true rfl⟩) hL (fun r_125 u_123 H locs k_124 hW hL => ?_)
                    obtain ⟨eu_123, xu_123⟩ := k_124
                    rw [eu_123] at hW
                    refine r_if_eq (tgt := 181) hx hb ⟨(by omega), (by omega)⟩ dX12_tokenize_144 (by decide) (fun c_126 => ?_) (fun c_126 => ?_)
                    · have hwp : 1 ≤ w := by by_cases z : w = 0; (have y1 := hw0 z; have y2 := hau_120 (by omega); omega); omega
                      refine lv_aload_n hx hb dX12_tokenize_181 rfl (lv_at hl 4 rfl) ?_
                      refine lv_iload_n hx hb dX12_tokenize_182 rfl (lv_at hl 1 rfl) ?_
                      refine lv_iconst (v := iv 5) hx hb dX12_tokenize_183 (by decide) ?_
                      refine r_icmp_gt (tgt := 204) hx hb ⟨(by omega), (by omega)⟩ ⟨(by omega), (by omega)⟩ dX12_tokenize_184 (by decide) (fun c_127 => ?_) (fun c_127 => ?_)
                      · refine lv_bipush (v := iv 6) hx hb dX12_tokenize_204 (by decide) ?_
                        refine lv_iload_n hx hb dX12_tokenize_206 rfl (lv_at hl 3 rfl) ?_
                        refine lv_iload_n hx hb dX12_tokenize_207 rfl (lv_at hl 1 rfl) ?_
                        refine lv_iload hx hb dX12_tokenize_208 (lv_at hl 0 rfl) ?_
                        have q_128 : (-2147483648) ≤ S7.1 231 19 ∧ S7.1 231 19 ≤ 2147483647 := hI7.fi 19
                        refine sBv (sV (As := [.int (iv 6), .int (iv ps), .int (iv w), .int (iv v)]) (rest := []) (k := 231) Cx (s_X12_token l G S7 (k := 6) (f := ps) (wd := w) (v := v) hI7 (by omega) (by omega) (by omega) (by omega) (by omega)) (c_X12_308 Cx rfl rfl (rmk_ok (by omega) (by decide))) hW (by decide) rfl rfl rfl hl.1 rfl (Nat.le_of_ble_eq_true rfl) dX12_tokenize_210 ⟨Nat.le_of_ble_eq_true rfl, Nat.le_of_ble_eq_true rfl⟩) hL (fun u_129 H locs k_130 hW hL => ?_)
                        obtain ⟨iu_129, fu_129, gu_129, xu_129⟩ := k_130
                        have F_131 := hFm7.trans fu_129
                        have F_132 := hL7_.trans fu_129
                        have F_133 := (Fr.rf : Fr S7 S7 (pl [231, 244, 245, 246, 247])).trans fu_129
                        have g_134 : FF S u_129 (fl [19]) := FF.trans hGm7 (FF.to gu_129 (fl_sub (by decide)))
                        have g_135 : FF ((uF S 231 19 0)) u_129 (fl [19]) := FF.trans gL7_ (FF.to gu_129 (fl_sub (by decide)))
                        have g_136 : FF S7 u_129 (fl [19]) := FF.trans (FF.rf : FF S7 S7 (fl [19])) (FF.to gu_129 (fl_sub (by decide)))
                        refine lv_goto (tgt := 263) hx hb dX12_tokenize_213 (by decide) ?_
                        have q_137 : (-2147483648) ≤ u_129.1 231 19 ∧ u_129.1 231 19 ≤ 2147483647 := iu_129.fi 19
                        exact join_263 u_129 w _ _ _ iu_129 F_131 F_132 F_133 g_134 g_135 g_136 (by omega) (by omega) (hTP.tok xu_129.2 (gu_129 14 rfl) (by omega) (by omega)) (by rw [xu_129.2.1, if_pos rfl]; omega) (hTE.tok xu_129.2) hW hL (lv_sub hl [1, 2, 3, 4] rfl)
                      · refine lv_aload_n hx hb dX12_tokenize_187 rfl (lv_at hl 4 rfl) ?_
                        refine lv_iload_n hx hb dX12_tokenize_188 rfl (lv_at hl 3 rfl) ?_
                        refine lv_iload_n hx hb dX12_tokenize_189 rfl (lv_at hl 1 rfl) ?_
                        refine r_iadd hx hb dX12_tokenize_190 ?_
                        refine sBi (sV (As := [.int (iv (ps + w))]) (rest := [.ref (G.2.2.1 + 231)]) (k := 231) Cx (s_X12_at l G S7 (a := ps + w) hI7 (by omega) (by omega)) (c_X12_292 Cx rfl rfl (rmk_ok (by omega) (by decide))) hW (by decide) rfl rfl rfl hl.1 rfl (Nat.le_of_ble_eq_true rfl) dX12_tokenize_191 ⟨Nat.le_of_ble_eq_true rfl, Nat.le_of_ble_eq_true rfl⟩) hL (fun r_140 u_138 H locs k_139 hW hL => ?_)
                        obtain ⟨eu_138, xu_138⟩ := k_139
                        rw [eu_138] at hW
                        refine sBi (sSt (As := [.int (iv r_140)]) (rest := [.ref (G.2.2.1 + 231)]) Cx (s_X12_isLetter l G S7 (ch := r_140) (by omega)) (c_X12_295 Cx rfl rfl (rmk_ok (by omega) (by decide))) hW rfl hl.1 rfl (Nat.le_of_ble_eq_true rfl) dX12_tokenize_194 ⟨Nat.le_of_ble_eq_true rfl, Nat.le_of_ble_eq_true rfl⟩) hL (fun r_143 u_141 H locs k_142 hW hL => ?_)
                        obtain ⟨eu_141, xu_141⟩ := k_142
                        rw [eu_141] at hW
                        refine r_if_ne (tgt := 204) hx hb ⟨(by omega), (by omega)⟩ dX12_tokenize_197 (by decide) (fun c_144 => ?_) (fun c_144 => ?_)
                        · refine lv_bipush (v := iv 6) hx hb dX12_tokenize_204 (by decide) ?_
                          refine lv_iload_n hx hb dX12_tokenize_206 rfl (lv_at hl 3 rfl) ?_
                          refine lv_iload_n hx hb dX12_tokenize_207 rfl (lv_at hl 1 rfl) ?_
                          refine lv_iload hx hb dX12_tokenize_208 (lv_at hl 0 rfl) ?_
                          have q_145 : (-2147483648) ≤ S7.1 231 19 ∧ S7.1 231 19 ≤ 2147483647 := hI7.fi 19
                          refine sBv (sV (As := [.int (iv 6), .int (iv ps), .int (iv w), .int (iv v)]) (rest := []) (k := 231) Cx (s_X12_token l G S7 (k := 6) (f := ps) (wd := w) (v := v) hI7 (by omega) (by omega) (by omega) (by omega) (by omega)) (c_X12_308 Cx rfl rfl (rmk_ok (by omega) (by decide))) hW (by decide) rfl rfl rfl hl.1 rfl (Nat.le_of_ble_eq_true rfl) dX12_tokenize_210 ⟨Nat.le_of_ble_eq_true rfl, Nat.le_of_ble_eq_true rfl⟩) hL (fun u_146 H locs k_147 hW hL => ?_)
                          obtain ⟨iu_146, fu_146, gu_146, xu_146⟩ := k_147
                          have F_148 := hFm7.trans fu_146
                          have F_149 := hL7_.trans fu_146
                          have F_150 := (Fr.rf : Fr S7 S7 (pl [231, 244, 245, 246, 247])).trans fu_146
                          have g_151 : FF S u_146 (fl [19]) := FF.trans hGm7 (FF.to gu_146 (fl_sub (by decide)))
                          have g_152 : FF ((uF S 231 19 0)) u_146 (fl [19]) := FF.trans gL7_ (FF.to gu_146 (fl_sub (by decide)))
                          have g_153 : FF S7 u_146 (fl [19]) := FF.trans (FF.rf : FF S7 S7 (fl [19])) (FF.to gu_146 (fl_sub (by decide)))
                          refine lv_goto (tgt := 263) hx hb dX12_tokenize_213 (by decide) ?_
                          have q_154 : (-2147483648) ≤ u_146.1 231 19 ∧ u_146.1 231 19 ≤ 2147483647 := iu_146.fi 19
                          exact join_263 u_146 w _ _ _ iu_146 F_148 F_149 F_150 g_151 g_152 g_153 (by omega) (by omega) (hTP.tok xu_146.2 (gu_146 14 rfl) (by omega) (by omega)) (by rw [xu_146.2.1, if_pos rfl]; omega) (hTE.tok xu_146.2) hW hL (lv_sub hl [1, 2, 3, 4] rfl)
                        · refine lv_iconst (v := iv 2) hx hb dX12_tokenize_200 (by decide) ?_
                          refine lv_goto (tgt := 206) hx hb dX12_tokenize_201 (by decide) ?_
                          refine lv_iload_n hx hb dX12_tokenize_206 rfl (lv_at hl 3 rfl) ?_
                          refine lv_iload_n hx hb dX12_tokenize_207 rfl (lv_at hl 1 rfl) ?_
                          refine lv_iload hx hb dX12_tokenize_208 (lv_at hl 0 rfl) ?_
                          have q_155 : (-2147483648) ≤ S7.1 231 19 ∧ S7.1 231 19 ≤ 2147483647 := hI7.fi 19
                          refine sBv (sV (As := [.int (iv 2), .int (iv ps), .int (iv w), .int (iv v)]) (rest := []) (k := 231) Cx (s_X12_token l G S7 (k := 2) (f := ps) (wd := w) (v := v) hI7 (by omega) (by omega) (by omega) (by omega) (by omega)) (c_X12_308 Cx rfl rfl (rmk_ok (by omega) (by decide))) hW (by decide) rfl rfl rfl hl.1 rfl (Nat.le_of_ble_eq_true rfl) dX12_tokenize_210 ⟨Nat.le_of_ble_eq_true rfl, Nat.le_of_ble_eq_true rfl⟩) hL (fun u_156 H locs k_157 hW hL => ?_)
                          obtain ⟨iu_156, fu_156, gu_156, xu_156⟩ := k_157
                          have F_158 := hFm7.trans fu_156
                          have F_159 := hL7_.trans fu_156
                          have F_160 := (Fr.rf : Fr S7 S7 (pl [231, 244, 245, 246, 247])).trans fu_156
                          have g_161 : FF S u_156 (fl [19]) := FF.trans hGm7 (FF.to gu_156 (fl_sub (by decide)))
                          have g_162 : FF ((uF S 231 19 0)) u_156 (fl [19]) := FF.trans gL7_ (FF.to gu_156 (fl_sub (by decide)))
                          have g_163 : FF S7 u_156 (fl [19]) := FF.trans (FF.rf : FF S7 S7 (fl [19])) (FF.to gu_156 (fl_sub (by decide)))
                          refine lv_goto (tgt := 263) hx hb dX12_tokenize_213 (by decide) ?_
                          have q_164 : (-2147483648) ≤ u_156.1 231 19 ∧ u_156.1 231 19 ≤ 2147483647 := iu_156.fi 19
                          exact join_263 u_156 w _ _ _ iu_156 F_158 F_159 F_160 g_161 g_162 g_163 (by omega) (by omega) (hTP.tok xu_156.2 (gu_156 14 rfl) (by omega) (by omega)) (by rw [xu_156.2.1, if_pos rfl]; omega) (hTE.tok xu_156.2) hW hL (lv_sub hl [1, 2, 3, 4] rfl)
                    · refine lv_iload_n hx hb dX12_tokenize_147 rfl (lv_at hl 1 rfl) ?_
                      refine lv_iconst (v := iv 5) hx hb dX12_tokenize_148 (by decide) ?_
                      refine r_icmp_ge (tgt := 171) hx hb ⟨(by omega), (by omega)⟩ ⟨(by omega), (by omega)⟩ dX12_tokenize_149 (by decide) (fun c_165 => ?_) (fun c_165 => ?_)
                      · refine lv_iload hx hb dX12_tokenize_171 (lv_at hl 0 rfl) ?_
                        refine lv_istore (lv' := [(4, .int (iv v)), (3, .int (iv w)), (2, .int (iv (S.2.1 243 ps))), (1, .int (iv ps)), (0, .ref (G.2.2.1 + 231))]) hx hb dX12_tokenize_173 hl (by decide) rfl (fun ls hl => ?_)
                        refine lv_iinc (v := iv (w + 1)) (lv' := [(3, .int (iv (w + 1))), (4, .int (iv v)), (2, .int (iv (S.2.1 243 ps))), (1, .int (iv ps)), (0, .ref (G.2.2.1 + 231))]) hx hb dX12_tokenize_175 hl (k := 1) rfl ((Int32.ofInt_add _ _).symm) (by decide) rfl (fun ls hl => ?_)
                        refine lv_goto (tgt := 134) hx hb dX12_tokenize_178 (by decide) ?_
                        exact ih_134 v (w + 1) _ _ _ (by omega) (by omega) (fun q => absurd q (by omega)) (by omega) hW hL (lv_sub hl [1, 0, 2, 3, 4] rfl)
                      · refine lv_bipush (v := iv 10) hx hb dX12_tokenize_152 (by decide) ?_
                        refine lv_iload hx hb dX12_tokenize_154 (lv_at hl 0 rfl) ?_
                        refine r_imul hx hb dX12_tokenize_156 ?_
                        refine lv_aload_n hx hb dX12_tokenize_157 rfl (lv_at hl 4 rfl) ?_
                        refine lv_iload_n hx hb dX12_tokenize_158 rfl (lv_at hl 3 rfl) ?_
                        refine lv_iload_n hx hb dX12_tokenize_159 rfl (lv_at hl 1 rfl) ?_
                        refine r_iadd hx hb dX12_tokenize_160 ?_
                        refine sBi (sV (As := [.int (iv (ps + w))]) (rest := [.int (iv (10 * v))]) (k := 231) Cx (s_X12_at l G S7 (a := ps + w) hI7 (by omega) (by omega)) (c_X12_292 Cx rfl rfl (rmk_ok (by omega) (by decide))) hW (by decide) rfl rfl rfl hl.1 rfl (Nat.le_of_ble_eq_true rfl) dX12_tokenize_161 ⟨Nat.le_of_ble_eq_true rfl, Nat.le_of_ble_eq_true rfl⟩) hL (fun r_168 u_166 H locs k_167 hW hL => ?_)
                        obtain ⟨eu_166, xu_166⟩ := k_167
                        rw [eu_166] at hW
                        have yy1 := hau_120 (by omega)
                        have yy2 := xu_166.2.2 (by omega)
                        refine r_iadd hx hb dX12_tokenize_164 ?_
                        refine lv_bipush (v := iv 48) hx hb dX12_tokenize_165 (by decide) ?_
                        refine r_isub hx hb dX12_tokenize_167 ?_
                        refine lv_goto (tgt := 173) hx hb dX12_tokenize_168 (by decide) ?_
                        refine lv_istore (lv' := [(4, .int (iv (((10 * v) + r_168) - 48))), (3, .int (iv w)), (2, .int (iv (S.2.1 243 ps))), (1, .int (iv ps)), (0, .ref (G.2.2.1 + 231))]) hx hb dX12_tokenize_173 hl (by decide) rfl (fun ls hl => ?_)
                        refine lv_iinc (v := iv (w + 1)) (lv' := [(3, .int (iv (w + 1))), (4, .int (iv (((10 * v) + r_168) - 48))), (2, .int (iv (S.2.1 243 ps))), (1, .int (iv ps)), (0, .ref (G.2.2.1 + 231))]) hx hb dX12_tokenize_175 hl (k := 1) rfl ((Int32.ofInt_add _ _).symm) (by decide) rfl (fun ls hl => ?_)
                        refine lv_goto (tgt := 134) hx hb dX12_tokenize_178 (by decide) ?_
                        exact ih_134 (((10 * v) + r_168) - 48) (w + 1) _ _ _ (by omega) (by omega) (fun q => absurd q (by omega)) (by omega) hW hL (lv_sub hl [1, 0, 2, 3, 4] rfl)
                exact loop_134 (_ + 1) 0 0 _ _ _ (Nat.lt_succ_self _) (by omega) (fun _ => by rw [show ps + 0 = ps by omega, show S7.2.1 243 ps = S.2.1 243 ps from (hFm7 243 rfl).2.1 ps]; omega) (by omega) hW hL (lv_sub hl [0, 1, 2, 3, 4] rfl)
            · have loop_49 : ∀ (fuel : Nat) (w : Int) (H : Heap) (locs : List Loc) (ls : Array Slot), (S.1 231 14 - ps - w).toNat < fuel → (0 ≤ w ∧ ps + w ≤ S.1 231 14) → (Hd (w = 0 → (97 ≤ S7.2.1 243 (ps + w) ∧ S7.2.1 243 (ps + w) ≤ 122) ∨ (65 ≤ S7.2.1 243 (ps + w) ∧ S7.2.1 243 (ps + w) ≤ 90))) → sW G 294 S7 H → sL G locs → lv_has ls 5 [(3, .int (iv w)), (2, .int (iv (S.2.1 243 ps))), (1, .int (iv ps)), (0, .ref (G.2.2.1 + 231))] → W p l e (rmk 6 0 0) s m args below meth c H locs 0 0 (MQ below (sQv G 294 (fun u => dX G u ∧ Fr S u (pl [231, 244, 245, 246, 247]) ∧ FF S u (fl [19]) ∧ (dTO u))) args s 0 0 (sF G)) (F0 m 49 ls []) := by
                intro fuel
                induction fuel with
                | zero => intro w H locs ls hmeas hw hw0 hW hL hl; exact absurd hmeas (Nat.not_lt_zero _)
                | succ fuel ih_49 =>
                  intro w H locs ls hmeas hw hw0 hW hL hl
                  refine lv_aload_n hx hb dX12_tokenize_49 rfl (lv_at hl 3 rfl) ?_
                  refine lv_iload_n hx hb dX12_tokenize_50 rfl (lv_at hl 2 rfl) ?_
                  refine lv_iload_n hx hb dX12_tokenize_51 rfl (lv_at hl 0 rfl) ?_
                  refine r_iadd hx hb dX12_tokenize_52 ?_
                  have lk_169 : S7.1 231 14 = S.1 231 14 := (gL7_ 14 rfl).trans (uF_ne (fun h => absurd h.2 (by decide)))
                  refine sBi (sV (As := [.int (iv (ps + w))]) (rest := []) (k := 231) Cx (s_X12_at l G S7 (a := ps + w) hI7 (by omega) (by omega)) (c_X12_292 Cx rfl rfl (rmk_ok (by omega) (by decide))) hW (by decide) rfl rfl rfl hl.1 rfl (Nat.le_of_ble_eq_true rfl) dX12_tokenize_53 ⟨Nat.le_of_ble_eq_true rfl, Nat.le_of_ble_eq_true rfl⟩) hL (fun r_172 u_170 H locs k_171 hW hL => ?_)
                  obtain ⟨eu_170, xu_170⟩ := k_171
                  rw [eu_170] at hW
                  have hau_170 := xu_170.2.2
                  refine sBi (sSt (As := [.int (iv r_172)]) (rest := []) Cx (s_X12_isLetter l G S7 (ch := r_172) (by omega)) (c_X12_295 Cx rfl rfl (rmk_ok (by omega) (by decide))) hW rfl hl.1 rfl (Nat.le_of_ble_eq_true rfl) dX12_tokenize_56 ⟨Nat.le_of_ble_eq_true rfl, Nat.le_of_ble_eq_true rfl⟩) hL (fun r_175 u_173 H locs k_174 hW hL => ?_)
                  obtain ⟨eu_173, xu_173⟩ := k_174
                  rw [eu_173] at hW
                  refine r_if_ne (tgt := 75) hx hb ⟨(by omega), (by omega)⟩ dX12_tokenize_59 (by decide) (fun c_176 => ?_) (fun c_176 => ?_)
                  · refine lv_iinc (v := iv (w + 1)) (lv' := [(3, .int (iv (w + 1))), (2, .int (iv (S.2.1 243 ps))), (1, .int (iv ps)), (0, .ref (G.2.2.1 + 231))]) hx hb dX12_tokenize_75 hl (k := 0) rfl ((Int32.ofInt_add _ _).symm) (by decide) rfl (fun ls hl => ?_)
                    refine lv_goto (tgt := 49) hx hb dX12_tokenize_78 (by decide) ?_
                    exact ih_49 (w + 1) _ _ _ (by omega) (by omega) (fun q => absurd q (by omega)) hW hL (lv_sub hl [0, 1, 2, 3] rfl)
                  · refine lv_aload_n hx hb dX12_tokenize_62 rfl (lv_at hl 3 rfl) ?_
                    refine lv_iload_n hx hb dX12_tokenize_63 rfl (lv_at hl 2 rfl) ?_
                    refine lv_iload_n hx hb dX12_tokenize_64 rfl (lv_at hl 0 rfl) ?_
                    refine r_iadd hx hb dX12_tokenize_65 ?_
                    refine sBi (sV (As := [.int (iv (ps + w))]) (rest := []) (k := 231) Cx (s_X12_at l G S7 (a := ps + w) hI7 (by omega) (by omega)) (c_X12_292 Cx rfl rfl (rmk_ok (by omega) (by decide))) hW (by decide) rfl rfl rfl hl.1 rfl (Nat.le_of_ble_eq_true rfl) dX12_tokenize_66 ⟨Nat.le_of_ble_eq_true rfl, Nat.le_of_ble_eq_true rfl⟩) hL (fun r_179 u_177 H locs k_178 hW hL => ?_)
                    obtain ⟨eu_177, xu_177⟩ := k_178
                    rw [eu_177] at hW
                    have hau_177 := xu_177.2.2
                    refine sBi (sSt (As := [.int (iv r_179)]) (rest := []) Cx (s_X12_isDigit l G S7 (ch := r_179) (by omega)) (c_X12_299 Cx rfl rfl (rmk_ok (by omega) (by decide))) hW rfl hl.1 rfl (Nat.le_of_ble_eq_true rfl) dX12_tokenize_69 ⟨Nat.le_of_ble_eq_true rfl, Nat.le_of_ble_eq_true rfl⟩) hL (fun r_182 u_180 H locs k_181 hW hL => ?_)
                    obtain ⟨eu_180, xu_180⟩ := k_181
                    rw [eu_180] at hW
                    refine r_if_eq (tgt := 81) hx hb ⟨(by omega), (by omega)⟩ dX12_tokenize_72 (by decide) (fun c_183 => ?_) (fun c_183 => ?_)
                    · have hwp : 1 ≤ w := by by_cases z : w = 0; (have y1 := hw0 z; have y2 := hau_170 (by omega); omega); omega
                      refine lv_aload_n hx hb dX12_tokenize_81 rfl (lv_at hl 3 rfl) ?_
                      refine zLdcw Cx 23 (by decide) ⟨rfl, rfl⟩ dX12_tokenize_82 ?_
                      refine lv_iload_n hx hb dX12_tokenize_85 rfl (lv_at hl 2 rfl) ?_
                      refine lv_iload_n hx hb dX12_tokenize_86 rfl (lv_at hl 0 rfl) ?_
                      refine sBi (sV (As := [.ref (G.1.2 100 23), .int (iv ps), .int (iv w)]) (rest := []) (k := 231) Cx (s_X12_among l G S7 (si := 23) (a := ps) (b := w) hI7 (by decide) (by omega)) (c_X12_304 Cx rfl rfl (rmk_ok (by omega) (by decide))) hW (by decide) rfl rfl rfl hl.1 rfl (Nat.le_of_ble_eq_true rfl) dX12_tokenize_87 ⟨Nat.le_of_ble_eq_true rfl, Nat.le_of_ble_eq_true rfl⟩) hL (fun r_186 u_184 H locs k_185 hW hL => ?_)
                      obtain ⟨eu_184, xu_184⟩ := k_185
                      rw [eu_184] at hW
                      refine lv_istore (lv' := [(4, .int (iv r_186)), (3, .int (iv w)), (2, .int (iv (S.2.1 243 ps))), (1, .int (iv ps)), (0, .ref (G.2.2.1 + 231))]) hx hb dX12_tokenize_90 hl (by decide) rfl (fun ls hl => ?_)
                      refine lv_aload_n hx hb dX12_tokenize_92 rfl (lv_at hl 4 rfl) ?_
                      refine lv_iload hx hb dX12_tokenize_93 (lv_at hl 0 rfl) ?_
                      refine r_if_lt (tgt := 102) hx hb ⟨(by omega), (by omega)⟩ dX12_tokenize_95 (by decide) (fun c_187 => ?_) (fun c_187 => ?_)
                      · refine lv_iload_n hx hb dX12_tokenize_102 rfl (lv_at hl 1 rfl) ?_
                        refine lv_bipush (v := iv 8) hx hb dX12_tokenize_103 (by decide) ?_
                        refine r_icmp_gt (tgt := 112) hx hb ⟨(by omega), (by omega)⟩ ⟨(by omega), (by omega)⟩ dX12_tokenize_105 (by decide) (fun c_188 => ?_) (fun c_188 => ?_)
                        · refine lv_bipush (v := iv 6) hx hb dX12_tokenize_112 (by decide) ?_
                          refine lv_iload_n hx hb dX12_tokenize_114 rfl (lv_at hl 3 rfl) ?_
                          refine lv_iload_n hx hb dX12_tokenize_115 rfl (lv_at hl 1 rfl) ?_
                          refine lv_iload hx hb dX12_tokenize_116 (lv_at hl 0 rfl) ?_
                          have q_189 : (-2147483648) ≤ S7.1 231 19 ∧ S7.1 231 19 ≤ 2147483647 := hI7.fi 19
                          refine sBv (sV (As := [.int (iv 6), .int (iv ps), .int (iv w), .int (iv r_186)]) (rest := []) (k := 231) Cx (s_X12_token l G S7 (k := 6) (f := ps) (wd := w) (v := r_186) hI7 (by omega) (by omega) (by omega) (by omega) (by omega)) (c_X12_308 Cx rfl rfl (rmk_ok (by omega) (by decide))) hW (by decide) rfl rfl rfl hl.1 rfl (Nat.le_of_ble_eq_true rfl) dX12_tokenize_118 ⟨Nat.le_of_ble_eq_true rfl, Nat.le_of_ble_eq_true rfl⟩) hL (fun u_190 H locs k_191 hW hL => ?_)
                          obtain ⟨iu_190, fu_190, gu_190, xu_190⟩ := k_191
                          have F_192 := hFm7.trans fu_190
                          have F_193 := hL7_.trans fu_190
                          have F_194 := (Fr.rf : Fr S7 S7 (pl [231, 244, 245, 246, 247])).trans fu_190
                          have g_195 : FF S u_190 (fl [19]) := FF.trans hGm7 (FF.to gu_190 (fl_sub (by decide)))
                          have g_196 : FF ((uF S 231 19 0)) u_190 (fl [19]) := FF.trans gL7_ (FF.to gu_190 (fl_sub (by decide)))
                          have g_197 : FF S7 u_190 (fl [19]) := FF.trans (FF.rf : FF S7 S7 (fl [19])) (FF.to gu_190 (fl_sub (by decide)))
                          refine lv_goto (tgt := 263) hx hb dX12_tokenize_121 (by decide) ?_
                          have q_198 : (-2147483648) ≤ u_190.1 231 19 ∧ u_190.1 231 19 ≤ 2147483647 := iu_190.fi 19
                          exact join_263 u_190 w _ _ _ iu_190 F_192 F_193 F_194 g_195 g_196 g_197 (by omega) (by omega) (hTP.tok xu_190.2 (gu_190 14 rfl) (by omega) (by omega)) (by rw [xu_190.2.1, if_pos rfl]; omega) (hTE.tok xu_190.2) hW hL (lv_sub hl [1, 2, 3, 4] rfl)
                        · refine lv_iconst (v := iv 1) hx hb dX12_tokenize_108 (by decide) ?_
                          refine lv_goto (tgt := 114) hx hb dX12_tokenize_109 (by decide) ?_
                          refine lv_iload_n hx hb dX12_tokenize_114 rfl (lv_at hl 3 rfl) ?_
                          refine lv_iload_n hx hb dX12_tokenize_115 rfl (lv_at hl 1 rfl) ?_
                          refine lv_iload hx hb dX12_tokenize_116 (lv_at hl 0 rfl) ?_
                          have q_199 : (-2147483648) ≤ S7.1 231 19 ∧ S7.1 231 19 ≤ 2147483647 := hI7.fi 19
                          refine sBv (sV (As := [.int (iv 1), .int (iv ps), .int (iv w), .int (iv r_186)]) (rest := []) (k := 231) Cx (s_X12_token l G S7 (k := 1) (f := ps) (wd := w) (v := r_186) hI7 (by omega) (by omega) (by omega) (by omega) (by omega)) (c_X12_308 Cx rfl rfl (rmk_ok (by omega) (by decide))) hW (by decide) rfl rfl rfl hl.1 rfl (Nat.le_of_ble_eq_true rfl) dX12_tokenize_118 ⟨Nat.le_of_ble_eq_true rfl, Nat.le_of_ble_eq_true rfl⟩) hL (fun u_200 H locs k_201 hW hL => ?_)
                          obtain ⟨iu_200, fu_200, gu_200, xu_200⟩ := k_201
                          have F_202 := hFm7.trans fu_200
                          have F_203 := hL7_.trans fu_200
                          have F_204 := (Fr.rf : Fr S7 S7 (pl [231, 244, 245, 246, 247])).trans fu_200
                          have g_205 : FF S u_200 (fl [19]) := FF.trans hGm7 (FF.to gu_200 (fl_sub (by decide)))
                          have g_206 : FF ((uF S 231 19 0)) u_200 (fl [19]) := FF.trans gL7_ (FF.to gu_200 (fl_sub (by decide)))
                          have g_207 : FF S7 u_200 (fl [19]) := FF.trans (FF.rf : FF S7 S7 (fl [19])) (FF.to gu_200 (fl_sub (by decide)))
                          refine lv_goto (tgt := 263) hx hb dX12_tokenize_121 (by decide) ?_
                          have q_208 : (-2147483648) ≤ u_200.1 231 19 ∧ u_200.1 231 19 ≤ 2147483647 := iu_200.fi 19
                          exact join_263 u_200 w _ _ _ iu_200 F_202 F_203 F_204 g_205 g_206 g_207 (by omega) (by omega) (hTP.tok xu_200.2 (gu_200 14 rfl) (by omega) (by omega)) (by rw [xu_200.2.1, if_pos rfl]; omega) (hTE.tok xu_200.2) hW hL (lv_sub hl [1, 2, 3, 4] rfl)
                      · refine lv_iconst (v := iv 3) hx hb dX12_tokenize_98 (by decide) ?_
                        refine lv_goto (tgt := 114) hx hb dX12_tokenize_99 (by decide) ?_
                        refine lv_iload_n hx hb dX12_tokenize_114 rfl (lv_at hl 3 rfl) ?_
                        refine lv_iload_n hx hb dX12_tokenize_115 rfl (lv_at hl 1 rfl) ?_
                        refine lv_iload hx hb dX12_tokenize_116 (lv_at hl 0 rfl) ?_
                        have q_209 : (-2147483648) ≤ S7.1 231 19 ∧ S7.1 231 19 ≤ 2147483647 := hI7.fi 19
                        refine sBv (sV (As := [.int (iv 3), .int (iv ps), .int (iv w), .int (iv r_186)]) (rest := []) (k := 231) Cx (s_X12_token l G S7 (k := 3) (f := ps) (wd := w) (v := r_186) hI7 (by omega) (by omega) (by omega) (by omega) (by omega)) (c_X12_308 Cx rfl rfl (rmk_ok (by omega) (by decide))) hW (by decide) rfl rfl rfl hl.1 rfl (Nat.le_of_ble_eq_true rfl) dX12_tokenize_118 ⟨Nat.le_of_ble_eq_true rfl, Nat.le_of_ble_eq_true rfl⟩) hL (fun u_210 H locs k_211 hW hL => ?_)
                        obtain ⟨iu_210, fu_210, gu_210, xu_210⟩ := k_211
                        have F_212 := hFm7.trans fu_210
                        have F_213 := hL7_.trans fu_210
                        have F_214 := (Fr.rf : Fr S7 S7 (pl [231, 244, 245, 246, 247])).trans fu_210
                        have g_215 : FF S u_210 (fl [19]) := FF.trans hGm7 (FF.to gu_210 (fl_sub (by decide)))
                        have g_216 : FF ((uF S 231 19 0)) u_210 (fl [19]) := FF.trans gL7_ (FF.to gu_210 (fl_sub (by decide)))
                        have g_217 : FF S7 u_210 (fl [19]) := FF.trans (FF.rf : FF S7 S7 (fl [19])) (FF.to gu_210 (fl_sub (by decide)))
                        refine lv_goto (tgt := 263) hx hb dX12_tokenize_121 (by decide) ?_
                        have q_218 : (-2147483648) ≤ u_210.1 231 19 ∧ u_210.1 231 19 ≤ 2147483647 := iu_210.fi 19
                        exact join_263 u_210 w _ _ _ iu_210 F_212 F_213 F_214 g_215 g_216 g_217 (by omega) (by omega) (hTP.tok xu_210.2 (gu_210 14 rfl) (by omega) (by omega)) (by rw [xu_210.2.1, if_pos rfl]; omega) (hTE.tok xu_210.2) hW hL (lv_sub hl [1, 2, 3, 4] rfl)
                    · refine lv_iinc (v := iv (w + 1)) (lv' := [(3, .int (iv (w + 1))), (2, .int (iv (S.2.1 243 ps))), (1, .int (iv ps)), (0, .ref (G.2.2.1 + 231))]) hx hb dX12_tokenize_75 hl (k := 0) rfl ((Int32.ofInt_add _ _).symm) (by decide) rfl (fun ls hl => ?_)
                      refine lv_goto (tgt := 49) hx hb dX12_tokenize_78 (by decide) ?_
                      exact ih_49 (w + 1) _ _ _ (by omega) (by omega) (fun q => absurd q (by omega)) hW hL (lv_sub hl [0, 1, 2, 3] rfl)
              exact loop_49 (_ + 1) 0 _ _ _ (Nat.lt_succ_self _) (by omega) (fun _ => by rw [show ps + 0 = ps by omega, show S7.2.1 243 ps = S.2.1 243 ps from (hFm7 243 rfl).2.1 ps]; omega) hW hL (lv_sub hl [0, 1, 2, 3] rfl)
          · refine lv_iinc (v := iv (ps + 1)) (lv' := [(1, .int (iv (ps + 1))), (2, .int (iv (S.2.1 243 ps))), (0, .ref (G.2.2.1 + 231))]) hx hb dX12_tokenize_34 hl (k := 1) rfl ((Int32.ofInt_add _ _).symm) (by decide) rfl (fun ls hl => ?_)
            refine lv_goto (tgt := 7) hx hb dX12_tokenize_37 (by decide) ?_
            have q_219 : (-2147483648) ≤ S7.1 231 19 ∧ S7.1 231 19 ≤ 2147483647 := hI7.fi 19
            exact ih_7 S7 (ps + 1) _ _ _ (by omega) hI7 hFm7 hL7_ hGm7 gL7_ (by omega) (by omega) hTP hTE hW hL (lv_sub hl [0, 2] rfl)
  have lk_220 : (uF S 231 19 0).1 231 19 = 0 := uF_on
  exact loop_7 (_ + 1) (uF S 231 19 0) 0 _ _ _ (Nat.lt_succ_self _) i_3 F_1 Fr.rf g_2 FF.rf (by omega) (by omega) (fun t a b => absurd b (by have : (uF S 231 19 0).1 231 19 = 0 := uF_on; omega)) (fun t a b => absurd b (by have : (uF S 231 19 0).1 231 19 = 0 := uF_on; omega)) hW hL (lv_sub hl [0, 1] rfl)
