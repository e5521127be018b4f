/-! The teller's small methods, exactly -/
theorem efn_f {nm : Int → Int} {x i : Int} (h0 : 0 ≤ i) (h : ∀ s : Int, 0 ≤ s → s < i → nm s ≠ x) (e : nm i = x) : ∀ m : Nat, i < m → efn nm x m = i := by
  intro m
  induction m with
  | zero => intro q; omega
  | succ m ih =>
    intro q
    have ed : efn nm x (m + 1) = if 0 ≤ efn nm x m then efn nm x m else if nm m = x then (m : Int) else -1 := rfl
    by_cases z : i < m
    · rw [ed, ih z, if_pos h0]
    · have em : (m : Int) = i := by omega
      have en : efn nm x m = -1 := by
        rcases efn_r (nm := nm) (x := x) m with a | a
        · exact a.1
        · exact absurd a.2.2 (h _ a.1 (by omega))
      rw [ed, en, if_neg (by decide), if_pos (by rw [em]; exact e), em]
theorem efn_0 {nm : Int → Int} {x : Int} {m : Nat} (h : ∀ s : Int, 0 ≤ s → s < m → nm s ≠ x) : efn nm x m = -1 := by
  rcases efn_r (nm := nm) (x := x) m with a | a
  · exact a.1
  · exact absurd a.2.2 (h _ a.1 a.2.1)
def vbd (f : Int → Int) : Prop := ∀ j, 0 ≤ j → j < 13 → -10000000000 ≤ f j ∧ f j ≤ 10000000000
def veq (f g : Int → Int) : Prop := ∀ j, 0 ≤ j → j < 13 → f j = g j
theorem tmul {t x : Int} (ht : t = 1 ∨ t = -1) (h : -10000000000 ≤ x ∧ x ≤ 10000000000) : -10000000000 ≤ t * x ∧ t * x ≤ 10000000000 := by
  rcases ht with e | e <;> rw [e] <;> omega
theorem grt_y {f : Int → Int} {j : Int} (h0 : 0 ≤ j) (h1 : j < 13) (h : 99999 < f j ∨ f j < -99999) : grt f := ⟨⟨j.toNat, by omega⟩, by show 99999 < f ((j.toNat : Nat) : Int) ∨ f ((j.toNat : Nat) : Int) < -99999; rw [show ((j.toNat : Nat) : Int) = j by omega]; exact h⟩
theorem grt_n {f : Int → Int} (h : ∀ j, 0 ≤ j → j < 13 → -99999 ≤ f j ∧ f j ≤ 99999) : ¬ grt f := fun ⟨j, q⟩ => by
  have := h (j.val : Int) (by omega) (by have := j.isLt; omega); omega
theorem ngrt {f : Int → Int} (h : ¬ grt f) (j : Int) (h0 : 0 ≤ j) (h1 : j < 13) : -99999 ≤ f j ∧ f j ≤ 99999 := by
  by_cases q : -99999 ≤ f j ∧ f j ≤ 99999
  · exact q
  · exact absurd (grt_y h0 h1 (by omega)) h
theorem hsv_y {f : Int → Int} {j : Int} (h0 : 1 ≤ j) (h1 : j < 13) (h : f j ≠ 0) : hsv f := ⟨⟨(j - 1).toNat, by omega⟩, by show f (((j - 1).toNat : Nat) + 1 : Int) ≠ 0; rw [show (((j - 1).toNat : Nat) : Int) + 1 = j by omega]; exact h⟩
theorem hsv_n {f : Int → Int} (h : ∀ j, 1 ≤ j → j < 13 → f j = 0) : ¬ hsv f := fun ⟨j, q⟩ => q (h _ (by omega) (by have := j.isLt; omega))
theorem veq_grt {f g : Int → Int} (h : veq f g) : grt f ↔ grt g := by
  constructor
  · rintro ⟨j, q⟩; exact ⟨j, by rw [← h (j.val : Int) (by omega) (by have := j.isLt; omega)]; exact q⟩
  · rintro ⟨j, q⟩; exact ⟨j, by rw [h (j.val : Int) (by omega) (by have := j.isLt; omega)]; exact q⟩
theorem veq_hsv {f g : Int → Int} (h : veq f g) : hsv f ↔ hsv g := by
  constructor
  · rintro ⟨j, q⟩; exact ⟨j, by rw [← h _ (by omega) (by have := j.isLt; omega)]; exact q⟩
  · rintro ⟨j, q⟩; exact ⟨j, by rw [h _ (by omega) (by have := j.isLt; omega)]; exact q⟩
theorem mulb {a b : Int} (ha : -99999 ≤ a ∧ a ≤ 99999) (hb : -99999 ≤ b ∧ b ≤ 99999) : -10000000000 ≤ a * b ∧ a * b ≤ 10000000000 := by
  have h1 : a * b ≤ 99999 * 99999 := by
    by_cases q : 0 ≤ a
    · by_cases z : 0 ≤ b
      · exact Int.mul_le_mul ha.2 hb.2 z (by decide)
      · have := Int.mul_nonneg q (show 0 ≤ -b by omega); rw [Int.mul_neg] at this; omega
    · by_cases z : 0 ≤ b
      · have := Int.mul_nonneg (show 0 ≤ -a by omega) z; rw [Int.neg_mul] at this; omega
      · have := Int.mul_le_mul (show -a ≤ 99999 by omega) (show -b ≤ 99999 by omega) (by omega) (by decide); rw [Int.neg_mul_neg] at this; exact this
  have h2 : -(a * b) ≤ 99999 * 99999 := by
    rw [← Int.neg_mul]
    by_cases q : 0 ≤ -a
    · by_cases z : 0 ≤ b
      · exact Int.mul_le_mul (show -a ≤ 99999 by omega) hb.2 z (by decide)
      · have := Int.mul_nonneg q (show 0 ≤ -b by omega); rw [Int.mul_neg] at this; omega
    · by_cases z : 0 ≤ b
      · have := Int.mul_nonneg (show 0 ≤ a by omega) z; rw [Int.neg_mul]; omega
      · have := Int.mul_le_mul (show a ≤ 99999 by omega) (show -b ≤ 99999 by omega) (by omega) (by decide); rw [Int.neg_mul]; rw [Int.mul_neg] at this; exact this
  omega
set_option maxRecDepth 100000 in
set_option maxHeartbeats 4000000 in
theorem e_X9_find (l : Launch) (G : sG) (S : sS) {nm : Int} (hI : cX G S 0 0 0) (hnm : -9223372036854775808 ≤ nm ∧ nm ≤ 9223372036854775807) : Met l yX9_find (.code yX9_find cX9_find 4 (some .int) :: tb) (rmk 1 0 0) (sPc G 294 S [.ref (G.2.2.1 + 11), .long (jv nm)]) (sQi G 294 (fun r u => u = S ∧ ((-1 ≤ r ∧ r < S.1 11 9 ∧ r ≤ 127) ∧ Hd (r = efn (S.2.2.1 16) nm (S.1 11 9).toNat)))) 0 0 (sF G) := by
  refine sEnter (by decide) (Nat.le_of_ble_eq_true rfl) ?_
  intro p e s m args below meth c Cx hr hlk hnm hW ls hl
  have Cx : sC G p m c cX9_find 4 s args RX9 := Cx
  obtain ⟨hx, hb, hml, hown, hts⟩ := id Cx.1
  have hL : sL G [] := sL_nil
  have hl : lv_has ls 4 [(0, .ref (G.2.2.1 + 11)), (1, .long (jv nm))] := hl
  have hW0 := hW
  have hkn : 0 ≤ S.1 11 9 ∧ S.1 11 9 ≤ 128 := hI.fi 11 9 9 (by decide) rfl
  refine lv_iconst (v := iv 0) hx hb dX9_find_0 (by decide) ?_
  refine lv_istore_n (lv' := [(3, .int (iv 0)), (0, .ref (G.2.2.1 + 11)), (1, .long (jv nm))]) hx hb dX9_find_1 rfl hl (by decide) rfl (fun ls hl => ?_)
  have loop_2 : ∀ (fuel : Nat) (i : Int) (H : Heap) (locs : List Loc) (ls : Array Slot), (S.1 11 9 - i).toNat < fuel → (0 ≤ i ∧ i ≤ S.1 11 9) → (Hd (∀ s : Int, 0 ≤ s → s < i → S.2.2.1 16 s ≠ nm)) → sW G 294 S H → sL G locs → lv_has ls 4 [(3, .int (iv i)), (0, .ref (G.2.2.1 + 11)), (1, .long (jv nm))] → W p l e (rmk 1 0 0) s m args below meth c H locs 0 0 (MQ below (sQi G 294 (fun r u => u = S ∧ ((-1 ≤ r ∧ r < S.1 11 9 ∧ r ≤ 127) ∧ Hd (r = efn (S.2.2.1 16) nm (S.1 11 9).toNat)))) args s 0 0 (sF G)) (F0 m 2 ls []) := by
    intro fuel
    induction fuel with
    | zero => intro i H locs ls hmeas hi hno hW hL hl; exact absurd hmeas (Nat.not_lt_zero _)
    | succ fuel ih_2 =>
      intro i H locs ls hmeas hi hno hW hL hl
      refine lv_iload_n hx hb dX9_find_2 rfl (lv_at hl 0 rfl) ?_
      refine lv_aload_n hx hb dX9_find_3 rfl (lv_at hl 1 rfl) ?_
      have q_1 : 0 ≤ S.1 11 9 ∧ S.1 11 9 ≤ 128 := hI.fi 11 9 9 (by decide) rfl
      refine g_X9_77 Cx hW (k := 11) (by decide) rfl (v := S.1 11 9) rfl dX9_find_4 ?_
      refine r_icmp_ge (tgt := 29) hx hb ⟨(by omega), (by omega)⟩ ⟨(by omega), (by omega)⟩ dX9_find_7 (by decide) (fun c_2 => ?_) (fun c_2 => ?_)
      · refine lv_iconst (v := iv (-1)) hx hb dX9_find_29 (by decide) ?_
        exact sIret Cx hr hlk hW hL ⟨rfl, ⟨(by omega), (efn_0 (fun s a b => hno s a (by omega))).symm⟩⟩ dX9_find_30
      · refine lv_aload_n hx hb dX9_find_10 rfl (lv_at hl 1 rfl) ?_
        refine g_X9_18 Cx hW (k := 11) (by decide) rfl (v := .ref (G.2.2.1 + 16)) (rf_11_1 hI) dX9_find_11 ?_
        refine lv_iload_n hx hb dX9_find_14 rfl (lv_at hl 0 rfl) ?_
        refine rLald Cx hW (k := 16) (by decide) rfl (by decide) (by omega) (by omega) dX9_find_15 ?_
        have q_3 : -9223372036854775808 ≤ S.2.2.1 16 i ∧ S.2.2.1 16 i ≤ 9223372036854775807 := hI.li 16 i (by decide)
        refine r_j (b := S.2.2.1 16 i) rfl ?_
        refine lv_lload_n hx hb dX9_find_16 rfl (lv_at hl 2 rfl) ?_
        refine r_lcmp hx hb ⟨(by omega), (by omega)⟩ ⟨(by omega), (by omega)⟩ dX9_find_17 (fun z_4 az_4 bz_4 cz_4 => ?_)
        refine r_if_ne (tgt := 23) hx hb ⟨(by omega), (by omega)⟩ dX9_find_18 (by decide) (fun c_5 => ?_) (fun c_5 => ?_)
        · refine lv_iinc (v := iv (i + 1)) (lv' := [(3, .int (iv (i + 1))), (0, .ref (G.2.2.1 + 11)), (1, .long (jv nm))]) hx hb dX9_find_23 hl (k := 0) rfl ((Int32.ofInt_add _ _).symm) (by decide) rfl (fun ls hl => ?_)
          refine lv_goto (tgt := 2) hx hb dX9_find_26 (by decide) ?_
          exact ih_2 (i + 1) _ _ _ (by omega) (by omega) (fun s a b => by by_cases z : s = i; (rw [z]; intro q; have q1 := bz_4 q; omega); exact hno s a (by omega)) hW hL (lv_sub hl [0, 1, 2] rfl)
        · refine lv_iload_n hx hb dX9_find_21 rfl (lv_at hl 0 rfl) ?_
          exact sIret Cx hr hlk hW hL ⟨rfl, ⟨(by omega), (efn_f (by omega) hno (by have q1 := az_4; have q2 := cz_4; omega) _ (by omega)).symm⟩⟩ dX9_find_22
  exact loop_2 (_ + 1) 0 _ _ _ (Nat.lt_succ_self _) (by omega) (fun s a b => absurd b (by omega)) hW hL (lv_sub hl [0, 1, 2] rfl)

set_option maxRecDepth 100000 in
set_option maxHeartbeats 4000000 in
theorem e_X9_addTo (l : Launch) (G : sG) (S : sS) {qa qb : Nat} {t : Int} (hI : cX G S 0 0 0) (hqa : lr qa) (hqb : lr qb) (ht : t = 1 ∨ t = -1) (hne : qb ≠ qa) (hva : Hd (vbd (S.2.2.1 qa))) (hvb : Hd (vbd (S.2.2.1 qb))) : Met l yX9_addTo (.code yX9_addTo cX9_addTo 4 none :: tb) (rmk 1 0 0) (sPc G 294 S [.ref (G.2.2.1 + qa), .ref (G.2.2.1 + qb), .int (iv t)]) (sQv G 294 (fun u => cX G u 0 0 0 ∧ Fr S u (p1 qa) ∧ (Hd (veq (u.2.2.1 qa) (vad (S.2.2.1 qa) (S.2.2.1 qb) t))))) 0 0 (sF G) := by
  refine sEnter (by decide) (Nat.le_of_ble_eq_true rfl) ?_
  intro p e s m args below meth c Cx hr hlk hnm hW ls hl
  have Cx : sC G p m c cX9_addTo 4 s args RX9 := Cx
  obtain ⟨hx, hb, hml, hown, hts⟩ := id Cx.1
  have hL : sL G [] := sL_nil
  have hl : lv_has ls 4 [(0, .ref (G.2.2.1 + qa)), (1, .ref (G.2.2.1 + qb)), (2, .int (iv t))] := hl
  have hW0 := hW
  refine lv_iconst (v := iv 0) hx hb dX9_addTo_0 (by decide) ?_
  refine lv_istore_n (lv' := [(3, .int (iv 0)), (0, .ref (G.2.2.1 + qa)), (1, .ref (G.2.2.1 + qb)), (2, .int (iv t))]) hx hb dX9_addTo_1 rfl hl (by decide) rfl (fun ls hl => ?_)
  have loop_2 : ∀ (fuel : Nat) (S2 : sS) (j : Int) (H : Heap) (locs : List Loc) (ls : Array Slot), (13 - j).toNat < fuel → (cX G S2 0 0 0) → (Fr S S2 (p1 qa)) → (Fr S S2 (p1 qa)) → (0 ≤ j ∧ j ≤ 13) → (Hd (∀ x, 0 ≤ x → x < 13 → S2.2.2.1 qa x = if x < j then vad (S.2.2.1 qa) (S.2.2.1 qb) t x else S.2.2.1 qa x)) → (Hd (veq (S2.2.2.1 qb) (S.2.2.1 qb))) → sW G 294 S2 H → sL G locs → lv_has ls 4 [(3, .int (iv j)), (0, .ref (G.2.2.1 + qa)), (1, .ref (G.2.2.1 + qb)), (2, .int (iv t))] → W p l e (rmk 1 0 0) s m args below meth c H locs 0 0 (MQ below (sQv G 294 (fun u => cX G u 0 0 0 ∧ Fr S u (p1 qa) ∧ (Hd (veq (u.2.2.1 qa) (vad (S.2.2.1 qa) (S.2.2.1 qb) t))))) args s 0 0 (sF G)) (F0 m 2 ls []) := by
    intro fuel
    induction fuel with
    | zero => intro S2 j H locs ls hmeas hI2 hFm2 hL2_ hj hA hB hW hL hl; exact absurd hmeas (Nat.not_lt_zero _)
    | succ fuel ih_2 =>
      intro S2 j H locs ls hmeas hI2 hFm2 hL2_ hj hA hB hW hL hl
      refine lv_iload_n hx hb dX9_addTo_2 rfl (lv_at hl 0 rfl) ?_
      refine lv_bipush (v := iv 13) hx hb dX9_addTo_3 (by decide) ?_
      refine r_icmp_ge (tgt := 26) hx hb ⟨(by omega), (by omega)⟩ ⟨(by omega), (by omega)⟩ dX9_addTo_5 (by decide) (fun c_1 => ?_) (fun c_1 => ?_)
      · exact sVret Cx hr hlk hW hL ⟨hI2, hFm2, (fun x a b => by have q := hA x a b; rw [if_pos (by omega)] at q; exact q)⟩ dX9_addTo_26
      · refine lv_aload_n hx hb dX9_addTo_8 rfl (lv_at hl 1 rfl) ?_
        refine lv_iload_n hx hb dX9_addTo_9 rfl (lv_at hl 0 rfl) ?_
        refine lv_dup2_11 hx hb dX9_addTo_10 rfl rfl ?_
        refine rLald Cx hW (k := qa) (lr_l hqa) hqa.1 (by decide) (by omega) (by omega) dX9_addTo_11 ?_
        have q_2 : -9223372036854775808 ≤ S2.2.2.1 qa j ∧ S2.2.2.1 qa j ≤ 9223372036854775807 := hI2.li qa j (lr_k hqa)
        refine r_j (b := S2.2.2.1 qa j) rfl ?_
        refine lv_iload_n hx hb dX9_addTo_12 rfl (lv_at hl 3 rfl) ?_
        refine r_i2l hx hb ⟨(by omega), (by omega)⟩ dX9_addTo_13 ?_
        refine lv_aload_n hx hb dX9_addTo_14 rfl (lv_at hl 2 rfl) ?_
        refine lv_iload_n hx hb dX9_addTo_15 rfl (lv_at hl 0 rfl) ?_
        refine rLald Cx hW (k := qb) (lr_l hqb) hqb.1 (by decide) (by omega) (by omega) dX9_addTo_16 ?_
        have q_3 : -9223372036854775808 ≤ S2.2.2.1 qb j ∧ S2.2.2.1 qb j ≤ 9223372036854775807 := hI2.li qb j (lr_k hqb)
        refine r_j (b := S2.2.2.1 qb j) rfl ?_
        have q1 := hA j (by omega) (by omega); rw [if_neg (by omega)] at q1
        have q2 := hB j (by omega) (by omega); have q3 := hva j (by omega) (by omega); have q4 := tmul ht (hvb j (by omega) (by omega))
        have q5 : t * S2.2.2.1 qb j = t * S.2.2.1 qb j := (by rw [q2])
        refine r_lmul hx hb dX9_addTo_17 ?_
        refine r_ladd hx hb dX9_addTo_18 ?_
        refine rLast Cx hW hL (k := qa) (lr_l hqa) hqa.1 (by decide) (by omega) (by omega) dX9_addTo_19 (fun H locs hW hL => ?_)
        have F_4 : Fr S (uL S2 qa j ((S2.2.2.1 qa j) + (t * (S2.2.2.1 qb j)))) (p1 qa) := hFm2.L p1_0
        have F_5 : Fr S (uL S2 qa j ((S2.2.2.1 qa j) + (t * (S2.2.2.1 qb j)))) (p1 qa) := hL2_.L p1_0
        have i_6 : cX G (uL S2 qa j ((S2.2.2.1 qa j) + (t * (S2.2.2.1 qb j)))) 0 0 0 := hI2.L ⟨by omega, by omega⟩
        refine lv_iinc (v := iv (j + 1)) (lv' := [(3, .int (iv (j + 1))), (0, .ref (G.2.2.1 + qa)), (1, .ref (G.2.2.1 + qb)), (2, .int (iv t))]) hx hb dX9_addTo_20 hl (k := 0) rfl ((Int32.ofInt_add _ _).symm) (by decide) rfl (fun ls hl => ?_)
        refine lv_goto (tgt := 2) hx hb dX9_addTo_23 (by decide) ?_
        exact ih_2 (uL S2 qa j ((S2.2.2.1 qa j) + (t * (S2.2.2.1 qb j)))) (j + 1) _ _ _ (by omega) i_6 F_4 F_5 (by omega) (fun x a b => by by_cases z : x = j; (rw [z, uL_on, if_pos (by omega)]; show _ = S.2.2.1 qa j + t * S.2.2.1 qb j; omega); (rw [uL_ne (fun h => z h.2), hA x a b]; by_cases y : x < j; (rw [if_pos y, if_pos (by omega)]); (rw [if_neg y, if_neg (by omega)]))) (fun x a b => by rw [uL_ne (fun h => hne h.1)]; exact hB x a b) hW hL (lv_sub hl [0, 1, 2, 3] rfl)
  exact loop_2 (_ + 1) S 0 _ _ _ (Nat.lt_succ_self _) hI (Fr.rf : Fr S S (p1 qa)) Fr.rf (by omega) (fun x a b => by rw [if_neg (by omega)]) (fun x a b => rfl) hW hL (lv_sub hl [0, 1, 2, 3] rfl)

set_option maxRecDepth 100000 in
set_option maxHeartbeats 4000000 in
theorem e_X9_isGreat (l : Launch) (G : sG) (S : sS) {qa : Nat} (hI : cX G S 0 0 0) (hqa : lr qa) (hva : Hd (vbd (S.2.2.1 qa))) : Met l yX9_isGreat (.code yX9_isGreat cX9_isGreat 2 (some .boolean) :: tb) (rmk 2 0 0) (sPc G 294 S [.ref (G.2.2.1 + qa)]) (sQi G 294 (fun r u => u = S ∧ ((0 ≤ r ∧ r ≤ 1) ∧ Hd (r = 1 → grt (S.2.2.1 qa)) ∧ Hd (r = 0 → ¬ grt (S.2.2.1 qa))))) 0 0 (sF G) := by
  refine sEnter (by decide) (Nat.le_of_ble_eq_true rfl) ?_
  intro p e s m args below meth c Cx hr hlk hnm hW ls hl
  have Cx : sC G p m c cX9_isGreat 2 s args RX9 := Cx
  obtain ⟨hx, hb, hml, hown, hts⟩ := id Cx.1
  have hL : sL G [] := sL_nil
  have hl : lv_has ls 2 [(0, .ref (G.2.2.1 + qa))] := hl
  have hW0 := hW
  refine lv_iconst (v := iv 0) hx hb dX9_isGreat_0 (by decide) ?_
  refine lv_istore_n (lv' := [(1, .int (iv 0)), (0, .ref (G.2.2.1 + qa))]) hx hb dX9_isGreat_1 rfl hl (by decide) rfl (fun ls hl => ?_)
  have loop_2 : ∀ (fuel : Nat) (j : Int) (H : Heap) (locs : List Loc) (ls : Array Slot), (13 - j).toNat < fuel → (0 ≤ j ∧ j ≤ 13) → (Hd (∀ x, 0 ≤ x → x < j → -99999 ≤ S.2.2.1 qa x ∧ S.2.2.1 qa x ≤ 99999)) → sW G 294 S H → sL G locs → lv_has ls 2 [(1, .int (iv j)), (0, .ref (G.2.2.1 + qa))] → W p l e (rmk 2 0 0) s m args below meth c H locs 0 0 (MQ below (sQi G 294 (fun r u => u = S ∧ ((0 ≤ r ∧ r ≤ 1) ∧ Hd (r = 1 → grt (S.2.2.1 qa)) ∧ Hd (r = 0 → ¬ grt (S.2.2.1 qa))))) args s 0 0 (sF G)) (F0 m 2 ls []) := by
    intro fuel
    induction fuel with
    | zero => intro j H locs ls hmeas hj hno hW hL hl; exact absurd hmeas (Nat.not_lt_zero _)
    | succ fuel ih_2 =>
      intro j H locs ls hmeas hj hno hW hL hl
      refine lv_iload_n hx hb dX9_isGreat_2 rfl (lv_at hl 0 rfl) ?_
      refine lv_bipush (v := iv 13) hx hb dX9_isGreat_3 (by decide) ?_
      refine r_icmp_ge (tgt := 29) hx hb ⟨(by omega), (by omega)⟩ ⟨(by omega), (by omega)⟩ dX9_isGreat_5 (by decide) (fun c_1 => ?_) (fun c_1 => ?_)
      · refine lv_iconst (v := iv 0) hx hb dX9_isGreat_29 (by decide) ?_
        exact sZret Cx hr hlk hW hL (by omega) ⟨rfl, ⟨(by omega), (fun h => absurd h (by decide)), (fun _ => grt_n (fun x a b => hno x a (by omega)))⟩⟩ dX9_isGreat_30
      · refine lv_aload_n hx hb dX9_isGreat_8 rfl (lv_at hl 1 rfl) ?_
        refine lv_iload_n hx hb dX9_isGreat_9 rfl (lv_at hl 0 rfl) ?_
        refine rLald Cx hW (k := qa) (lr_l hqa) hqa.1 (by decide) (by omega) (by omega) dX9_isGreat_10 ?_
        have q_2 : -9223372036854775808 ≤ S.2.2.1 qa j ∧ S.2.2.1 qa j ≤ 9223372036854775807 := hI.li qa j (lr_k hqa)
        refine r_j (b := S.2.2.1 qa j) rfl ?_
        have q3 := hva j (by omega) (by omega)
        refine r_absl hx hb (hml.trans hl.1.symm) hown (hts _ w_1079) (hts _ w_1080) (hts _ w_206) (hts _ w_1081) (rmk_f (by omega)) (rmk_l (by omega) (Nat.le_of_ble_eq_true rfl)) (Nat.le_of_ble_eq_true rfl) (Nat.le_of_ble_eq_true rfl) ⟨(by omega), (by omega)⟩ dX9_isGreat_11 (fun ab hab => ?_)
        refine lv_ldc2 hx hb hown (hts _ w_1082) dX9_isGreat_14 ?_
        refine r_lcmp hx hb ⟨(by omega), (by omega)⟩ ⟨(by omega), (by omega)⟩ dX9_isGreat_17 (fun z_3 az_3 bz_3 cz_3 => ?_)
        refine r_if_le (tgt := 23) hx hb ⟨(by omega), (by omega)⟩ dX9_isGreat_18 (by decide) (fun c_4 => ?_) (fun c_4 => ?_)
        · refine lv_iinc (v := iv (j + 1)) (lv' := [(1, .int (iv (j + 1))), (0, .ref (G.2.2.1 + qa))]) hx hb dX9_isGreat_23 hl (k := 0) rfl ((Int32.ofInt_add _ _).symm) (by decide) rfl (fun ls hl => ?_)
          refine lv_goto (tgt := 2) hx hb dX9_isGreat_26 (by decide) ?_
          exact ih_2 (j + 1) _ _ _ (by omega) (by omega) (fun x a b => by by_cases z : x = j; (rw [z]; have q1 := cz_3; have q3 := hab; omega); exact hno x a (by omega)) hW hL (lv_sub hl [0, 1] rfl)
        · refine lv_iconst (v := iv 1) hx hb dX9_isGreat_21 (by decide) ?_
          exact sZret Cx hr hlk hW hL (by omega) ⟨rfl, ⟨(by omega), (fun _ => grt_y (j := j) (by omega) (by omega) (by have q1 := az_3; have q2 := bz_3; have q3 := hab; omega)), (fun h => absurd h (by decide))⟩⟩ dX9_isGreat_22
  exact loop_2 (_ + 1) 0 _ _ _ (Nat.lt_succ_self _) (by omega) (fun x a b => absurd b (by omega)) hW hL (lv_sub hl [0, 1] rfl)

set_option maxRecDepth 100000 in
set_option maxHeartbeats 4000000 in
theorem e_X9_hasCoefficient (l : Launch) (G : sG) (S : sS) {qa : Nat} (hI : cX G S 0 0 0) (hqa : lr qa) : Met l yX9_hasCoefficient (.code yX9_hasCoefficient cX9_hasCoefficient 2 (some .boolean) :: tb) (rmk 1 0 0) (sPc G 294 S [.ref (G.2.2.1 + qa)]) (sQi G 294 (fun r u => u = S ∧ ((0 ≤ r ∧ r ≤ 1) ∧ Hd (r = 1 → hsv (S.2.2.1 qa)) ∧ Hd (r = 0 → ¬ hsv (S.2.2.1 qa))))) 0 0 (sF G) := by
  refine sEnter (by decide) (Nat.le_of_ble_eq_true rfl) ?_
  intro p e s m args below meth c Cx hr hlk hnm hW ls hl
  have Cx : sC G p m c cX9_hasCoefficient 2 s args RX9 := Cx
  obtain ⟨hx, hb, hml, hown, hts⟩ := id Cx.1
  have hL : sL G [] := sL_nil
  have hl : lv_has ls 2 [(0, .ref (G.2.2.1 + qa))] := hl
  have hW0 := hW
  refine lv_iconst (v := iv 1) hx hb dX9_hasCoefficient_0 (by decide) ?_
  refine lv_istore_n (lv' := [(1, .int (iv 1)), (0, .ref (G.2.2.1 + qa))]) hx hb dX9_hasCoefficient_1 rfl hl (by decide) rfl (fun ls hl => ?_)
  have loop_2 : ∀ (fuel : Nat) (j : Int) (H : Heap) (locs : List Loc) (ls : Array Slot), (13 - j).toNat < fuel → (1 ≤ j ∧ j ≤ 13) → (Hd (∀ x, 1 ≤ x → x < j → S.2.2.1 qa x = 0)) → sW G 294 S H → sL G locs → lv_has ls 2 [(1, .int (iv j)), (0, .ref (G.2.2.1 + qa))] → W p l e (rmk 1 0 0) s m args below meth c H locs 0 0 (MQ below (sQi G 294 (fun r u => u = S ∧ ((0 ≤ r ∧ r ≤ 1) ∧ Hd (r = 1 → hsv (S.2.2.1 qa)) ∧ Hd (r = 0 → ¬ hsv (S.2.2.1 qa))))) args s 0 0 (sF G)) (F0 m 2 ls []) := by
    intro fuel
    induction fuel with
    | zero => intro j H locs ls hmeas hj hno hW hL hl; exact absurd hmeas (Nat.not_lt_zero _)
    | succ fuel ih_2 =>
      intro j H locs ls hmeas hj hno hW hL hl
      refine lv_iload_n hx hb dX9_hasCoefficient_2 rfl (lv_at hl 0 rfl) ?_
      refine lv_bipush (v := iv 13) hx hb dX9_hasCoefficient_3 (by decide) ?_
      refine r_icmp_ge (tgt := 24) hx hb ⟨(by omega), (by omega)⟩ ⟨(by omega), (by omega)⟩ dX9_hasCoefficient_5 (by decide) (fun c_1 => ?_) (fun c_1 => ?_)
      · refine lv_iconst (v := iv 0) hx hb dX9_hasCoefficient_24 (by decide) ?_
        exact sZret Cx hr hlk hW hL (by omega) ⟨rfl, ⟨(by omega), (fun h => absurd h (by decide)), (fun _ => hsv_n (fun x a b => hno x a (by omega)))⟩⟩ dX9_hasCoefficient_25
      · refine lv_aload_n hx hb dX9_hasCoefficient_8 rfl (lv_at hl 1 rfl) ?_
        refine lv_iload_n hx hb dX9_hasCoefficient_9 rfl (lv_at hl 0 rfl) ?_
        refine rLald Cx hW (k := qa) (lr_l hqa) hqa.1 (by decide) (by omega) (by omega) dX9_hasCoefficient_10 ?_
        have q_2 : -9223372036854775808 ≤ S.2.2.1 qa j ∧ S.2.2.1 qa j ≤ 9223372036854775807 := hI.li qa j (lr_k hqa)
        refine r_j (b := S.2.2.1 qa j) rfl ?_
        refine lv_lconst (v := jv 0) hx hb dX9_hasCoefficient_11 (by decide) ?_
        refine r_lcmp hx hb ⟨(by omega), (by omega)⟩ ⟨(by omega), (by omega)⟩ dX9_hasCoefficient_12 (fun z_3 az_3 bz_3 cz_3 => ?_)
        refine r_if_eq (tgt := 18) hx hb ⟨(by omega), (by omega)⟩ dX9_hasCoefficient_13 (by decide) (fun c_4 => ?_) (fun c_4 => ?_)
        · refine lv_iinc (v := iv (j + 1)) (lv' := [(1, .int (iv (j + 1))), (0, .ref (G.2.2.1 + qa))]) hx hb dX9_hasCoefficient_18 hl (k := 0) rfl ((Int32.ofInt_add _ _).symm) (by decide) rfl (fun ls hl => ?_)
          refine lv_goto (tgt := 2) hx hb dX9_hasCoefficient_21 (by decide) ?_
          exact ih_2 (j + 1) _ _ _ (by omega) (by omega) (fun x a b => by by_cases z : x = j; (rw [z]; have q1 := az_3; have q2 := cz_3; omega); exact hno x a (by omega)) hW hL (lv_sub hl [0, 1] rfl)
        · refine lv_iconst (v := iv 1) hx hb dX9_hasCoefficient_16 (by decide) ?_
          exact sZret Cx hr hlk hW hL (by omega) ⟨rfl, ⟨(by omega), (fun _ => hsv_y (j := j) (by omega) (by omega) (fun q => by have q1 := bz_3 q; omega)), (fun h => absurd h (by decide))⟩⟩ dX9_hasCoefficient_17
  exact loop_2 (_ + 1) 1 _ _ _ (Nat.lt_succ_self _) (by omega) (fun x a b => absurd b (by omega)) hW hL (lv_sub hl [0, 1] rfl)

set_option maxRecDepth 100000 in
set_option maxHeartbeats 4000000 in
theorem e_J7_fill (l : Launch) (G : sG) (S : sS) {qa : Nat} (hI : cX G S 0 0 0) (hqa : lr qa) : Met l yJ7_fill_d0a16 (.code yJ7_fill_d0a16 cJ7_fill_d0a16 5 none :: tb) (rmk 1 0 0) (sPc G 294 S [.ref (G.2.2.1 + qa), .long (jv 0)]) (sQv G 294 (fun u => cX G u 0 0 0 ∧ Fr S u (p1 qa) ∧ (Hd (veq (u.2.2.1 qa) (cst 0))))) 0 0 (sF G) := by
  refine sEnterF (by decide) (Nat.le_of_ble_eq_true rfl) ?_
  intro p e s m args below meth c Cx hr hlk hnm hW ls hl
  have Cx : sC G p m c cJ7_fill_d0a16 5 s args RJ7 := Cx
  obtain ⟨hx, hb, hml, hown, hts⟩ := id Cx.1
  have hL : sL G [] := sL_nil
  have hl : lv_has ls 5 [(0, .ref (G.2.2.1 + qa)), (1, .long (jv 0))] := hl
  have hW0 := hW
  refine lv_iconst (v := iv 0) hx hb dJ7_fill_d0a16_0 (by decide) ?_
  refine lv_istore_n (lv' := [(3, .int (iv 0)), (0, .ref (G.2.2.1 + qa)), (1, .long (jv 0))]) hx hb dJ7_fill_d0a16_1 rfl hl (by decide) rfl (fun ls hl => ?_)
  refine lv_aload_n hx hb dJ7_fill_d0a16_2 rfl (lv_at hl 1 rfl) ?_
  refine sAlen Cx hW (k := qa) (lr_l hqa) hqa.1 1 rfl dJ7_fill_d0a16_3 ?_
  refine lv_istore (lv' := [(4, .int (iv 13)), (3, .int (iv 0)), (0, .ref (G.2.2.1 + qa)), (1, .long (jv 0))]) hx hb dJ7_fill_d0a16_4 hl (by decide) rfl (fun ls hl => ?_)
  have loop_6 : ∀ (fuel : Nat) (S6 : sS) (j : Int) (H : Heap) (locs : List Loc) (ls : Array Slot), (13 - j).toNat < fuel → (cX G S6 0 0 0) → (Fr S S6 (p1 qa)) → (Fr S S6 (p1 qa)) → (0 ≤ j ∧ j ≤ 13) → (Hd (∀ x, 0 ≤ x → x < j → S6.2.2.1 qa x = 0)) → sW G 294 S6 H → sL G locs → lv_has ls 5 [(4, .int (iv 13)), (3, .int (iv j)), (0, .ref (G.2.2.1 + qa)), (1, .long (jv 0))] → W p l e (rmk 1 0 0) s m args below meth c H locs 0 0 (MQ below (sQv G 294 (fun u => cX G u 0 0 0 ∧ Fr S u (p1 qa) ∧ (Hd (veq (u.2.2.1 qa) (cst 0))))) args s 0 0 (sF G)) (F0 m 6 ls []) := by
    intro fuel
    induction fuel with
    | zero => intro S6 j H locs ls hmeas hI6 hFm6 hL6_ hj hA hW hL hl; exact absurd hmeas (Nat.not_lt_zero _)
    | succ fuel ih_6 =>
      intro S6 j H locs ls hmeas hI6 hFm6 hL6_ hj hA hW hL hl
      refine lv_iload_n hx hb dJ7_fill_d0a16_6 rfl (lv_at hl 1 rfl) ?_
      refine lv_iload hx hb dJ7_fill_d0a16_7 (lv_at hl 0 rfl) ?_
      refine r_icmp_ge (tgt := 22) hx hb ⟨(by omega), (by omega)⟩ ⟨(by omega), (by omega)⟩ dJ7_fill_d0a16_9 (by decide) (fun c_1 => ?_) (fun c_1 => ?_)
      · exact sVret Cx hr hlk hW hL ⟨hI6, hFm6, (fun x a b => (hA x a (by omega)).trans (by unfold cst; split <;> rfl))⟩ dJ7_fill_d0a16_22
      · refine lv_aload_n hx hb dJ7_fill_d0a16_12 rfl (lv_at hl 2 rfl) ?_
        refine lv_iload_n hx hb dJ7_fill_d0a16_13 rfl (lv_at hl 1 rfl) ?_
        refine lv_lload_n hx hb dJ7_fill_d0a16_14 rfl (lv_at hl 3 rfl) ?_
        refine rLast Cx hW hL (k := qa) (lr_l hqa) hqa.1 (by decide) (by omega) (by omega) dJ7_fill_d0a16_15 (fun H locs hW hL => ?_)
        have F_2 : Fr S (uL S6 qa j 0) (p1 qa) := hFm6.L p1_0
        have F_3 : Fr S (uL S6 qa j 0) (p1 qa) := hL6_.L p1_0
        have i_4 : cX G (uL S6 qa j 0) 0 0 0 := hI6.L ⟨by omega, by omega⟩
        refine lv_iinc (v := iv (j + 1)) (lv' := [(3, .int (iv (j + 1))), (4, .int (iv 13)), (0, .ref (G.2.2.1 + qa)), (1, .long (jv 0))]) hx hb dJ7_fill_d0a16_16 hl (k := 1) rfl ((Int32.ofInt_add _ _).symm) (by decide) rfl (fun ls hl => ?_)
        refine lv_goto (tgt := 6) hx hb dJ7_fill_d0a16_19 (by decide) ?_
        exact ih_6 (uL S6 qa j 0) (j + 1) _ _ _ (by omega) i_4 F_2 F_3 (by omega) (fun x a b => by by_cases z : x = j; (rw [z, uL_on]); (rw [uL_ne (fun h => z h.2)]; exact hA x a (by omega))) hW hL (lv_sub hl [1, 0, 2, 3] rfl)
  exact loop_6 (_ + 1) S 0 _ _ _ (Nat.lt_succ_self _) hI (Fr.rf : Fr S S (p1 qa)) Fr.rf (by omega) (fun x a b => absurd b (by omega)) hW hL (lv_sub hl [0, 1, 2, 3] rfl)

set_option maxRecDepth 100000 in
set_option maxHeartbeats 4000000 in
theorem e_X9_multiply (l : Launch) (G : sG) (S : sS) {qa qb : Nat} (hI : cX G S 0 0 0) (hqa : lr qa) (hqb : lr qb) (hne : qb ≠ qa) (hva : Hd (∀ j, 0 ≤ j → j < 13 → -99999 ≤ S.2.2.1 qa j ∧ S.2.2.1 qa j ≤ 99999)) (hvb : Hd (∀ j, 0 ≤ j → j < 13 → -99999 ≤ S.2.2.1 qb j ∧ S.2.2.1 qb j ≤ 99999)) : Met l yX9_multiply (.code yX9_multiply cX9_multiply 7 none :: tb) (rmk 1 0 0) (sPc G 294 S [.ref (G.2.2.1 + qa), .ref (G.2.2.1 + qb)]) (sQv G 294 (fun u => cX G u 0 0 0 ∧ Fr S u (p1 qa) ∧ (Hd (veq (u.2.2.1 qa) (vml (S.2.2.1 qa) (S.2.2.1 qb)))))) 0 0 (sF G) := by
  refine sEnter (by decide) (Nat.le_of_ble_eq_true rfl) ?_
  intro p e s m args below meth c Cx hr hlk hnm hW ls hl
  have Cx : sC G p m c cX9_multiply 7 s args RX9 := Cx
  obtain ⟨hx, hb, hml, hown, hts⟩ := id Cx.1
  have hL : sL G [] := sL_nil
  have hl : lv_has ls 7 [(0, .ref (G.2.2.1 + qa)), (1, .ref (G.2.2.1 + qb))] := hl
  have hW0 := hW
  refine lv_aload_n hx hb dX9_multiply_0 rfl (lv_at hl 0 rfl) ?_
  refine lv_iconst (v := iv 0) hx hb dX9_multiply_1 (by decide) ?_
  refine rLald Cx hW (k := qa) (lr_l hqa) hqa.1 (by decide) (by omega) (by omega) dX9_multiply_2 ?_
  have q_1 : -9223372036854775808 ≤ S.2.2.1 qa 0 ∧ S.2.2.1 qa 0 ≤ 9223372036854775807 := hI.li qa 0 (lr_k hqa)
  refine r_j (b := S.2.2.1 qa 0) rfl ?_
  refine lv_lstore_n (lv' := [(2, .long (jv (S.2.2.1 qa 0))), (0, .ref (G.2.2.1 + qa)), (1, .ref (G.2.2.1 + qb))]) hx hb dX9_multiply_3 rfl hl (by decide) rfl (fun ls hl => ?_)
  refine lv_aload_n hx hb dX9_multiply_4 rfl (lv_at hl 2 rfl) ?_
  refine lv_iconst (v := iv 0) hx hb dX9_multiply_5 (by decide) ?_
  refine rLald Cx hW (k := qb) (lr_l hqb) hqb.1 (by decide) (by omega) (by omega) dX9_multiply_6 ?_
  have q_2 : -9223372036854775808 ≤ S.2.2.1 qb 0 ∧ S.2.2.1 qb 0 ≤ 9223372036854775807 := hI.li qb 0 (lr_k hqb)
  refine r_j (b := S.2.2.1 qb 0) rfl ?_
  refine lv_lstore (lv' := [(4, .long (jv (S.2.2.1 qb 0))), (2, .long (jv (S.2.2.1 qa 0))), (0, .ref (G.2.2.1 + qa)), (1, .ref (G.2.2.1 + qb))]) hx hb dX9_multiply_7 hl (by decide) rfl (fun ls hl => ?_)
  refine lv_aload_n hx hb dX9_multiply_9 rfl (lv_at hl 2 rfl) ?_
  refine lv_iconst (v := iv 0) hx hb dX9_multiply_10 (by decide) ?_
  refine lv_lload_n hx hb dX9_multiply_11 rfl (lv_at hl 1 rfl) ?_
  refine lv_lload hx hb dX9_multiply_12 (lv_at hl 0 rfl) ?_
  have q0 := mulb (hva 0 (by decide) (by decide)) (hvb 0 (by decide) (by decide))
  refine r_lmul hx hb dX9_multiply_14 ?_
  refine rLast Cx hW hL (k := qa) (lr_l hqa) hqa.1 (by decide) (by omega) (by omega) dX9_multiply_15 (fun H locs hW hL => ?_)
  have F_3 : Fr S (uL S qa 0 ((S.2.2.1 qa 0) * (S.2.2.1 qb 0))) (p1 qa) := (Fr.rf : Fr S S (p1 qa)).L p1_0
  have i_4 : cX G (uL S qa 0 ((S.2.2.1 qa 0) * (S.2.2.1 qb 0))) 0 0 0 := hI.L ⟨by omega, by omega⟩
  refine lv_iconst (v := iv 1) hx hb dX9_multiply_16 (by decide) ?_
  refine lv_istore (lv' := [(6, .int (iv 1)), (4, .long (jv (S.2.2.1 qb 0))), (2, .long (jv (S.2.2.1 qa 0))), (0, .ref (G.2.2.1 + qa)), (1, .ref (G.2.2.1 + qb))]) hx hb dX9_multiply_17 hl (by decide) rfl (fun ls hl => ?_)
  have loop_19 : ∀ (fuel : Nat) (S19 : sS) (j : Int) (H : Heap) (locs : List Loc) (ls : Array Slot), (13 - j).toNat < fuel → (cX G S19 0 0 0) → (Fr S S19 (p1 qa)) → (Fr ((uL S qa 0 ((S.2.2.1 qa 0) * (S.2.2.1 qb 0)))) S19 (p1 qa)) → (1 ≤ j ∧ j ≤ 13) → (Hd (∀ x, 0 ≤ x → x < 13 → S19.2.2.1 qa x = if x < j then vml (S.2.2.1 qa) (S.2.2.1 qb) x else S.2.2.1 qa x)) → (Hd (veq (S19.2.2.1 qb) (S.2.2.1 qb))) → sW G 294 S19 H → sL G locs → lv_has ls 7 [(6, .int (iv j)), (4, .long (jv (S.2.2.1 qb 0))), (2, .long (jv (S.2.2.1 qa 0))), (0, .ref (G.2.2.1 + qa)), (1, .ref (G.2.2.1 + qb))] → W p l e (rmk 1 0 0) s m args below meth c H locs 0 0 (MQ below (sQv G 294 (fun u => cX G u 0 0 0 ∧ Fr S u (p1 qa) ∧ (Hd (veq (u.2.2.1 qa) (vml (S.2.2.1 qa) (S.2.2.1 qb)))))) args s 0 0 (sF G)) (F0 m 19 ls []) := by
    intro fuel
    induction fuel with
    | zero => intro S19 j H locs ls hmeas hI19 hFm19 hL19_ hj hA hB hW hL hl; exact absurd hmeas (Nat.not_lt_zero _)
    | succ fuel ih_19 =>
      intro S19 j H locs ls hmeas hI19 hFm19 hL19_ hj hA hB hW hL hl
      refine lv_iload hx hb dX9_multiply_19 (lv_at hl 0 rfl) ?_
      refine lv_bipush (v := iv 13) hx hb dX9_multiply_21 (by decide) ?_
      refine r_icmp_ge (tgt := 50) hx hb ⟨(by omega), (by omega)⟩ ⟨(by omega), (by omega)⟩ dX9_multiply_23 (by decide) (fun c_5 => ?_) (fun c_5 => ?_)
      · exact sVret Cx hr hlk hW hL ⟨hI19, hFm19, (fun x a b => by have q := hA x a b; rw [if_pos (by omega)] at q; exact q)⟩ dX9_multiply_50
      · refine lv_aload_n hx hb dX9_multiply_26 rfl (lv_at hl 3 rfl) ?_
        refine lv_iload hx hb dX9_multiply_27 (lv_at hl 0 rfl) ?_
        refine lv_aload_n hx hb dX9_multiply_29 rfl (lv_at hl 3 rfl) ?_
        refine lv_iload hx hb dX9_multiply_30 (lv_at hl 0 rfl) ?_
        refine rLald Cx hW (k := qa) (lr_l hqa) hqa.1 (by decide) (by omega) (by omega) dX9_multiply_32 ?_
        have q_6 : -9223372036854775808 ≤ S19.2.2.1 qa j ∧ S19.2.2.1 qa j ≤ 9223372036854775807 := hI19.li qa j (lr_k hqa)
        refine r_j (b := S19.2.2.1 qa j) rfl ?_
        refine lv_lload hx hb dX9_multiply_33 (lv_at hl 1 rfl) ?_
        have q1 := hA j (by omega) (by omega); rw [if_neg (by omega)] at q1
        have q2 := hB j (by omega) (by omega)
        have q3 := mulb (hva j (by omega) (by omega)) (hvb 0 (by decide) (by decide)); have q4 := mulb (hva 0 (by decide) (by decide)) (hvb j (by omega) (by omega))
        have q5 : S19.2.2.1 qa j * S.2.2.1 qb 0 = S.2.2.1 qa j * S.2.2.1 qb 0 := (by rw [q1])
        have q6 : S.2.2.1 qa 0 * S19.2.2.1 qb j = S.2.2.1 qa 0 * S.2.2.1 qb j := (by rw [q2])
        refine r_lmul hx hb dX9_multiply_35 ?_
        refine lv_lload_n hx hb dX9_multiply_36 rfl (lv_at hl 2 rfl) ?_
        refine lv_aload_n hx hb dX9_multiply_37 rfl (lv_at hl 4 rfl) ?_
        refine lv_iload hx hb dX9_multiply_38 (lv_at hl 0 rfl) ?_
        refine rLald Cx hW (k := qb) (lr_l hqb) hqb.1 (by decide) (by omega) (by omega) dX9_multiply_40 ?_
        have q_7 : -9223372036854775808 ≤ S19.2.2.1 qb j ∧ S19.2.2.1 qb j ≤ 9223372036854775807 := hI19.li qb j (lr_k hqb)
        refine r_j (b := S19.2.2.1 qb j) rfl ?_
        refine r_lmul hx hb dX9_multiply_41 ?_
        refine r_ladd hx hb dX9_multiply_42 ?_
        refine rLast Cx hW hL (k := qa) (lr_l hqa) hqa.1 (by decide) (by omega) (by omega) dX9_multiply_43 (fun H locs hW hL => ?_)
        have F_8 : Fr S (uL S19 qa j (((S19.2.2.1 qa j) * (S.2.2.1 qb 0)) + ((S.2.2.1 qa 0) * (S19.2.2.1 qb j)))) (p1 qa) := hFm19.L p1_0
        have F_9 : Fr ((uL S qa 0 ((S.2.2.1 qa 0) * (S.2.2.1 qb 0)))) (uL S19 qa j (((S19.2.2.1 qa j) * (S.2.2.1 qb 0)) + ((S.2.2.1 qa 0) * (S19.2.2.1 qb j)))) (p1 qa) := hL19_.L p1_0
        have i_10 : cX G (uL S19 qa j (((S19.2.2.1 qa j) * (S.2.2.1 qb 0)) + ((S.2.2.1 qa 0) * (S19.2.2.1 qb j)))) 0 0 0 := hI19.L ⟨by omega, by omega⟩
        refine lv_iinc (v := iv (j + 1)) (lv' := [(6, .int (iv (j + 1))), (4, .long (jv (S.2.2.1 qb 0))), (2, .long (jv (S.2.2.1 qa 0))), (0, .ref (G.2.2.1 + qa)), (1, .ref (G.2.2.1 + qb))]) hx hb dX9_multiply_44 hl (k := 0) rfl ((Int32.ofInt_add _ _).symm) (by decide) rfl (fun ls hl => ?_)
        refine lv_goto (tgt := 19) hx hb dX9_multiply_47 (by decide) ?_
        exact ih_19 (uL S19 qa j (((S19.2.2.1 qa j) * (S.2.2.1 qb 0)) + ((S.2.2.1 qa 0) * (S19.2.2.1 qb j)))) (j + 1) _ _ _ (by omega) i_10 F_8 F_9 (by omega) (fun x a b => by by_cases z : x = j; (rw [z, uL_on, if_pos (by omega)]; show _ = (if j = 0 then S.2.2.1 qa 0 * S.2.2.1 qb 0 else S.2.2.1 qa j * S.2.2.1 qb 0 + S.2.2.1 qa 0 * S.2.2.1 qb j); rw [if_neg (by omega)]; omega); (rw [uL_ne (fun h => z h.2), hA x a b]; by_cases y : x < j; (rw [if_pos y, if_pos (by omega)]); (rw [if_neg y, if_neg (by omega)]))) (fun x a b => by rw [uL_ne (fun h => hne h.1)]; exact hB x a b) hW hL (lv_sub hl [0, 1, 2, 3, 4] rfl)
  exact loop_19 (_ + 1) (uL S qa 0 ((S.2.2.1 qa 0) * (S.2.2.1 qb 0))) 1 _ _ _ (Nat.lt_succ_self _) i_4 F_3 Fr.rf (by omega) (fun x a b => by by_cases z : x = 0; (rw [z, uL_on, if_pos (by decide)]; rfl); (rw [uL_ne (fun h => z h.2), if_neg (by omega)])) (fun x a b => uL_ne (fun h => hne h.1)) hW hL (lv_sub hl [0, 1, 2, 3, 4] rfl)
