theorem dic_L {k : Nat} (m : dc k) : slotL k = 6 := by rcases m with rfl | rfl <;> rfl
def pW (k : Nat) : Bool := pN k || Nat.beq k 120 || Nat.beq k 193
theorem pN_W : ∀ k, pN k = true → pW k = true := fun k h => by simp [pW, h]
theorem pW_C : ∀ k, pW k = true → pC k = true := fun k h => by
  simp only [pW, Bool.or_eq_true] at h
  rcases h with (h | h) | h
  · exact pN_C k h
  · rw [Nat.eq_of_beq_eq_true h]; rfl
  · rw [Nat.eq_of_beq_eq_true h]; rfl
theorem pW_A : ∀ k, pW k = true → pA k = true := fun k h => pC_A k (pW_C k h)
theorem slot0 {f g : Int → Int} {a L T : Int} (h : SlotOK f a L T) (hL : 0 ≤ L) (h0 : g a = 0) (hg : ∀ i, a < i → i < a + 8 → g i = f i) : SlotOK g a L T := ⟨by omega, fun i i0 i1 => by rw [hg i i0 i1]; exact h.2.1 i i0 i1, fun q => by omega, fun q => by omega, fun q => by omega⟩
def pM (o k : Nat) : Bool := rgB o (o + 2) k
theorem pM_0 {o : Nat} : pM o o = true := rgB_i ⟨by omega, by omega⟩
theorem pM_1 {o : Nat} : pM o (o + 1) = true := rgB_i ⟨by omega, by omega⟩
theorem pM_2 {o : Nat} : pM o (o + 2) = true := rgB_i ⟨by omega, by omega⟩
theorem pM_sub {P : pS} {o : Nat} (h0 : P o = true) (h1 : P (o + 1) = true) (h2 : P (o + 2) = true) : ∀ k, pM o k = true → P k = true := fun k h => by
  have := rgB_t h
  rcases (by omega : k = o ∨ k = o + 1 ∨ k = o + 2) with e | e | e <;> rw [e] <;> assumption
theorem pM_no {o k : Nat} (h0 : k ≠ o) (h1 : k ≠ o + 1) (h2 : k ≠ o + 2) : pM o k = false := by
  cases e : pM o k
  · rfl
  · exfalso; have := rgB_t e; omega
theorem cX.mA {G : sG} {S : sS} {x y : Nat} {b : Int} {o : Nat} {i v : Int} (h : cX G S x y b) (m : mdl o) (hv : -2147483648 ≤ v ∧ v ≤ 2147483647) : cX G (uA S (o + 1) i v) x y b := h.A (by rw [m.2.2.2.2.1]; decide) (by rw [m.2.2.2.2.1]; decide) (fun e => by have := m.2.2.2.2.1; rw [e] at this; revert this; decide) (by rw [m.2.2.2.2.1]; exact hv)
theorem cX.mZ {G : sG} {S : sS} {x y : Nat} {b : Int} {o : Nat} {i v : Int} (h : cX G S x y b) (m : mdl o) (hv : 0 ≤ v ∧ v ≤ 1) : cX G (uA S (o + 2) i v) x y b := h.A (by rw [m.2.2.2.2.2]; decide) (by rw [m.2.2.2.2.2]; decide) (fun e => by have := m.2.2.2.2.2; rw [e] at this; revert this; decide) (by rw [m.2.2.2.2.2]; exact hv)
set_option maxRecDepth 100000 in
set_option maxHeartbeats 4000000 in
theorem s_X3_number (l : Launch) (G : sG) (S : sS) {o : Nat} {k j : Int} (hI : cX G S 0 0 0) (hm : mdl o) (hk : 0 ≤ k ∧ k ≤ 16) (hj : 0 ≤ j ∧ j ≤ 12) : Met l yX3_number (.code yX3_number cX3_number 3 (some .int) :: tb) (rmk 1 0 0) (sPc G 294 S [.ref (G.2.2.1 + o), .int (iv k), .int (iv j)]) (sQi G 294 (fun r u => u = S ∧ (-2147483648 ≤ r ∧ r ≤ 2147483647))) 0 0 (sF G) := by
  refine sEnter (by decide) (Nat.le_of_ble_eq_true rfl) ?_
  intro p e s m args below meth c Cx hr hlk hnm hW ls hl
  have Cx : sC G p m c cX3_number 3 s args RX3 := Cx
  obtain ⟨hx, hb, hml, hown, hts⟩ := id Cx.1
  have hL : sL G [] := sL_nil
  have hl : lv_has ls 3 [(0, .ref (G.2.2.1 + o)), (1, .int (iv k)), (2, .int (iv j))] := hl
  have hW0 := hW
  refine lv_aload_n hx hb dX3_number_0 rfl (lv_at hl 0 rfl) ?_
  refine g_X3_11 Cx hW (k := o) (mdl_l hm) hm.1 (v := .ref (G.2.2.1 + (o + 1))) (hI.rq.2.2 o (mdl_k hm) hm.1).1 dX3_number_1 ?_
  refine lv_iload_n hx hb dX3_number_4 rfl (lv_at hl 1 rfl) ?_
  refine lv_bipush (v := iv 13) hx hb dX3_number_5 (by decide) ?_
  refine r_imul hx hb dX3_number_7 ?_
  refine lv_iload_n hx hb dX3_number_8 rfl (lv_at hl 2 rfl) ?_
  refine r_iadd hx hb dX3_number_9 ?_
  refine rIald Cx hW (k := o + 1) (mdl_l1 hm) hm.2.1 (by decide) (by omega) (by omega) dX3_number_10 ?_
  have q_1 : (-2147483648) ≤ S.2.1 (o + 1) ((k * 13) + j) ∧ S.2.1 (o + 1) ((k * 13) + j) ≤ 2147483647 := mdl_r1 hm hI ((k * 13) + j) 
  refine r_i (b := S.2.1 (o + 1) ((k * 13) + j)) rfl ?_
  exact sIret Cx hr hlk hW hL ⟨rfl, (by omega)⟩ dX3_number_11

set_option maxRecDepth 100000 in
set_option maxHeartbeats 4000000 in
theorem s_X3_wholes (l : Launch) (G : sG) (S : sS) {o : Nat} (hI : cX G S 0 0 0) (hm : mdl o) : Met l yX3_wholes (.code yX3_wholes cX3_wholes 3 (some .int) :: tb) (rmk 1 0 0) (sPc G 294 S [.ref (G.2.2.1 + o)]) (sQi G 294 (fun r u => u = S ∧ (0 ≤ r ∧ r ≤ 12))) 0 0 (sF G) := by
  refine sEnter (by decide) (Nat.le_of_ble_eq_true rfl) ?_
  intro p e s m args below meth c Cx hr hlk hnm hW ls hl
  have Cx : sC G p m c cX3_wholes 3 s args RX3 := Cx
  obtain ⟨hx, hb, hml, hown, hts⟩ := id Cx.1
  have hL : sL G [] := sL_nil
  have hl : lv_has ls 3 [(0, .ref (G.2.2.1 + o))] := hl
  have hW0 := hW
  refine lv_iconst (v := iv 0) hx hb dX3_wholes_0 (by decide) ?_
  refine lv_istore_n (lv' := [(1, .int (iv 0)), (0, .ref (G.2.2.1 + o))]) hx hb dX3_wholes_1 rfl hl (by decide) rfl (fun ls hl => ?_)
  refine lv_iconst (v := iv 1) hx hb dX3_wholes_2 (by decide) ?_
  refine lv_istore_n (lv' := [(2, .int (iv 1)), (1, .int (iv 0)), (0, .ref (G.2.2.1 + o))]) hx hb dX3_wholes_3 rfl hl (by decide) rfl (fun ls hl => ?_)
  have loop_4 : ∀ (fuel : Nat) (j : Int) (f : Int) (H : Heap) (locs : List Loc) (ls : Array Slot), (13 - j).toNat < fuel → (1 ≤ j ∧ j ≤ 13) → (0 ≤ f ∧ f < j) → sW G 294 S H → sL G locs → lv_has ls 3 [(2, .int (iv j)), (1, .int (iv f)), (0, .ref (G.2.2.1 + o))] → W p l e (rmk 1 0 0) s m args below meth c H locs 0 0 (MQ below (sQi G 294 (fun r u => u = S ∧ (0 ≤ r ∧ r ≤ 12))) args s 0 0 (sF G)) (F0 m 4 ls []) := by
    intro fuel
    induction fuel with
    | zero => intro j f H locs ls hmeas hj hf hW hL hl; exact absurd hmeas (Nat.not_lt_zero _)
    | succ fuel ih_4 =>
      intro j f H locs ls hmeas hj hf hW hL hl
      refine lv_iload_n hx hb dX3_wholes_4 rfl (lv_at hl 0 rfl) ?_
      refine lv_aload_n hx hb dX3_wholes_5 rfl (lv_at hl 2 rfl) ?_
      have q_1 : 0 ≤ S.1 o 2 ∧ S.1 o 2 ≤ 12 := hI.fi o 2 3 (mdl_k hm) hm.1
      refine g_X3_19 Cx hW (k := o) (mdl_l hm) hm.1 (v := S.1 o 2) rfl dX3_wholes_6 ?_
      refine r_icmp_gt (tgt := 30) hx hb ⟨(by omega), (by omega)⟩ ⟨(by omega), (by omega)⟩ dX3_wholes_9 (by decide) (fun c_2 => ?_) (fun c_2 => ?_)
      · refine lv_iload_n hx hb dX3_wholes_30 rfl (lv_at hl 1 rfl) ?_
        exact sIret Cx hr hlk hW hL ⟨rfl, (by omega)⟩ dX3_wholes_31
      · refine lv_aload_n hx hb dX3_wholes_12 rfl (lv_at hl 2 rfl) ?_
        refine g_X3_15 Cx hW (k := o) (mdl_l hm) hm.1 (v := .ref (G.2.2.1 + (o + 2))) (hI.rq.2.2 o (mdl_k hm) hm.1).2 dX3_wholes_13 ?_
        refine lv_iload_n hx hb dX3_wholes_16 rfl (lv_at hl 0 rfl) ?_
        refine rZald Cx hW (k := o + 2) (mdl_l2 hm) hm.2.2.1 (by decide) (by omega) (by omega) dX3_wholes_17 ?_
        have q_3 : 0 ≤ S.2.1 (o + 2) j ∧ S.2.1 (o + 2) j ≤ 1 := mdl_r2 hm hI j 
        refine r_i (b := S.2.1 (o + 2) j) rfl ?_
        refine r_if_eq (tgt := 24) hx hb ⟨(by omega), (by omega)⟩ dX3_wholes_18 (by decide) (fun c_4 => ?_) (fun c_4 => ?_)
        · refine lv_iinc (v := iv (j + 1)) (lv' := [(2, .int (iv (j + 1))), (1, .int (iv f)), (0, .ref (G.2.2.1 + o))]) hx hb dX3_wholes_24 hl (k := 0) rfl ((Int32.ofInt_add _ _).symm) (by decide) rfl (fun ls hl => ?_)
          refine lv_goto (tgt := 4) hx hb dX3_wholes_27 (by decide) ?_
          exact ih_4 (j + 1) f _ _ _ (by omega) (by omega) (by omega) hW hL (lv_sub hl [0, 1, 2] rfl)
        · refine lv_iinc (v := iv (f + 1)) (lv' := [(1, .int (iv (f + 1))), (2, .int (iv j)), (0, .ref (G.2.2.1 + o))]) hx hb dX3_wholes_21 hl (k := 1) rfl ((Int32.ofInt_add _ _).symm) (by decide) rfl (fun ls hl => ?_)
          refine lv_iinc (v := iv (j + 1)) (lv' := [(2, .int (iv (j + 1))), (1, .int (iv (f + 1))), (0, .ref (G.2.2.1 + o))]) hx hb dX3_wholes_24 hl (k := 1) rfl ((Int32.ofInt_add _ _).symm) (by decide) rfl (fun ls hl => ?_)
          refine lv_goto (tgt := 4) hx hb dX3_wholes_27 (by decide) ?_
          exact ih_4 (j + 1) (f + 1) _ _ _ (by omega) (by omega) (by omega) hW hL (lv_sub hl [0, 1, 2] rfl)
  exact loop_4 (_ + 1) 1 0 _ _ _ (Nat.lt_succ_self _) (by omega) (by omega) hW hL (lv_sub hl [0, 1, 2] rfl)

set_option maxRecDepth 100000 in
set_option maxHeartbeats 4000000 in
theorem s_X3_isWhole (l : Launch) (G : sG) (S : sS) {o : Nat} {j : Int} (hI : cX G S 0 0 0) (hm : mdl o) (hj : -2147483648 ≤ j ∧ j ≤ 2147483647) : Met l yX3_isWhole (.code yX3_isWhole cX3_isWhole 2 (some .boolean) :: tb) (rmk 1 0 0) (sPc G 294 S [.ref (G.2.2.1 + o), .int (iv j)]) (sQi G 294 (fun r u => u = S ∧ (0 ≤ r ∧ r ≤ 1 ∧ (r = 1 → 1 ≤ j ∧ j ≤ S.1 o 2)))) 0 0 (sF G) := by
  refine sEnter (by decide) (Nat.le_of_ble_eq_true rfl) ?_
  intro p e s m args below meth c Cx hr hlk hnm hW ls hl
  have Cx : sC G p m c cX3_isWhole 2 s args RX3 := Cx
  obtain ⟨hx, hb, hml, hown, hts⟩ := id Cx.1
  have hL : sL G [] := sL_nil
  have hl : lv_has ls 2 [(0, .ref (G.2.2.1 + o)), (1, .int (iv j))] := hl
  have hW0 := hW
  refine lv_iload_n hx hb dX3_isWhole_0 rfl (lv_at hl 1 rfl) ?_
  refine lv_iconst (v := iv 1) hx hb dX3_isWhole_1 (by decide) ?_
  refine r_icmp_lt (tgt := 26) hx hb ⟨(by omega), (by omega)⟩ ⟨(by omega), (by omega)⟩ dX3_isWhole_2 (by decide) (fun c_1 => ?_) (fun c_1 => ?_)
  · refine lv_iconst (v := iv 0) hx hb dX3_isWhole_26 (by decide) ?_
    exact sZret Cx hr hlk hW hL (by omega) ⟨rfl, (by omega)⟩ dX3_isWhole_27
  · refine lv_iload_n hx hb dX3_isWhole_5 rfl (lv_at hl 1 rfl) ?_
    refine lv_aload_n hx hb dX3_isWhole_6 rfl (lv_at hl 0 rfl) ?_
    have q_2 : 0 ≤ S.1 o 2 ∧ S.1 o 2 ≤ 12 := hI.fi o 2 3 (mdl_k hm) hm.1
    refine g_X3_19 Cx hW (k := o) (mdl_l hm) hm.1 (v := S.1 o 2) rfl dX3_isWhole_7 ?_
    refine r_icmp_gt (tgt := 26) hx hb ⟨(by omega), (by omega)⟩ ⟨(by omega), (by omega)⟩ dX3_isWhole_10 (by decide) (fun c_3 => ?_) (fun c_3 => ?_)
    · refine lv_iconst (v := iv 0) hx hb dX3_isWhole_26 (by decide) ?_
      exact sZret Cx hr hlk hW hL (by omega) ⟨rfl, (by omega)⟩ dX3_isWhole_27
    · refine lv_aload_n hx hb dX3_isWhole_13 rfl (lv_at hl 0 rfl) ?_
      refine g_X3_15 Cx hW (k := o) (mdl_l hm) hm.1 (v := .ref (G.2.2.1 + (o + 2))) (hI.rq.2.2 o (mdl_k hm) hm.1).2 dX3_isWhole_14 ?_
      refine lv_iload_n hx hb dX3_isWhole_17 rfl (lv_at hl 1 rfl) ?_
      refine rZald Cx hW (k := o + 2) (mdl_l2 hm) hm.2.2.1 (by decide) (by omega) (by omega) dX3_isWhole_18 ?_
      have q_4 : 0 ≤ S.2.1 (o + 2) j ∧ S.2.1 (o + 2) j ≤ 1 := mdl_r2 hm hI j 
      refine r_i (b := S.2.1 (o + 2) j) rfl ?_
      refine r_if_eq (tgt := 26) hx hb ⟨(by omega), (by omega)⟩ dX3_isWhole_19 (by decide) (fun c_5 => ?_) (fun c_5 => ?_)
      · refine lv_iconst (v := iv 0) hx hb dX3_isWhole_26 (by decide) ?_
        exact sZret Cx hr hlk hW hL (by omega) ⟨rfl, (by omega)⟩ dX3_isWhole_27
      · refine lv_iconst (v := iv 1) hx hb dX3_isWhole_22 (by decide) ?_
        refine lv_goto (tgt := 27) hx hb dX3_isWhole_23 (by decide) ?_
        exact sZret Cx hr hlk hW hL (by omega) ⟨rfl, (by omega)⟩ dX3_isWhole_27

set_option maxRecDepth 100000 in
set_option maxHeartbeats 4000000 in
theorem s_X3_isAllWhole (l : Launch) (G : sG) (S : sS) {o : Nat} (hI : cX G S 0 0 0) (hm : mdl o) : Met l yX3_isAllWhole (.code yX3_isAllWhole cX3_isAllWhole 1 (some .boolean) :: tb) (rmk 2 0 0) (sPc G 294 S [.ref (G.2.2.1 + o)]) (sQi G 294 (fun r u => u = S ∧ (0 ≤ r ∧ r ≤ 1))) 0 0 (sF G) := by
  refine sEnter (by decide) (Nat.le_of_ble_eq_true rfl) ?_
  intro p e s m args below meth c Cx hr hlk hnm hW ls hl
  have Cx : sC G p m c cX3_isAllWhole 1 s args RX3 := Cx
  obtain ⟨hx, hb, hml, hown, hts⟩ := id Cx.1
  have hL : sL G [] := sL_nil
  have hl : lv_has ls 1 [(0, .ref (G.2.2.1 + o))] := hl
  have hW0 := hW
  refine lv_aload_n hx hb dX3_isAllWhole_0 rfl (lv_at hl 0 rfl) ?_
  refine sBi (sV (As := []) (rest := []) (k := o) Cx (s_X3_wholes l G S (o := o) hI hm) (c_X3_34 Cx rfl rfl (rmk_ok (by omega) (by decide))) hW (mdl_l hm) hm.1 rfl rfl hl.1 rfl (Nat.le_of_ble_eq_true rfl) dX3_isAllWhole_1 ⟨Nat.le_of_ble_eq_true rfl, Nat.le_of_ble_eq_true rfl⟩) hL (fun r_3 u_1 H locs k_2 hW hL => ?_)
  obtain ⟨eu_1, xu_1⟩ := k_2
  rw [eu_1] at hW
  refine lv_aload_n hx hb dX3_isAllWhole_4 rfl (lv_at hl 0 rfl) ?_
  have q_4 : 0 ≤ S.1 o 2 ∧ S.1 o 2 ≤ 12 := hI.fi o 2 3 (mdl_k hm) hm.1
  refine g_X3_19 Cx hW (k := o) (mdl_l hm) hm.1 (v := S.1 o 2) rfl dX3_isAllWhole_5 ?_
  refine r_icmp_ne (tgt := 15) hx hb ⟨(by omega), (by omega)⟩ ⟨(by omega), (by omega)⟩ dX3_isAllWhole_8 (by decide) (fun c_5 => ?_) (fun c_5 => ?_)
  · refine lv_iconst (v := iv 0) hx hb dX3_isAllWhole_15 (by decide) ?_
    exact sZret Cx hr hlk hW hL (by omega) ⟨rfl, (by omega)⟩ dX3_isAllWhole_16
  · refine lv_iconst (v := iv 1) hx hb dX3_isAllWhole_11 (by decide) ?_
    refine lv_goto (tgt := 16) hx hb dX3_isAllWhole_12 (by decide) ?_
    exact sZret Cx hr hlk hW hL (by omega) ⟨rfl, (by omega)⟩ dX3_isAllWhole_16

set_option maxRecDepth 100000 in
set_option maxHeartbeats 4000000 in
theorem s_X3_isGoalWhole (l : Launch) (G : sG) (S : sS) {o : Nat} (hI : cX G S 0 0 0) (hm : mdl o) : Met l yX3_isGoalWhole (.code yX3_isGoalWhole cX3_isGoalWhole 2 (some .boolean) :: tb) (rmk 2 0 0) (sPc G 294 S [.ref (G.2.2.1 + o)]) (sQi G 294 (fun r u => u = S ∧ (0 ≤ r ∧ r ≤ 1))) 0 0 (sF G) := by
  refine sEnter (by decide) (Nat.le_of_ble_eq_true rfl) ?_
  intro p e s m args below meth c Cx hr hlk hnm hW ls hl
  have Cx : sC G p m c cX3_isGoalWhole 2 s args RX3 := Cx
  obtain ⟨hx, hb, hml, hown, hts⟩ := id Cx.1
  have hL : sL G [] := sL_nil
  have hl : lv_has ls 2 [(0, .ref (G.2.2.1 + o))] := hl
  have hW0 := hW
  refine lv_iconst (v := iv 1) hx hb dX3_isGoalWhole_0 (by decide) ?_
  refine lv_istore_n (lv' := [(1, .int (iv 1)), (0, .ref (G.2.2.1 + o))]) hx hb dX3_isGoalWhole_1 rfl hl (by decide) rfl (fun ls hl => ?_)
  have loop_2 : ∀ (fuel : Nat) (j : Int) (H : Heap) (locs : List Loc) (ls : Array Slot), (13 - j).toNat < fuel → (1 ≤ j ∧ j ≤ 13) → sW G 294 S H → sL G locs → lv_has ls 2 [(1, .int (iv j)), (0, .ref (G.2.2.1 + o))] → W p l e (rmk 2 0 0) s m args below meth c H locs 0 0 (MQ below (sQi G 294 (fun r u => u = S ∧ (0 ≤ r ∧ r ≤ 1))) args s 0 0 (sF G)) (F0 m 2 ls []) := by
    intro fuel
    induction fuel with
    | zero => intro j H locs ls hmeas hj hW hL hl; exact absurd hmeas (Nat.not_lt_zero _)
    | succ fuel ih_2 =>
      intro j H locs ls hmeas hj hW hL hl
      refine lv_iload_n hx hb dX3_isGoalWhole_2 rfl (lv_at hl 0 rfl) ?_
      refine lv_aload_n hx hb dX3_isGoalWhole_3 rfl (lv_at hl 1 rfl) ?_
      have q_1 : 0 ≤ S.1 o 2 ∧ S.1 o 2 ≤ 12 := hI.fi o 2 3 (mdl_k hm) hm.1
      refine g_X3_19 Cx hW (k := o) (mdl_l hm) hm.1 (v := S.1 o 2) rfl dX3_isGoalWhole_4 ?_
      refine r_icmp_gt (tgt := 36) hx hb ⟨(by omega), (by omega)⟩ ⟨(by omega), (by omega)⟩ dX3_isGoalWhole_7 (by decide) (fun c_2 => ?_) (fun c_2 => ?_)
      · refine lv_iconst (v := iv 1) hx hb dX3_isGoalWhole_36 (by decide) ?_
        exact sZret Cx hr hlk hW hL (by omega) ⟨rfl, (by omega)⟩ dX3_isGoalWhole_37
      · refine lv_aload_n hx hb dX3_isGoalWhole_10 rfl (lv_at hl 1 rfl) ?_
        refine lv_iconst (v := iv 0) hx hb dX3_isGoalWhole_11 (by decide) ?_
        refine lv_iload_n hx hb dX3_isGoalWhole_12 rfl (lv_at hl 0 rfl) ?_
        refine sBi (sV (As := [.int (iv 0), .int (iv j)]) (rest := []) (k := o) Cx (s_X3_number l G S (o := o) (k := 0) (j := j) hI hm (by omega) (by omega)) (c_X3_38 Cx rfl rfl (rmk_ok (by omega) (by decide))) hW (mdl_l hm) hm.1 rfl rfl hl.1 rfl (Nat.le_of_ble_eq_true rfl) dX3_isGoalWhole_13 ⟨Nat.le_of_ble_eq_true rfl, Nat.le_of_ble_eq_true rfl⟩) hL (fun r_5 u_3 H locs k_4 hW hL => ?_)
        obtain ⟨eu_3, xu_3⟩ := k_4
        rw [eu_3] at hW
        refine r_if_eq (tgt := 30) hx hb ⟨(by omega), (by omega)⟩ dX3_isGoalWhole_16 (by decide) (fun c_6 => ?_) (fun c_6 => ?_)
        · refine lv_iinc (v := iv (j + 1)) (lv' := [(1, .int (iv (j + 1))), (0, .ref (G.2.2.1 + o))]) hx hb dX3_isGoalWhole_30 hl (k := 0) rfl ((Int32.ofInt_add _ _).symm) (by decide) rfl (fun ls hl => ?_)
          refine lv_goto (tgt := 2) hx hb dX3_isGoalWhole_33 (by decide) ?_
          exact ih_2 (j + 1) _ _ _ (by omega) (by omega) hW hL (lv_sub hl [0, 1] rfl)
        · refine lv_aload_n hx hb dX3_isGoalWhole_19 rfl (lv_at hl 1 rfl) ?_
          refine g_X3_15 Cx hW (k := o) (mdl_l hm) hm.1 (v := .ref (G.2.2.1 + (o + 2))) (hI.rq.2.2 o (mdl_k hm) hm.1).2 dX3_isGoalWhole_20 ?_
          refine lv_iload_n hx hb dX3_isGoalWhole_23 rfl (lv_at hl 0 rfl) ?_
          refine rZald Cx hW (k := o + 2) (mdl_l2 hm) hm.2.2.1 (by decide) (by omega) (by omega) dX3_isGoalWhole_24 ?_
          have q_7 : 0 ≤ S.2.1 (o + 2) j ∧ S.2.1 (o + 2) j ≤ 1 := mdl_r2 hm hI j 
          refine r_i (b := S.2.1 (o + 2) j) rfl ?_
          refine r_if_ne (tgt := 30) hx hb ⟨(by omega), (by omega)⟩ dX3_isGoalWhole_25 (by decide) (fun c_8 => ?_) (fun c_8 => ?_)
          · refine lv_iinc (v := iv (j + 1)) (lv' := [(1, .int (iv (j + 1))), (0, .ref (G.2.2.1 + o))]) hx hb dX3_isGoalWhole_30 hl (k := 0) rfl ((Int32.ofInt_add _ _).symm) (by decide) rfl (fun ls hl => ?_)
            refine lv_goto (tgt := 2) hx hb dX3_isGoalWhole_33 (by decide) ?_
            exact ih_2 (j + 1) _ _ _ (by omega) (by omega) hW hL (lv_sub hl [0, 1] rfl)
          · refine lv_iconst (v := iv 0) hx hb dX3_isGoalWhole_28 (by decide) ?_
            exact sZret Cx hr hlk hW hL (by omega) ⟨rfl, (by omega)⟩ dX3_isGoalWhole_29
  exact loop_2 (_ + 1) 1 _ _ _ (Nat.lt_succ_self _) (by omega) hW hL (lv_sub hl [0, 1] rfl)
