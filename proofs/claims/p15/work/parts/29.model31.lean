theorem dic_L {k : Nat} (m : dc k) : slotL k = 6 := by rcases m with rfl | rfl <;> rfl
def pW (k : Nat) : Bool := pN k || Nat.beq k 120 || Nat.beq k 193
theorem pN_W : ∀ k, pN k = true → pW k = true := fun k h => by simp [pW, h]
theorem pW_C : ∀ k, pW k = true → pC k = true := fun k h => by
  simp only [pW, Bool.or_eq_true] at h
  rcases h with (h | h) | h
  · exact pN_C k h
  · rw [Nat.eq_of_beq_eq_true h]; rfl
  · rw [Nat.eq_of_beq_eq_true h]; rfl
theorem pW_A : ∀ k, pW k = true → pA k = true := fun k h => pC_A k (pW_C k h)
theorem slot0 {f g : Int → Int} {a L T : Int} (h : SlotOK f a L T) (hL : 0 ≤ L) (h0 : g a = 0) (hg : ∀ i, a < i → i < a + 8 → g i = f i) : SlotOK g a L T := ⟨by omega, fun i i0 i1 => by rw [hg i i0 i1]; exact h.2.1 i i0 i1, fun q => by omega, fun q => by omega, fun q => by omega⟩
def pM (o k : Nat) : Bool := rgB o (o + 2) k
theorem pM_0 {o : Nat} : pM o o = true := rgB_i ⟨by omega, by omega⟩
theorem pM_1 {o : Nat} : pM o (o + 1) = true := rgB_i ⟨by omega, by omega⟩
theorem pM_2 {o : Nat} : pM o (o + 2) = true := rgB_i ⟨by omega, by omega⟩
theorem pM_sub {P : pS} {o : Nat} (h0 : P o = true) (h1 : P (o + 1) = true) (h2 : P (o + 2) = true) : ∀ k, pM o k = true → P k = true := fun k h => by
  have := rgB_t h
  rcases (by omega : k = o ∨ k = o + 1 ∨ k = o + 2) with e | e | e <;> rw [e] <;> assumption
theorem pM_no {o k : Nat} (h0 : k ≠ o) (h1 : k ≠ o + 1) (h2 : k ≠ o + 2) : pM o k = false := by
  cases e : pM o k
  · rfl
  · exfalso; have := rgB_t e; omega
theorem cX.mA {G : sG} {S : sS} {x y : Nat} {b : Int} {o : Nat} {i v : Int} (h : cX G S x y b) (m : mdl o) (hv : -2147483648 ≤ v ∧ v ≤ 2147483647) : cX G (uA S (o + 1) i v) x y b := h.A (by rw [m.2.2.2.2.1]; decide) (by rw [m.2.2.2.2.1]; decide) (fun e => by have := m.2.2.2.2.1; rw [e] at this; revert this; decide) (by rw [m.2.2.2.2.1]; exact hv)
theorem cX.mZ {G : sG} {S : sS} {x y : Nat} {b : Int} {o : Nat} {i v : Int} (h : cX G S x y b) (m : mdl o) (hv : 0 ≤ v ∧ v ≤ 1) : cX G (uA S (o + 2) i v) x y b := h.A (by rw [m.2.2.2.2.2]; decide) (by rw [m.2.2.2.2.2]; decide) (fun e => by have := m.2.2.2.2.2; rw [e] at this; revert this; decide) (by rw [m.2.2.2.2.2]; exact hv)
set_option maxRecDepth 100000 in
set_option maxHeartbeats 4000000 in
theorem s_X3_clear (l : Launch) (G : sG) (S : sS) {o : Nat} (hI : cX G S 0 0 0) (hm : mdl o) : Met l yX3_clear (.code yX3_clear cX3_clear 1 none :: tb) (rmk 1 0 0) (sPc G 294 S [.ref (G.2.2.1 + o)]) (sQv G 294 (fun u => cX G u 0 0 0 ∧ Fr S u (pM o) ∧ (u.1 o 2 = 0 ∧ u.1 o 3 = 0))) 0 0 (sF G) := by
  refine sEnter (by decide) (Nat.le_of_ble_eq_true rfl) ?_
  intro p e s m args below meth c Cx hr hlk hnm hW ls hl
  have Cx : sC G p m c cX3_clear 1 s args RX3 := Cx
  obtain ⟨hx, hb, hml, hown, hts⟩ := id Cx.1
  have hL : sL G [] := sL_nil
  have hl : lv_has ls 1 [(0, .ref (G.2.2.1 + o))] := hl
  have hW0 := hW
  refine lv_aload_n hx hb dX3_clear_0 rfl (lv_at hl 0 rfl) ?_
  refine lv_iconst (v := iv 0) hx hb dX3_clear_1 (by decide) ?_
  refine p_X3_19 Cx hW hL (k := o) (mdl_l hm) hm.1 dX3_clear_2 (fun H locs hW hL => ?_)
  have F_1 : Fr S (uF S o 2 0) (pM o) := (Fr.rf : Fr S S (pM o)).F pM_0
  have i_2 : cX G (uF S o 2 0) 0 0 0 := hI.F hm.1 rfl (show 0 ≤ 0 ∧ 0 ≤ 12 from ⟨by omega, by omega⟩)
  refine lv_aload_n hx hb dX3_clear_5 rfl (lv_at hl 0 rfl) ?_
  refine lv_iconst (v := iv 0) hx hb dX3_clear_6 (by decide) ?_
  refine p_X3_23 Cx hW hL (k := o) (mdl_l hm) hm.1 dX3_clear_7 (fun H locs hW hL => ?_)
  have F_3 : Fr S (uF (uF S o 2 0) o 3 0) (pM o) := F_1.F pM_0
  have i_4 : cX G (uF (uF S o 2 0) o 3 0) 0 0 0 := i_2.F hm.1 rfl (show 0 ≤ 0 ∧ 0 ≤ 16 from ⟨by omega, by omega⟩)
  refine lv_aload_n hx hb dX3_clear_10 rfl (lv_at hl 0 rfl) ?_
  refine lv_iconst (v := iv 0) hx hb dX3_clear_11 (by decide) ?_
  refine p_X3_26 Cx hW hL (k := o) (mdl_l hm) hm.1 (by omega) dX3_clear_12 (fun H locs hW hL => ?_)
  have F_5 : Fr S (uF (uF (uF S o 2 0) o 3 0) o 4 0) (pM o) := F_3.F pM_0
  have i_6 : cX G (uF (uF (uF S o 2 0) o 3 0) o 4 0) 0 0 0 := i_4.F hm.1 rfl (show 0 ≤ 0 ∧ 0 ≤ 1 from ⟨by omega, by omega⟩)
  have lk_7 : (uF (uF (uF S o 2 0) o 3 0) o 4 0).1 o 2 = 0 := (uF_ne (fun h => absurd h.2 (by decide))).trans ((uF_ne (fun h => absurd h.2 (by decide))).trans (uF_on))
  have lk_8 : (uF (uF (uF S o 2 0) o 3 0) o 4 0).1 o 3 = 0 := (uF_ne (fun h => absurd h.2 (by decide))).trans (uF_on)
  exact sVret Cx hr hlk hW hL ⟨i_6, F_5, (by omega)⟩ dX3_clear_15

set_option maxRecDepth 100000 in
set_option maxHeartbeats 4000000 in
theorem s_X3_number (l : Launch) (G : sG) (S : sS) {o : Nat} {k j : Int} (hI : cX G S 0 0 0) (hm : mdl o) (hk : 0 ≤ k ∧ k ≤ 16) (hj : 0 ≤ j ∧ j ≤ 12) : Met l yX3_number (.code yX3_number cX3_number 3 (some .int) :: tb) (rmk 1 0 0) (sPc G 294 S [.ref (G.2.2.1 + o), .int (iv k), .int (iv j)]) (sQi G 294 (fun r u => u = S ∧ (-2147483648 ≤ r ∧ r ≤ 2147483647))) 0 0 (sF G) := by
  refine sEnter (by decide) (Nat.le_of_ble_eq_true rfl) ?_
  intro p e s m args below meth c Cx hr hlk hnm hW ls hl
  have Cx : sC G p m c cX3_number 3 s args RX3 := Cx
  obtain ⟨hx, hb, hml, hown, hts⟩ := id Cx.1
  have hL : sL G [] := sL_nil
  have hl : lv_has ls 3 [(0, .ref (G.2.2.1 + o)), (1, .int (iv k)), (2, .int (iv j))] := hl
  have hW0 := hW
  refine lv_aload_n hx hb dX3_number_0 rfl (lv_at hl 0 rfl) ?_
  refine g_X3_11 Cx hW (k := o) (mdl_l hm) hm.1 (v := .ref (G.2.2.1 + (o + 1))) (hI.rq.2.2 o (mdl_k hm) hm.1).1 dX3_number_1 ?_
  refine lv_iload_n hx hb dX3_number_4 rfl (lv_at hl 1 rfl) ?_
  refine lv_bipush (v := iv 13) hx hb dX3_number_5 (by decide) ?_
  refine r_imul hx hb dX3_number_7 ?_
  refine lv_iload_n hx hb dX3_number_8 rfl (lv_at hl 2 rfl) ?_
  refine r_iadd hx hb dX3_number_9 ?_
  refine rIald Cx hW (k := o + 1) (mdl_l1 hm) hm.2.1 (by decide) (by omega) (by omega) dX3_number_10 ?_
  have q_1 : (-2147483648) ≤ S.2.1 (o + 1) ((k * 13) + j) ∧ S.2.1 (o + 1) ((k * 13) + j) ≤ 2147483647 := mdl_r1 hm hI ((k * 13) + j) 
  refine r_i (b := S.2.1 (o + 1) ((k * 13) + j)) rfl ?_
  exact sIret Cx hr hlk hW hL ⟨rfl, (by omega)⟩ dX3_number_11

set_option maxRecDepth 100000 in
set_option maxHeartbeats 4000000 in
theorem s_X3_setNumber (l : Launch) (G : sG) (S : sS) {o : Nat} {k j v : Int} (hI : cX G S 0 0 0) (hm : mdl o) (hk : 0 ≤ k ∧ k ≤ 16) (hj : 0 ≤ j ∧ j ≤ 12) : Met l yX3_setNumber (.code yX3_setNumber cX3_setNumber 5 none :: tb) (rmk 1 0 0) (sPc G 294 S [.ref (G.2.2.1 + o), .int (iv k), .int (iv j), .long (jv v)]) (sQv G 294 (fun u => cX G u 0 0 0 ∧ Fr S u (pM o) ∧ (u.1 o 2 = S.1 o 2 ∧ u.1 o 3 = S.1 o 3))) 0 0 (sF G) := by
  refine sEnter (by decide) (Nat.le_of_ble_eq_true rfl) ?_
  intro p e s m args below meth c Cx hr hlk hnm hW ls hl
  have Cx : sC G p m c cX3_setNumber 5 s args RX3 := Cx
  obtain ⟨hx, hb, hml, hown, hts⟩ := id Cx.1
  have hL : sL G [] := sL_nil
  have hl : lv_has ls 5 [(0, .ref (G.2.2.1 + o)), (1, .int (iv k)), (2, .int (iv j)), (3, .long (jv v))] := hl
  have hW0 := hW
  refine lv_aload_n hx hb dX3_setNumber_0 rfl (lv_at hl 0 rfl) ?_
  refine g_X3_11 Cx hW (k := o) (mdl_l hm) hm.1 (v := .ref (G.2.2.1 + (o + 1))) (hI.rq.2.2 o (mdl_k hm) hm.1).1 dX3_setNumber_1 ?_
  refine lv_iload_n hx hb dX3_setNumber_4 rfl (lv_at hl 1 rfl) ?_
  refine lv_bipush (v := iv 13) hx hb dX3_setNumber_5 (by decide) ?_
  refine r_imul hx hb dX3_setNumber_7 ?_
  refine lv_iload_n hx hb dX3_setNumber_8 rfl (lv_at hl 2 rfl) ?_
  refine r_iadd hx hb dX3_setNumber_9 ?_
  refine lv_lload_n hx hb dX3_setNumber_10 rfl (lv_at hl 3 rfl) ?_
  refine r_l2i_any hx hb dX3_setNumber_11 (fun z_1 hz_1 kz_1 => ?_)
  refine rIast Cx hW hL (k := o + 1) (mdl_l1 hm) hm.2.1 (by decide) (by omega) (by omega) dX3_setNumber_12 (fun H locs hW hL => ?_)
  have F_2 : Fr S (uA S (o + 1) ((k * 13) + j) z_1) (pM o) := (Fr.rf : Fr S S (pM o)).A pM_1
  have i_3 : cX G (uA S (o + 1) ((k * 13) + j) z_1) 0 0 0 := hI.mA hm ⟨by omega, by omega⟩
  have q_4 : 0 ≤ S.1 o 2 ∧ S.1 o 2 ≤ 12 := hI.fi o 2 3 (mdl_k hm) hm.1
  have lk_5 : (uA S (o + 1) ((k * 13) + j) z_1).1 o 2 = S.1 o 2 := uA_f
  have q_6 : 0 ≤ S.1 o 3 ∧ S.1 o 3 ≤ 16 := hI.fi o 3 3 (mdl_k hm) hm.1
  have lk_7 : (uA S (o + 1) ((k * 13) + j) z_1).1 o 3 = S.1 o 3 := uA_f
  exact sVret Cx hr hlk hW hL ⟨i_3, F_2, (by omega)⟩ dX3_setNumber_13

set_option maxRecDepth 100000 in
set_option maxHeartbeats 4000000 in
theorem s_X3_addVariables (l : Launch) (G : sG) (S : sS) {o : Nat} {k z : Int} (hI : cX G S 0 0 0) (hm : mdl o) (hk : -2147483648 ≤ k ∧ k ≤ 2147483647) (hz : 0 ≤ z ∧ z ≤ 1) : Met l yX3_addVariables (.code yX3_addVariables cX3_addVariables 4 none :: tb) (rmk 1 0 0) (sPc G 294 S [.ref (G.2.2.1 + o), .int (iv k), .int (iv z)]) (sQv G 294 (fun u => cX G u 0 0 0 ∧ Fr S u (pM o))) 0 0 (sF G) := by
  refine sEnter (by decide) (Nat.le_of_ble_eq_true rfl) ?_
  intro p e s m args below meth c Cx hr hlk hnm hW ls hl
  have Cx : sC G p m c cX3_addVariables 4 s args RX3 := Cx
  obtain ⟨hx, hb, hml, hown, hts⟩ := id Cx.1
  have hL : sL G [] := sL_nil
  have hl : lv_has ls 4 [(0, .ref (G.2.2.1 + o)), (1, .int (iv k)), (2, .int (iv z))] := hl
  have hW0 := hW
  refine lv_iconst (v := iv 0) hx hb dX3_addVariables_0 (by decide) ?_
  refine lv_istore_n (lv' := [(3, .int (iv 0)), (0, .ref (G.2.2.1 + o)), (1, .int (iv k)), (2, .int (iv z))]) hx hb dX3_addVariables_1 rfl hl (by decide) rfl (fun ls hl => ?_)
  have loop_2 : ∀ (fuel : Nat) (S2 : sS) (i : Int) (H : Heap) (locs : List Loc) (ls : Array Slot), (k - i).toNat < fuel → (cX G S2 0 0 0) → (Fr S S2 (pM o)) → (Fr S S2 (pM o)) → (0 ≤ i ∧ i ≤ 12 ∧ i ≤ S2.1 o 2) → sW G 294 S2 H → sL G locs → lv_has ls 4 [(3, .int (iv i)), (0, .ref (G.2.2.1 + o)), (1, .int (iv k)), (2, .int (iv z))] → W p l e (rmk 1 0 0) s m args below meth c H locs 0 0 (MQ below (sQv G 294 (fun u => cX G u 0 0 0 ∧ Fr S u (pM o))) args s 0 0 (sF G)) (F0 m 2 ls []) := by
    intro fuel
    induction fuel with
    | zero => intro S2 i H locs ls hmeas hI2 hFm2 hL2_ hi hW hL hl; exact absurd hmeas (Nat.not_lt_zero _)
    | succ fuel ih_2 =>
      intro S2 i H locs ls hmeas hI2 hFm2 hL2_ hi hW hL hl
      refine lv_iload_n hx hb dX3_addVariables_2 rfl (lv_at hl 0 rfl) ?_
      refine lv_iload_n hx hb dX3_addVariables_3 rfl (lv_at hl 2 rfl) ?_
      refine r_icmp_ge (tgt := 42) hx hb ⟨(by omega), (by omega)⟩ ⟨(by omega), (by omega)⟩ dX3_addVariables_4 (by decide) (fun c_1 => ?_) (fun c_1 => ?_)
      · exact sVret Cx hr hlk hW hL ⟨hI2, hFm2⟩ dX3_addVariables_42
      · refine lv_aload_n hx hb dX3_addVariables_7 rfl (lv_at hl 1 rfl) ?_
        have q_2 : 0 ≤ S2.1 o 2 ∧ S2.1 o 2 ≤ 12 := hI2.fi o 2 3 (mdl_k hm) hm.1
        refine g_X3_19 Cx hW (k := o) (mdl_l hm) hm.1 (v := S2.1 o 2) rfl dX3_addVariables_8 ?_
        refine lv_bipush (v := iv 12) hx hb dX3_addVariables_11 (by decide) ?_
        refine r_icmp_ge (tgt := 42) hx hb ⟨(by omega), (by omega)⟩ ⟨(by omega), (by omega)⟩ dX3_addVariables_13 (by decide) (fun c_3 => ?_) (fun c_3 => ?_)
        · exact sVret Cx hr hlk hW hL ⟨hI2, hFm2⟩ dX3_addVariables_42
        · refine lv_aload_n hx hb dX3_addVariables_16 rfl (lv_at hl 1 rfl) ?_
          refine lv_dup hx hb dX3_addVariables_17 rfl ?_
          refine g_X3_19 Cx hW (k := o) (mdl_l hm) hm.1 (v := S2.1 o 2) rfl dX3_addVariables_18 ?_
          refine lv_iconst (v := iv 1) hx hb dX3_addVariables_21 (by decide) ?_
          refine r_iadd hx hb dX3_addVariables_22 ?_
          refine p_X3_19 Cx hW hL (k := o) (mdl_l hm) hm.1 dX3_addVariables_23 (fun H locs hW hL => ?_)
          have F_4 : Fr S (uF S2 o 2 ((S2.1 o 2) + 1)) (pM o) := hFm2.F pM_0
          have F_5 : Fr S (uF S2 o 2 ((S2.1 o 2) + 1)) (pM o) := hL2_.F pM_0
          have i_6 : cX G (uF S2 o 2 ((S2.1 o 2) + 1)) 0 0 0 := hI2.F hm.1 rfl (show 0 ≤ (S2.1 o 2) + 1 ∧ (S2.1 o 2) + 1 ≤ 12 from ⟨by omega, by omega⟩)
          refine lv_aload_n hx hb dX3_addVariables_26 rfl (lv_at hl 1 rfl) ?_
          refine g_X3_15 Cx hW (k := o) (mdl_l hm) hm.1 (v := .ref (G.2.2.1 + (o + 2))) (i_6.rq.2.2 o (mdl_k hm) hm.1).2 dX3_addVariables_27 ?_
          refine lv_aload_n hx hb dX3_addVariables_30 rfl (lv_at hl 1 rfl) ?_
          refine g_X3_19 Cx hW (k := o) (mdl_l hm) hm.1 (v := (S2.1 o 2) + 1) uF_on dX3_addVariables_31 ?_
          refine lv_iload_n hx hb dX3_addVariables_34 rfl (lv_at hl 3 rfl) ?_
          refine rZast Cx hW hL (k := o + 2) (mdl_l2 hm) hm.2.2.1 (by decide) (by omega) (by omega) (nar_z (by omega)) dX3_addVariables_35 (fun H locs hW hL => ?_)
          have F_7 : Fr S (uA (uF S2 o 2 ((S2.1 o 2) + 1)) (o + 2) ((S2.1 o 2) + 1) z) (pM o) := F_4.A pM_2
          have F_8 : Fr S (uA (uF S2 o 2 ((S2.1 o 2) + 1)) (o + 2) ((S2.1 o 2) + 1) z) (pM o) := F_5.A pM_2
          have i_9 : cX G (uA (uF S2 o 2 ((S2.1 o 2) + 1)) (o + 2) ((S2.1 o 2) + 1) z) 0 0 0 := i_6.mZ hm ⟨by omega, by omega⟩
          refine lv_iinc (v := iv (i + 1)) (lv' := [(3, .int (iv (i + 1))), (0, .ref (G.2.2.1 + o)), (1, .int (iv k)), (2, .int (iv z))]) hx hb dX3_addVariables_36 hl (k := 0) rfl ((Int32.ofInt_add _ _).symm) (by decide) rfl (fun ls hl => ?_)
          refine lv_goto (tgt := 2) hx hb dX3_addVariables_39 (by decide) ?_
          have lk_10 : (uA (uF S2 o 2 ((S2.1 o 2) + 1)) (o + 2) ((S2.1 o 2) + 1) z).1 o 2 = (S2.1 o 2) + 1 := (uA_f).trans (uF_on)
          exact ih_2 (uA (uF S2 o 2 ((S2.1 o 2) + 1)) (o + 2) ((S2.1 o 2) + 1) z) (i + 1) _ _ _ (by omega) i_9 F_7 F_8 (by omega) hW hL (lv_sub hl [0, 1, 2, 3] rfl)
  have q_11 : 0 ≤ S.1 o 2 ∧ S.1 o 2 ≤ 12 := hI.fi o 2 3 (mdl_k hm) hm.1
  exact loop_2 (_ + 1) S 0 _ _ _ (Nat.lt_succ_self _) hI (Fr.rf : Fr S S (pM o)) Fr.rf (by omega) hW hL (lv_sub hl [0, 1, 2, 3] rfl)

set_option maxRecDepth 100000 in
set_option maxHeartbeats 4000000 in
theorem s_X3_wholes (l : Launch) (G : sG) (S : sS) {o : Nat} (hI : cX G S 0 0 0) (hm : mdl o) : Met l yX3_wholes (.code yX3_wholes cX3_wholes 3 (some .int) :: tb) (rmk 1 0 0) (sPc G 294 S [.ref (G.2.2.1 + o)]) (sQi G 294 (fun r u => u = S ∧ (0 ≤ r ∧ r ≤ 12))) 0 0 (sF G) := by
  refine sEnter (by decide) (Nat.le_of_ble_eq_true rfl) ?_
  intro p e s m args below meth c Cx hr hlk hnm hW ls hl
  have Cx : sC G p m c cX3_wholes 3 s args RX3 := Cx
  obtain ⟨hx, hb, hml, hown, hts⟩ := id Cx.1
  have hL : sL G [] := sL_nil
  have hl : lv_has ls 3 [(0, .ref (G.2.2.1 + o))] := hl
  have hW0 := hW
  refine lv_iconst (v := iv 0) hx hb dX3_wholes_0 (by decide) ?_
  refine lv_istore_n (lv' := [(1, .int (iv 0)), (0, .ref (G.2.2.1 + o))]) hx hb dX3_wholes_1 rfl hl (by decide) rfl (fun ls hl => ?_)
  refine lv_iconst (v := iv 1) hx hb dX3_wholes_2 (by decide) ?_
  refine lv_istore_n (lv' := [(2, .int (iv 1)), (1, .int (iv 0)), (0, .ref (G.2.2.1 + o))]) hx hb dX3_wholes_3 rfl hl (by decide) rfl (fun ls hl => ?_)
  have loop_4 : ∀ (fuel : Nat) (j : Int) (f : Int) (H : Heap) (locs : List Loc) (ls : Array Slot), (13 - j).toNat < fuel → (1 ≤ j ∧ j ≤ 13) → (0 ≤ f ∧ f < j) → sW G 294 S H → sL G locs → lv_has ls 3 [(2, .int (iv j)), (1, .int (iv f)), (0, .ref (G.2.2.1 + o))] → W p l e (rmk 1 0 0) s m args below meth c H locs 0 0 (MQ below (sQi G 294 (fun r u => u = S ∧ (0 ≤ r ∧ r ≤ 12))) args s 0 0 (sF G)) (F0 m 4 ls []) := by
    intro fuel
    induction fuel with
    | zero => intro j f H locs ls hmeas hj hf hW hL hl; exact absurd hmeas (Nat.not_lt_zero _)
    | succ fuel ih_4 =>
      intro j f H locs ls hmeas hj hf hW hL hl
      refine lv_iload_n hx hb dX3_wholes_4 rfl (lv_at hl 0 rfl) ?_
      refine lv_aload_n hx hb dX3_wholes_5 rfl (lv_at hl 2 rfl) ?_
      have q_1 : 0 ≤ S.1 o 2 ∧ S.1 o 2 ≤ 12 := hI.fi o 2 3 (mdl_k hm) hm.1
      refine g_X3_19 Cx hW (k := o) (mdl_l hm) hm.1 (v := S.1 o 2) rfl dX3_wholes_6 ?_
      refine r_icmp_gt (tgt := 30) hx hb ⟨(by omega), (by omega)⟩ ⟨(by omega), (by omega)⟩ dX3_wholes_9 (by decide) (fun c_2 => ?_) (fun c_2 => ?_)
      · refine lv_iload_n hx hb dX3_wholes_30 rfl (lv_at hl 1 rfl) ?_
        exact sIret Cx hr hlk hW hL ⟨rfl, (by omega)⟩ dX3_wholes_31
      · refine lv_aload_n hx hb dX3_wholes_12 rfl (lv_at hl 2 rfl) ?_
        refine g_X3_15 Cx hW (k := o) (mdl_l hm) hm.1 (v := .ref (G.2.2.1 + (o + 2))) (hI.rq.2.2 o (mdl_k hm) hm.1).2 dX3_wholes_13 ?_
        refine lv_iload_n hx hb dX3_wholes_16 rfl (lv_at hl 0 rfl) ?_
        refine rZald Cx hW (k := o + 2) (mdl_l2 hm) hm.2.2.1 (by decide) (by omega) (by omega) dX3_wholes_17 ?_
        have q_3 : 0 ≤ S.2.1 (o + 2) j ∧ S.2.1 (o + 2) j ≤ 1 := mdl_r2 hm hI j 
        refine r_i (b := S.2.1 (o + 2) j) rfl ?_
        refine r_if_eq (tgt := 24) hx hb ⟨(by omega), (by omega)⟩ dX3_wholes_18 (by decide) (fun c_4 => ?_) (fun c_4 => ?_)
        · refine lv_iinc (v := iv (j + 1)) (lv' := [(2, .int (iv (j + 1))), (1, .int (iv f)), (0, .ref (G.2.2.1 + o))]) hx hb dX3_wholes_24 hl (k := 0) rfl ((Int32.ofInt_add _ _).symm) (by decide) rfl (fun ls hl => ?_)
          refine lv_goto (tgt := 4) hx hb dX3_wholes_27 (by decide) ?_
          exact ih_4 (j + 1) f _ _ _ (by omega) (by omega) (by omega) hW hL (lv_sub hl [0, 1, 2] rfl)
        · refine lv_iinc (v := iv (f + 1)) (lv' := [(1, .int (iv (f + 1))), (2, .int (iv j)), (0, .ref (G.2.2.1 + o))]) hx hb dX3_wholes_21 hl (k := 1) rfl ((Int32.ofInt_add _ _).symm) (by decide) rfl (fun ls hl => ?_)
          refine lv_iinc (v := iv (j + 1)) (lv' := [(2, .int (iv (j + 1))), (1, .int (iv (f + 1))), (0, .ref (G.2.2.1 + o))]) hx hb dX3_wholes_24 hl (k := 1) rfl ((Int32.ofInt_add _ _).symm) (by decide) rfl (fun ls hl => ?_)
          refine lv_goto (tgt := 4) hx hb dX3_wholes_27 (by decide) ?_
          exact ih_4 (j + 1) (f + 1) _ _ _ (by omega) (by omega) (by omega) hW hL (lv_sub hl [0, 1, 2] rfl)
  exact loop_4 (_ + 1) 1 0 _ _ _ (Nat.lt_succ_self _) (by omega) (by omega) hW hL (lv_sub hl [0, 1, 2] rfl)

set_option maxRecDepth 100000 in
set_option maxHeartbeats 4000000 in
theorem s_X3_isWhole (l : Launch) (G : sG) (S : sS) {o : Nat} {j : Int} (hI : cX G S 0 0 0) (hm : mdl o) (hj : -2147483648 ≤ j ∧ j ≤ 2147483647) : Met l yX3_isWhole (.code yX3_isWhole cX3_isWhole 2 (some .boolean) :: tb) (rmk 1 0 0) (sPc G 294 S [.ref (G.2.2.1 + o), .int (iv j)]) (sQi G 294 (fun r u => u = S ∧ (0 ≤ r ∧ r ≤ 1 ∧ (r = 1 → 1 ≤ j ∧ j ≤ S.1 o 2)))) 0 0 (sF G) := by
  refine sEnter (by decide) (Nat.le_of_ble_eq_true rfl) ?_
  intro p e s m args below meth c Cx hr hlk hnm hW ls hl
  have Cx : sC G p m c cX3_isWhole 2 s args RX3 := Cx
  obtain ⟨hx, hb, hml, hown, hts⟩ := id Cx.1
  have hL : sL G [] := sL_nil
  have hl : lv_has ls 2 [(0, .ref (G.2.2.1 + o)), (1, .int (iv j))] := hl
  have hW0 := hW
  refine lv_iload_n hx hb dX3_isWhole_0 rfl (lv_at hl 1 rfl) ?_
  refine lv_iconst (v := iv 1) hx hb dX3_isWhole_1 (by decide) ?_
  refine r_icmp_lt (tgt := 26) hx hb ⟨(by omega), (by omega)⟩ ⟨(by omega), (by omega)⟩ dX3_isWhole_2 (by decide) (fun c_1 => ?_) (fun c_1 => ?_)
  · refine lv_iconst (v := iv 0) hx hb dX3_isWhole_26 (by decide) ?_
    exact sZret Cx hr hlk hW hL (by omega) ⟨rfl, (by omega)⟩ dX3_isWhole_27
  · refine lv_iload_n hx hb dX3_isWhole_5 rfl (lv_at hl 1 rfl) ?_
    refine lv_aload_n hx hb dX3_isWhole_6 rfl (lv_at hl 0 rfl) ?_
    have q_2 : 0 ≤ S.1 o 2 ∧ S.1 o 2 ≤ 12 := hI.fi o 2 3 (mdl_k hm) hm.1
    refine g_X3_19 Cx hW (k := o) (mdl_l hm) hm.1 (v := S.1 o 2) rfl dX3_isWhole_7 ?_
    refine r_icmp_gt (tgt := 26) hx hb ⟨(by omega), (by omega)⟩ ⟨(by omega), (by omega)⟩ dX3_isWhole_10 (by decide) (fun c_3 => ?_) (fun c_3 => ?_)
    · refine lv_iconst (v := iv 0) hx hb dX3_isWhole_26 (by decide) ?_
      exact sZret Cx hr hlk hW hL (by omega) ⟨rfl, (by omega)⟩ dX3_isWhole_27
    · refine lv_aload_n hx hb dX3_isWhole_13 rfl (lv_at hl 0 rfl) ?_
      refine g_X3_15 Cx hW (k := o) (mdl_l hm) hm.1 (v := .ref (G.2.2.1 + (o + 2))) (hI.rq.2.2 o (mdl_k hm) hm.1).2 dX3_isWhole_14 ?_
      refine lv_iload_n hx hb dX3_isWhole_17 rfl (lv_at hl 1 rfl) ?_
      refine rZald Cx hW (k := o + 2) (mdl_l2 hm) hm.2.2.1 (by decide) (by omega) (by omega) dX3_isWhole_18 ?_
      have q_4 : 0 ≤ S.2.1 (o + 2) j ∧ S.2.1 (o + 2) j ≤ 1 := mdl_r2 hm hI j 
      refine r_i (b := S.2.1 (o + 2) j) rfl ?_
      refine r_if_eq (tgt := 26) hx hb ⟨(by omega), (by omega)⟩ dX3_isWhole_19 (by decide) (fun c_5 => ?_) (fun c_5 => ?_)
      · refine lv_iconst (v := iv 0) hx hb dX3_isWhole_26 (by decide) ?_
        exact sZret Cx hr hlk hW hL (by omega) ⟨rfl, (by omega)⟩ dX3_isWhole_27
      · refine lv_iconst (v := iv 1) hx hb dX3_isWhole_22 (by decide) ?_
        refine lv_goto (tgt := 27) hx hb dX3_isWhole_23 (by decide) ?_
        exact sZret Cx hr hlk hW hL (by omega) ⟨rfl, (by omega)⟩ dX3_isWhole_27

set_option maxRecDepth 100000 in
set_option maxHeartbeats 4000000 in
theorem s_X3_isAllWhole (l : Launch) (G : sG) (S : sS) {o : Nat} (hI : cX G S 0 0 0) (hm : mdl o) : Met l yX3_isAllWhole (.code yX3_isAllWhole cX3_isAllWhole 1 (some .boolean) :: tb) (rmk 2 0 0) (sPc G 294 S [.ref (G.2.2.1 + o)]) (sQi G 294 (fun r u => u = S ∧ (0 ≤ r ∧ r ≤ 1))) 0 0 (sF G) := by
  refine sEnter (by decide) (Nat.le_of_ble_eq_true rfl) ?_
  intro p e s m args below meth c Cx hr hlk hnm hW ls hl
  have Cx : sC G p m c cX3_isAllWhole 1 s args RX3 := Cx
  obtain ⟨hx, hb, hml, hown, hts⟩ := id Cx.1
  have hL : sL G [] := sL_nil
  have hl : lv_has ls 1 [(0, .ref (G.2.2.1 + o))] := hl
  have hW0 := hW
  refine lv_aload_n hx hb dX3_isAllWhole_0 rfl (lv_at hl 0 rfl) ?_
  refine sBi (sV (As := []) (rest := []) (k := o) Cx (s_X3_wholes l G S (o := o) hI hm) (c_X3_34 Cx rfl rfl (rmk_ok (by omega) (by decide))) hW (mdl_l hm) hm.1 rfl rfl hl.1 rfl (Nat.le_of_ble_eq_true rfl) dX3_isAllWhole_1 ⟨Nat.le_of_ble_eq_true rfl, Nat.le_of_ble_eq_true rfl⟩) hL (fun r_3 u_1 H locs k_2 hW hL => ?_)
  obtain ⟨eu_1, xu_1⟩ := k_2
  rw [eu_1] at hW
  refine lv_aload_n hx hb dX3_isAllWhole_4 rfl (lv_at hl 0 rfl) ?_
  have q_4 : 0 ≤ S.1 o 2 ∧ S.1 o 2 ≤ 12 := hI.fi o 2 3 (mdl_k hm) hm.1
  refine g_X3_19 Cx hW (k := o) (mdl_l hm) hm.1 (v := S.1 o 2) rfl dX3_isAllWhole_5 ?_
  refine r_icmp_ne (tgt := 15) hx hb ⟨(by omega), (by omega)⟩ ⟨(by omega), (by omega)⟩ dX3_isAllWhole_8 (by decide) (fun c_5 => ?_) (fun c_5 => ?_)
  · refine lv_iconst (v := iv 0) hx hb dX3_isAllWhole_15 (by decide) ?_
    exact sZret Cx hr hlk hW hL (by omega) ⟨rfl, (by omega)⟩ dX3_isAllWhole_16
  · refine lv_iconst (v := iv 1) hx hb dX3_isAllWhole_11 (by decide) ?_
    refine lv_goto (tgt := 16) hx hb dX3_isAllWhole_12 (by decide) ?_
    exact sZret Cx hr hlk hW hL (by omega) ⟨rfl, (by omega)⟩ dX3_isAllWhole_16

set_option maxRecDepth 100000 in
set_option maxHeartbeats 4000000 in
theorem s_X3_isGoalWhole (l : Launch) (G : sG) (S : sS) {o : Nat} (hI : cX G S 0 0 0) (hm : mdl o) : Met l yX3_isGoalWhole (.code yX3_isGoalWhole cX3_isGoalWhole 2 (some .boolean) :: tb) (rmk 2 0 0) (sPc G 294 S [.ref (G.2.2.1 + o)]) (sQi G 294 (fun r u => u = S ∧ (0 ≤ r ∧ r ≤ 1))) 0 0 (sF G) := by
  refine sEnter (by decide) (Nat.le_of_ble_eq_true rfl) ?_
  intro p e s m args below meth c Cx hr hlk hnm hW ls hl
  have Cx : sC G p m c cX3_isGoalWhole 2 s args RX3 := Cx
  obtain ⟨hx, hb, hml, hown, hts⟩ := id Cx.1
  have hL : sL G [] := sL_nil
  have hl : lv_has ls 2 [(0, .ref (G.2.2.1 + o))] := hl
  have hW0 := hW
  refine lv_iconst (v := iv 1) hx hb dX3_isGoalWhole_0 (by decide) ?_
  refine lv_istore_n (lv' := [(1, .int (iv 1)), (0, .ref (G.2.2.1 + o))]) hx hb dX3_isGoalWhole_1 rfl hl (by decide) rfl (fun ls hl => ?_)
  have loop_2 : ∀ (fuel : Nat) (j : Int) (H : Heap) (locs : List Loc) (ls : Array Slot), (13 - j).toNat < fuel → (1 ≤ j ∧ j ≤ 13) → sW G 294 S H → sL G locs → lv_has ls 2 [(1, .int (iv j)), (0, .ref (G.2.2.1 + o))] → W p l e (rmk 2 0 0) s m args below meth c H locs 0 0 (MQ below (sQi G 294 (fun r u => u = S ∧ (0 ≤ r ∧ r ≤ 1))) args s 0 0 (sF G)) (F0 m 2 ls []) := by
    intro fuel
    induction fuel with
    | zero => intro j H locs ls hmeas hj hW hL hl; exact absurd hmeas (Nat.not_lt_zero _)
    | succ fuel ih_2 =>
      intro j H locs ls hmeas hj hW hL hl
      refine lv_iload_n hx hb dX3_isGoalWhole_2 rfl (lv_at hl 0 rfl) ?_
      refine lv_aload_n hx hb dX3_isGoalWhole_3 rfl (lv_at hl 1 rfl) ?_
      have q_1 : 0 ≤ S.1 o 2 ∧ S.1 o 2 ≤ 12 := hI.fi o 2 3 (mdl_k hm) hm.1
      refine g_X3_19 Cx hW (k := o) (mdl_l hm) hm.1 (v := S.1 o 2) rfl dX3_isGoalWhole_4 ?_
      refine r_icmp_gt (tgt := 36) hx hb ⟨(by omega), (by omega)⟩ ⟨(by omega), (by omega)⟩ dX3_isGoalWhole_7 (by decide) (fun c_2 => ?_) (fun c_2 => ?_)
      · refine lv_iconst (v := iv 1) hx hb dX3_isGoalWhole_36 (by decide) ?_
        exact sZret Cx hr hlk hW hL (by omega) ⟨rfl, (by omega)⟩ dX3_isGoalWhole_37
      · refine lv_aload_n hx hb dX3_isGoalWhole_10 rfl (lv_at hl 1 rfl) ?_
        refine lv_iconst (v := iv 0) hx hb dX3_isGoalWhole_11 (by decide) ?_
        refine lv_iload_n hx hb dX3_isGoalWhole_12 rfl (lv_at hl 0 rfl) ?_
        refine sBi (sV (As := [.int (iv 0), .int (iv j)]) (rest := []) (k := o) Cx (s_X3_number l G S (o := o) (k := 0) (j := j) hI hm (by omega) (by omega)) (c_X3_38 Cx rfl rfl (rmk_ok (by omega) (by decide))) hW (mdl_l hm) hm.1 rfl rfl hl.1 rfl (Nat.le_of_ble_eq_true rfl) dX3_isGoalWhole_13 ⟨Nat.le_of_ble_eq_true rfl, Nat.le_of_ble_eq_true rfl⟩) hL (fun r_5 u_3 H locs k_4 hW hL => ?_)
        obtain ⟨eu_3, xu_3⟩ := k_4
        rw [eu_3] at hW
        refine r_if_eq (tgt := 30) hx hb ⟨(by omega), (by omega)⟩ dX3_isGoalWhole_16 (by decide) (fun c_6 => ?_) (fun c_6 => ?_)
        · refine lv_iinc (v := iv (j + 1)) (lv' := [(1, .int (iv (j + 1))), (0, .ref (G.2.2.1 + o))]) hx hb dX3_isGoalWhole_30 hl (k := 0) rfl ((Int32.ofInt_add _ _).symm) (by decide) rfl (fun ls hl => ?_)
          refine lv_goto (tgt := 2) hx hb dX3_isGoalWhole_33 (by decide) ?_
          exact ih_2 (j + 1) _ _ _ (by omega) (by omega) hW hL (lv_sub hl [0, 1] rfl)
        · refine lv_aload_n hx hb dX3_isGoalWhole_19 rfl (lv_at hl 1 rfl) ?_
          refine g_X3_15 Cx hW (k := o) (mdl_l hm) hm.1 (v := .ref (G.2.2.1 + (o + 2))) (hI.rq.2.2 o (mdl_k hm) hm.1).2 dX3_isGoalWhole_20 ?_
          refine lv_iload_n hx hb dX3_isGoalWhole_23 rfl (lv_at hl 0 rfl) ?_
          refine rZald Cx hW (k := o + 2) (mdl_l2 hm) hm.2.2.1 (by decide) (by omega) (by omega) dX3_isGoalWhole_24 ?_
          have q_7 : 0 ≤ S.2.1 (o + 2) j ∧ S.2.1 (o + 2) j ≤ 1 := mdl_r2 hm hI j 
          refine r_i (b := S.2.1 (o + 2) j) rfl ?_
          refine r_if_ne (tgt := 30) hx hb ⟨(by omega), (by omega)⟩ dX3_isGoalWhole_25 (by decide) (fun c_8 => ?_) (fun c_8 => ?_)
          · refine lv_iinc (v := iv (j + 1)) (lv' := [(1, .int (iv (j + 1))), (0, .ref (G.2.2.1 + o))]) hx hb dX3_isGoalWhole_30 hl (k := 0) rfl ((Int32.ofInt_add _ _).symm) (by decide) rfl (fun ls hl => ?_)
            refine lv_goto (tgt := 2) hx hb dX3_isGoalWhole_33 (by decide) ?_
            exact ih_2 (j + 1) _ _ _ (by omega) (by omega) hW hL (lv_sub hl [0, 1] rfl)
          · refine lv_iconst (v := iv 0) hx hb dX3_isGoalWhole_28 (by decide) ?_
            exact sZret Cx hr hlk hW hL (by omega) ⟨rfl, (by omega)⟩ dX3_isGoalWhole_29
  exact loop_2 (_ + 1) 1 _ _ _ (Nat.lt_succ_self _) (by omega) hW hL (lv_sub hl [0, 1] rfl)

set_option maxRecDepth 100000 in
set_option maxHeartbeats 4000000 in
theorem s_X3_addRow (l : Launch) (G : sG) (S : sS) {o q : Nat} {t : Int} (hI : cX G S 0 0 0) (hm : mdl o) (hq : tau q = .inr (.long, 13) ∧ q < 231) (ht : -2147483647 ≤ t ∧ t ≤ 2147483647) : Met l yX3_addRow (.code yX3_addRow cX3_addRow 4 none :: tb) (rmk 2 0 0) (sPc G 294 S [.ref (G.2.2.1 + o), .ref (G.2.2.1 + q), .int (iv t)]) (sQv G 294 (fun u => cX G u 0 0 0 ∧ Fr S u (pM o))) 0 0 (sF G) := by
  refine sEnter (by decide) (Nat.le_of_ble_eq_true rfl) ?_
  intro p e s m args below meth c Cx hr hlk hnm hW ls hl
  have Cx : sC G p m c cX3_addRow 4 s args RX3 := Cx
  obtain ⟨hx, hb, hml, hown, hts⟩ := id Cx.1
  have hL : sL G [] := sL_nil
  have hl : lv_has ls 4 [(0, .ref (G.2.2.1 + o)), (1, .ref (G.2.2.1 + q)), (2, .int (iv t))] := hl
  have hW0 := hW
  refine lv_aload_n hx hb dX3_addRow_0 rfl (lv_at hl 0 rfl) ?_
  have q_1 : 0 ≤ S.1 o 3 ∧ S.1 o 3 ≤ 16 := hI.fi o 3 3 (mdl_k hm) hm.1
  refine g_X3_23 Cx hW (k := o) (mdl_l hm) hm.1 (v := S.1 o 3) rfl dX3_addRow_1 ?_
  refine lv_bipush (v := iv 16) hx hb dX3_addRow_4 (by decide) ?_
  refine r_icmp_lt (tgt := 10) hx hb ⟨(by omega), (by omega)⟩ ⟨(by omega), (by omega)⟩ dX3_addRow_6 (by decide) (fun c_2 => ?_) (fun c_2 => ?_)
  · refine lv_aload_n hx hb dX3_addRow_10 rfl (lv_at hl 0 rfl) ?_
    refine lv_dup hx hb dX3_addRow_11 rfl ?_
    refine g_X3_23 Cx hW (k := o) (mdl_l hm) hm.1 (v := S.1 o 3) rfl dX3_addRow_12 ?_
    refine lv_iconst (v := iv 1) hx hb dX3_addRow_15 (by decide) ?_
    refine r_iadd hx hb dX3_addRow_16 ?_
    refine p_X3_23 Cx hW hL (k := o) (mdl_l hm) hm.1 dX3_addRow_17 (fun H locs hW hL => ?_)
    have F_3 : Fr S (uF S o 3 ((S.1 o 3) + 1)) (pM o) := (Fr.rf : Fr S S (pM o)).F pM_0
    have i_4 : cX G (uF S o 3 ((S.1 o 3) + 1)) 0 0 0 := hI.F hm.1 rfl (show 0 ≤ (S.1 o 3) + 1 ∧ (S.1 o 3) + 1 ≤ 16 from ⟨by omega, by omega⟩)
    refine lv_aload_n hx hb dX3_addRow_20 rfl (lv_at hl 0 rfl) ?_
    refine lv_aload_n hx hb dX3_addRow_21 rfl (lv_at hl 0 rfl) ?_
    refine g_X3_23 Cx hW (k := o) (mdl_l hm) hm.1 (v := (S.1 o 3) + 1) uF_on dX3_addRow_22 ?_
    refine lv_iconst (v := iv 0) hx hb dX3_addRow_25 (by decide) ?_
    refine lv_iload_n hx hb dX3_addRow_26 rfl (lv_at hl 2 rfl) ?_
    refine r_ineg hx hb dX3_addRow_27 ?_
    refine r_i2l hx hb ⟨(by omega), (by omega)⟩ dX3_addRow_28 ?_
    refine lv_aload_n hx hb dX3_addRow_29 rfl (lv_at hl 1 rfl) ?_
    refine lv_iconst (v := iv 0) hx hb dX3_addRow_30 (by decide) ?_
    refine rLald Cx hW (k := q) (Nat.lt_trans hq.2 (by decide)) hq.1 (by decide) (by omega) (by omega) dX3_addRow_31 ?_
    have q_5 : -9223372036854775808 ≤ S.2.2.1 q 0 ∧ S.2.2.1 q 0 ≤ 9223372036854775807 := hI.li q 0 hq.2
    refine r_j (b := S.2.2.1 q 0) uF_l ?_
    refine r_lmul hx hb dX3_addRow_32 ?_
    obtain ⟨z_6, ez_6, hz_6, kz_6⟩ := jv_of (jv ((-t) * (S.2.2.1 q 0)))
    rw [ez_6]
    have q_7 : 0 ≤ S.1 o 2 ∧ S.1 o 2 ≤ 12 := hI.fi o 2 3 (mdl_k hm) hm.1
    have lk_8 : (uF S o 3 ((S.1 o 3) + 1)).1 o 2 = S.1 o 2 := uF_ne (fun h => absurd h.2 (by decide))
    have lk_9 : (uF S o 3 ((S.1 o 3) + 1)).1 o 3 = (S.1 o 3) + 1 := uF_on
    refine sBv (sV (As := [.int (iv ((S.1 o 3) + 1)), .int (iv 0), .long (jv z_6)]) (rest := []) (k := o) Cx (s_X3_setNumber l G (uF S o 3 ((S.1 o 3) + 1)) (o := o) (k := (S.1 o 3) + 1) (j := 0) (v := z_6) i_4 hm (by omega) (by omega)) (c_X3_30 Cx rfl rfl (rmk_ok (by omega) (by decide))) hW (mdl_l hm) hm.1 rfl rfl hl.1 rfl (Nat.le_of_ble_eq_true rfl) dX3_addRow_33 ⟨Nat.le_of_ble_eq_true rfl, Nat.le_of_ble_eq_true rfl⟩) hL (fun u_10 H locs k_11 hW hL => ?_)
    obtain ⟨iu_10, fu_10, xu_10⟩ := k_11
    have F_12 := F_3.trans fu_10
    refine lv_iconst (v := iv 1) hx hb dX3_addRow_36 (by decide) ?_
    refine lv_istore_n (lv' := [(3, .int (iv 1)), (0, .ref (G.2.2.1 + o)), (1, .ref (G.2.2.1 + q)), (2, .int (iv t))]) hx hb dX3_addRow_37 rfl hl (by decide) rfl (fun ls hl => ?_)
    have loop_38 : ∀ (fuel : Nat) (S38 : sS) (j : Int) (H : Heap) (locs : List Loc) (ls : Array Slot), (13 - j).toNat < fuel → (cX G S38 0 0 0) → (Fr S S38 (pM o)) → (Fr u_10 S38 (pM o)) → (1 ≤ j ∧ j ≤ 13) → (1 ≤ S38.1 o 3) → sW G 294 S38 H → sL G locs → lv_has ls 4 [(3, .int (iv j)), (0, .ref (G.2.2.1 + o)), (1, .ref (G.2.2.1 + q)), (2, .int (iv t))] → W p l e (rmk 2 0 0) s m args below meth c H locs 0 0 (MQ below (sQv G 294 (fun u => cX G u 0 0 0 ∧ Fr S u (pM o))) args s 0 0 (sF G)) (F0 m 38 ls []) := by
      intro fuel
      induction fuel with
      | zero => intro S38 j H locs ls hmeas hI38 hFm38 hL38_ hj hr3 hW hL hl; exact absurd hmeas (Nat.not_lt_zero _)
      | succ fuel ih_38 =>
        intro S38 j H locs ls hmeas hI38 hFm38 hL38_ hj hr3 hW hL hl
        refine lv_iload_n hx hb dX3_addRow_38 rfl (lv_at hl 0 rfl) ?_
        refine lv_aload_n hx hb dX3_addRow_39 rfl (lv_at hl 1 rfl) ?_
        have q_13 : 0 ≤ S38.1 o 2 ∧ S38.1 o 2 ≤ 12 := hI38.fi o 2 3 (mdl_k hm) hm.1
        refine g_X3_19 Cx hW (k := o) (mdl_l hm) hm.1 (v := S38.1 o 2) rfl dX3_addRow_40 ?_
        refine r_icmp_gt (tgt := 67) hx hb ⟨(by omega), (by omega)⟩ ⟨(by omega), (by omega)⟩ dX3_addRow_43 (by decide) (fun c_14 => ?_) (fun c_14 => ?_)
        · exact sVret Cx hr hlk hW hL ⟨hI38, hFm38⟩ dX3_addRow_67
        · refine lv_aload_n hx hb dX3_addRow_46 rfl (lv_at hl 1 rfl) ?_
          refine lv_aload_n hx hb dX3_addRow_47 rfl (lv_at hl 1 rfl) ?_
          have q_15 : 0 ≤ S38.1 o 3 ∧ S38.1 o 3 ≤ 16 := hI38.fi o 3 3 (mdl_k hm) hm.1
          refine g_X3_23 Cx hW (k := o) (mdl_l hm) hm.1 (v := S38.1 o 3) rfl dX3_addRow_48 ?_
          refine lv_iload_n hx hb dX3_addRow_51 rfl (lv_at hl 0 rfl) ?_
          refine lv_iload_n hx hb dX3_addRow_52 rfl (lv_at hl 3 rfl) ?_
          refine r_i2l hx hb ⟨(by omega), (by omega)⟩ dX3_addRow_53 ?_
          refine lv_aload_n hx hb dX3_addRow_54 rfl (lv_at hl 2 rfl) ?_
          refine lv_iload_n hx hb dX3_addRow_55 rfl (lv_at hl 0 rfl) ?_
          refine rLald Cx hW (k := q) (Nat.lt_trans hq.2 (by decide)) hq.1 (by decide) (by omega) (by omega) dX3_addRow_56 ?_
          have q_16 : -9223372036854775808 ≤ S.2.2.1 q j ∧ S.2.2.1 q j ≤ 9223372036854775807 := hI.li q j hq.2
          refine r_j (b := S.2.2.1 q j) (((hL38_ q (pM_no (tau_ne hq.1 hm.1 (fun h => by cases h)) (tau_ne hq.1 hm.2.1 (fun h => by cases h)) (tau_ne hq.1 hm.2.2.1 (fun h => by cases h)))).2.2.1 j).trans (((fu_10 q (pM_no (tau_ne hq.1 hm.1 (fun h => by cases h)) (tau_ne hq.1 hm.2.1 (fun h => by cases h)) (tau_ne hq.1 hm.2.2.1 (fun h => by cases h)))).2.2.1 j).trans (uF_l))) ?_
          refine r_lmul hx hb dX3_addRow_57 ?_
          obtain ⟨z_17, ez_17, hz_17, kz_17⟩ := jv_of (jv (t * (S.2.2.1 q j)))
          rw [ez_17]
          refine sBv (sV (As := [.int (iv (S38.1 o 3)), .int (iv j), .long (jv z_17)]) (rest := []) (k := o) Cx (s_X3_setNumber l G S38 (o := o) (k := S38.1 o 3) (j := j) (v := z_17) hI38 hm (by omega) (by omega)) (c_X3_30 Cx rfl rfl (rmk_ok (by omega) (by decide))) hW (mdl_l hm) hm.1 rfl rfl hl.1 rfl (Nat.le_of_ble_eq_true rfl) dX3_addRow_58 ⟨Nat.le_of_ble_eq_true rfl, Nat.le_of_ble_eq_true rfl⟩) hL (fun u_18 H locs k_19 hW hL => ?_)
          obtain ⟨iu_18, fu_18, xu_18⟩ := k_19
          have F_20 := hFm38.trans fu_18
          have F_21 := hL38_.trans fu_18
          refine lv_iinc (v := iv (j + 1)) (lv' := [(3, .int (iv (j + 1))), (0, .ref (G.2.2.1 + o)), (1, .ref (G.2.2.1 + q)), (2, .int (iv t))]) hx hb dX3_addRow_61 hl (k := 0) rfl ((Int32.ofInt_add _ _).symm) (by decide) rfl (fun ls hl => ?_)
          refine lv_goto (tgt := 38) hx hb dX3_addRow_64 (by decide) ?_
          have q_22 : 0 ≤ u_18.1 o 3 ∧ u_18.1 o 3 ≤ 16 := iu_18.fi o 3 3 (mdl_k hm) hm.1
          exact ih_38 u_18 (j + 1) _ _ _ (by omega) iu_18 F_20 F_21 (by omega) (by omega) hW hL (lv_sub hl [0, 1, 2, 3] rfl)
    have q_23 : 0 ≤ u_10.1 o 3 ∧ u_10.1 o 3 ≤ 16 := iu_10.fi o 3 3 (mdl_k hm) hm.1
    exact loop_38 (_ + 1) u_10 1 _ _ _ (Nat.lt_succ_self _) iu_10 F_12 Fr.rf (by omega) (by omega) hW hL (lv_sub hl [0, 1, 2, 3] rfl)
  · exact sVret Cx hr hlk hW hL ⟨hI, (Fr.rf : Fr S S (pM o))⟩ dX3_addRow_9

set_option maxRecDepth 100000 in
set_option maxHeartbeats 4000000 in
theorem s_X3_setGoal (l : Launch) (G : sG) (S : sS) {o q : Nat} {t : Int} (hI : cX G S 0 0 0) (hm : mdl o) (hq : tau q = .inr (.long, 13) ∧ q < 231) (ht : 0 ≤ t ∧ t ≤ 1) : Met l yX3_setGoal (.code yX3_setGoal cX3_setGoal 4 none :: tb) (rmk 2 0 0) (sPc G 294 S [.ref (G.2.2.1 + o), .ref (G.2.2.1 + q), .int (iv t)]) (sQv G 294 (fun u => cX G u 0 0 0 ∧ Fr S u (pM o))) 0 0 (sF G) := by
  refine sEnter (by decide) (Nat.le_of_ble_eq_true rfl) ?_
  intro p e s m args below meth c Cx hr hlk hnm hW ls hl
  have Cx : sC G p m c cX3_setGoal 4 s args RX3 := Cx
  obtain ⟨hx, hb, hml, hown, hts⟩ := id Cx.1
  have hL : sL G [] := sL_nil
  have hl : lv_has ls 4 [(0, .ref (G.2.2.1 + o)), (1, .ref (G.2.2.1 + q)), (2, .int (iv t))] := hl
  have hW0 := hW
  refine lv_aload_n hx hb dX3_setGoal_0 rfl (lv_at hl 0 rfl) ?_
  refine lv_iload_n hx hb dX3_setGoal_1 rfl (lv_at hl 2 rfl) ?_
  refine p_X3_26 Cx hW hL (k := o) (mdl_l hm) hm.1 (by omega) dX3_setGoal_2 (fun H locs hW hL => ?_)
  have F_1 : Fr S (uF S o 4 t) (pM o) := (Fr.rf : Fr S S (pM o)).F pM_0
  have i_2 : cX G (uF S o 4 t) 0 0 0 := hI.F hm.1 rfl (show 0 ≤ t ∧ t ≤ 1 from ⟨by omega, by omega⟩)
  refine lv_iconst (v := iv 0) hx hb dX3_setGoal_5 (by decide) ?_
  refine lv_istore_n (lv' := [(3, .int (iv 0)), (0, .ref (G.2.2.1 + o)), (1, .ref (G.2.2.1 + q)), (2, .int (iv t))]) hx hb dX3_setGoal_6 rfl hl (by decide) rfl (fun ls hl => ?_)
  have loop_7 : ∀ (fuel : Nat) (S7 : sS) (j : Int) (H : Heap) (locs : List Loc) (ls : Array Slot), (13 - j).toNat < fuel → (cX G S7 0 0 0) → (Fr S S7 (pM o)) → (Fr ((uF S o 4 t)) S7 (pM o)) → (0 ≤ j ∧ j ≤ 13) → sW G 294 S7 H → sL G locs → lv_has ls 4 [(3, .int (iv j)), (0, .ref (G.2.2.1 + o)), (1, .ref (G.2.2.1 + q)), (2, .int (iv t))] → W p l e (rmk 2 0 0) s m args below meth c H locs 0 0 (MQ below (sQv G 294 (fun u => cX G u 0 0 0 ∧ Fr S u (pM o))) args s 0 0 (sF G)) (F0 m 7 ls []) := by
    intro fuel
    induction fuel with
    | zero => intro S7 j H locs ls hmeas hI7 hFm7 hL7_ hj hW hL hl; exact absurd hmeas (Nat.not_lt_zero _)
    | succ fuel ih_7 =>
      intro S7 j H locs ls hmeas hI7 hFm7 hL7_ hj hW hL hl
      refine lv_iload_n hx hb dX3_setGoal_7 rfl (lv_at hl 0 rfl) ?_
      refine lv_aload_n hx hb dX3_setGoal_8 rfl (lv_at hl 1 rfl) ?_
      have q_3 : 0 ≤ S7.1 o 2 ∧ S7.1 o 2 ≤ 12 := hI7.fi o 2 3 (mdl_k hm) hm.1
      refine g_X3_19 Cx hW (k := o) (mdl_l hm) hm.1 (v := S7.1 o 2) rfl dX3_setGoal_9 ?_
      refine r_icmp_gt (tgt := 41) hx hb ⟨(by omega), (by omega)⟩ ⟨(by omega), (by omega)⟩ dX3_setGoal_12 (by decide) (fun c_4 => ?_) (fun c_4 => ?_)
      · exact sVret Cx hr hlk hW hL ⟨hI7, hFm7⟩ dX3_setGoal_41
      · refine lv_aload_n hx hb dX3_setGoal_15 rfl (lv_at hl 1 rfl) ?_
        refine lv_iconst (v := iv 0) hx hb dX3_setGoal_16 (by decide) ?_
        refine lv_iload_n hx hb dX3_setGoal_17 rfl (lv_at hl 0 rfl) ?_
        refine lv_iload_n hx hb dX3_setGoal_18 rfl (lv_at hl 3 rfl) ?_
        refine r_if_eq (tgt := 28) hx hb ⟨(by omega), (by omega)⟩ dX3_setGoal_19 (by decide) (fun c_5 => ?_) (fun c_5 => ?_)
        · refine lv_aload_n hx hb dX3_setGoal_28 rfl (lv_at hl 2 rfl) ?_
          refine lv_iload_n hx hb dX3_setGoal_29 rfl (lv_at hl 0 rfl) ?_
          refine rLald Cx hW (k := q) (Nat.lt_trans hq.2 (by decide)) hq.1 (by decide) (by omega) (by omega) dX3_setGoal_30 ?_
          have q_6 : -9223372036854775808 ≤ S.2.2.1 q j ∧ S.2.2.1 q j ≤ 9223372036854775807 := hI.li q j hq.2
          refine r_j (b := S.2.2.1 q j) (((hL7_ q (pM_no (tau_ne hq.1 hm.1 (fun h => by cases h)) (tau_ne hq.1 hm.2.1 (fun h => by cases h)) (tau_ne hq.1 hm.2.2.1 (fun h => by cases h)))).2.2.1 j).trans (uF_l)) ?_
          refine r_lneg hx hb dX3_setGoal_31 ?_
          obtain ⟨z_7, ez_7, hz_7, kz_7⟩ := jv_of (jv (-(S.2.2.1 q j)))
          rw [ez_7]
          have q_8 : 0 ≤ S7.1 o 3 ∧ S7.1 o 3 ≤ 16 := hI7.fi o 3 3 (mdl_k hm) hm.1
          refine sBv (sV (As := [.int (iv 0), .int (iv j), .long (jv z_7)]) (rest := []) (k := o) Cx (s_X3_setNumber l G S7 (o := o) (k := 0) (j := j) (v := z_7) hI7 hm (by omega) (by omega)) (c_X3_30 Cx rfl rfl (rmk_ok (by omega) (by decide))) hW (mdl_l hm) hm.1 rfl rfl hl.1 rfl (Nat.le_of_ble_eq_true rfl) dX3_setGoal_32 ⟨Nat.le_of_ble_eq_true rfl, Nat.le_of_ble_eq_true rfl⟩) hL (fun u_9 H locs k_10 hW hL => ?_)
          obtain ⟨iu_9, fu_9, xu_9⟩ := k_10
          have F_11 := hFm7.trans fu_9
          have F_12 := hL7_.trans fu_9
          refine lv_iinc (v := iv (j + 1)) (lv' := [(3, .int (iv (j + 1))), (0, .ref (G.2.2.1 + o)), (1, .ref (G.2.2.1 + q)), (2, .int (iv t))]) hx hb dX3_setGoal_35 hl (k := 0) rfl ((Int32.ofInt_add _ _).symm) (by decide) rfl (fun ls hl => ?_)
          refine lv_goto (tgt := 7) hx hb dX3_setGoal_38 (by decide) ?_
          exact ih_7 u_9 (j + 1) _ _ _ (by omega) iu_9 F_11 F_12 (by omega) hW hL (lv_sub hl [0, 1, 2, 3] rfl)
        · refine lv_aload_n hx hb dX3_setGoal_22 rfl (lv_at hl 2 rfl) ?_
          refine lv_iload_n hx hb dX3_setGoal_23 rfl (lv_at hl 0 rfl) ?_
          refine rLald Cx hW (k := q) (Nat.lt_trans hq.2 (by decide)) hq.1 (by decide) (by omega) (by omega) dX3_setGoal_24 ?_
          have q_13 : -9223372036854775808 ≤ S.2.2.1 q j ∧ S.2.2.1 q j ≤ 9223372036854775807 := hI.li q j hq.2
          refine r_j (b := S.2.2.1 q j) (((hL7_ q (pM_no (tau_ne hq.1 hm.1 (fun h => by cases h)) (tau_ne hq.1 hm.2.1 (fun h => by cases h)) (tau_ne hq.1 hm.2.2.1 (fun h => by cases h)))).2.2.1 j).trans (uF_l)) ?_
          refine lv_goto (tgt := 32) hx hb dX3_setGoal_25 (by decide) ?_
          have q_14 : 0 ≤ S7.1 o 3 ∧ S7.1 o 3 ≤ 16 := hI7.fi o 3 3 (mdl_k hm) hm.1
          refine sBv (sV (As := [.int (iv 0), .int (iv j), .long (jv (S.2.2.1 q j))]) (rest := []) (k := o) Cx (s_X3_setNumber l G S7 (o := o) (k := 0) (j := j) (v := S.2.2.1 q j) hI7 hm (by omega) (by omega)) (c_X3_30 Cx rfl rfl (rmk_ok (by omega) (by decide))) hW (mdl_l hm) hm.1 rfl rfl hl.1 rfl (Nat.le_of_ble_eq_true rfl) dX3_setGoal_32 ⟨Nat.le_of_ble_eq_true rfl, Nat.le_of_ble_eq_true rfl⟩) hL (fun u_15 H locs k_16 hW hL => ?_)
          obtain ⟨iu_15, fu_15, xu_15⟩ := k_16
          have F_17 := hFm7.trans fu_15
          have F_18 := hL7_.trans fu_15
          refine lv_iinc (v := iv (j + 1)) (lv' := [(3, .int (iv (j + 1))), (0, .ref (G.2.2.1 + o)), (1, .ref (G.2.2.1 + q)), (2, .int (iv t))]) hx hb dX3_setGoal_35 hl (k := 0) rfl ((Int32.ofInt_add _ _).symm) (by decide) rfl (fun ls hl => ?_)
          refine lv_goto (tgt := 7) hx hb dX3_setGoal_38 (by decide) ?_
          exact ih_7 u_15 (j + 1) _ _ _ (by omega) iu_15 F_17 F_18 (by omega) hW hL (lv_sub hl [0, 1, 2, 3] rfl)
  exact loop_7 (_ + 1) (uF S o 4 t) 0 _ _ _ (Nat.lt_succ_self _) i_2 F_1 Fr.rf (by omega) hW hL (lv_sub hl [0, 1, 2, 3] rfl)
