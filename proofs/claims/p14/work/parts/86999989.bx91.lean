def wct (f : Int → Int) : Nat → Int
  | 0 => 0
  | n + 1 => wct f n + f ((n + 1 : Nat) : Int)
theorem wct_st {f : Int → Int} {j : Int} (h : 1 ≤ j) : wct f (j + 1 - 1).toNat = wct f (j - 1).toNat + f j := by
  rw [show (j + 1 - 1).toNat = (j - 1).toNat + 1 by omega]
  show wct f (j - 1).toNat + f (((j - 1).toNat + 1 : Nat) : Int) = _
  rw [show (((j - 1).toNat + 1 : Nat) : Int) = j by omega]
/-- a model by its numbers -/
def MDv (S : sS) (o : Nat) (n m mx : Int) (A : Int → Int → Int) (wh : Int → Int) : Prop := S.1 o 2 = n ∧ S.1 o 3 = m ∧ S.1 o 4 = mx ∧ (∀ k j, 0 ≤ k → k ≤ m → 0 ≤ j → j ≤ n → S.2.1 (o + 1) (k * 13 + j) = A k j) ∧ ∀ j, 1 ≤ j → j ≤ n → S.2.1 (o + 2) j = wh j
theorem MDv.of {S u : sS} {o : Nat} {n m mx : Int} {A : Int → Int → Int} {wh : Int → Int} (h : MDv S o n m mx A wh) (e2 : u.1 o 2 = S.1 o 2) (e3 : u.1 o 3 = S.1 o 3) (e4 : u.1 o 4 = S.1 o 4) (a1 : u.2.1 (o + 1) = S.2.1 (o + 1)) (a2 : u.2.1 (o + 2) = S.2.1 (o + 2)) : MDv u o n m mx A wh := by
  unfold MDv; rw [e2, e3, e4, a1, a2]; exact h
theorem wct_cg {f g : Int → Int} : ∀ n : Nat, (∀ j : Int, 1 ≤ j → j ≤ n → g j = f j) → wct g n = wct f n := by
  intro n
  induction n with
  | zero => intro _; rfl
  | succ n ih =>
    intro h
    show wct g n + g ((n + 1 : Nat) : Int) = wct f n + f ((n + 1 : Nat) : Int)
    rw [ih (fun j a b => h j a (by omega)), h _ (by omega) (by omega)]
set_option maxRecDepth 100000 in
set_option maxHeartbeats 4000000 in
theorem b_X3_number (l : Launch) (G : sG) (S : sS) {o : Nat} {k j : Int} (hI : cX G S 0 0 0) (hm : mdl o) (hk : 0 ≤ k ∧ k ≤ 16) (hj : 0 ≤ j ∧ j ≤ 12) : Met l yX3_number (.code yX3_number cX3_number 3 (some .int) :: tb) (rmk 1 0 0) (sPc G 294 S [.ref (G.2.2.1 + o), .int (iv k), .int (iv j)]) (sQi G 294 (fun r u => u = S ∧ (r = S.2.1 (o + 1) (k * 13 + j) ∧ -2147483648 ≤ r ∧ r ≤ 2147483647))) 0 0 (sF G) := by
  refine sEnter (by decide) (Nat.le_of_ble_eq_true rfl) ?_
  intro p e s m args below meth c Cx hr hlk hnm hW ls hl
  have Cx : sC G p m c cX3_number 3 s args RX3 := Cx
  obtain ⟨hx, hb, hml, hown, hts⟩ := id Cx.1
  have hL : sL G [] := sL_nil
  have hl : lv_has ls 3 [(0, .ref (G.2.2.1 + o)), (1, .int (iv k)), (2, .int (iv j))] := hl
  have hW0 := hW
  refine lv_aload_n hx hb dX3_number_0 rfl (lv_at hl 0 rfl) ?_
  refine g_X3_11 Cx hW (k := o) (mdl_l hm) hm.1 (v := .ref (G.2.2.1 + (o + 1))) (hI.rq.2.2 o (mdl_k hm) hm.1).1 dX3_number_1 ?_
  refine lv_iload_n hx hb dX3_number_4 rfl (lv_at hl 1 rfl) ?_
  refine lv_bipush (v := iv 13) hx hb dX3_number_5 (by decide) ?_
  refine r_imul hx hb dX3_number_7 ?_
  refine lv_iload_n hx hb dX3_number_8 rfl (lv_at hl 2 rfl) ?_
  refine r_iadd hx hb dX3_number_9 ?_
  refine rIald Cx hW (k := o + 1) (mdl_l1 hm) hm.2.1 (by decide) (by omega) (by omega) dX3_number_10 ?_
  have q_1 : (-2147483648) ≤ S.2.1 (o + 1) ((k * 13) + j) ∧ S.2.1 (o + 1) ((k * 13) + j) ≤ 2147483647 := mdl_r1 hm hI ((k * 13) + j) 
  refine r_i (b := S.2.1 (o + 1) ((k * 13) + j)) rfl ?_
  exact sIret Cx hr hlk hW hL ⟨rfl, ⟨(show S.2.1 (o + 1) ((k * 13) + j) = _ from rfl), by omega, by omega⟩⟩ dX3_number_11

set_option maxRecDepth 100000 in
set_option maxHeartbeats 4000000 in
theorem b_X3_wholes (l : Launch) (G : sG) (S : sS) {o : Nat} (hI : cX G S 0 0 0) (hm : mdl o) : Met l yX3_wholes (.code yX3_wholes cX3_wholes 3 (some .int) :: tb) (rmk 1 0 0) (sPc G 294 S [.ref (G.2.2.1 + o)]) (sQi G 294 (fun r u => u = S ∧ (0 ≤ r ∧ r ≤ 12 ∧ Hd (r = wct (S.2.1 (o + 2)) (S.1 o 2).toNat)))) 0 0 (sF G) := by
  refine sEnter (by decide) (Nat.le_of_ble_eq_true rfl) ?_
  intro p e s m args below meth c Cx hr hlk hnm hW ls hl
  have Cx : sC G p m c cX3_wholes 3 s args RX3 := Cx
  obtain ⟨hx, hb, hml, hown, hts⟩ := id Cx.1
  have hL : sL G [] := sL_nil
  have hl : lv_has ls 3 [(0, .ref (G.2.2.1 + o))] := hl
  have hW0 := hW
  have hv12 : 0 ≤ S.1 o 2 ∧ S.1 o 2 ≤ 12 := hI.fi o 2 3 (mdl_k hm) hm.1
  refine lv_iconst (v := iv 0) hx hb dX3_wholes_0 (by decide) ?_
  refine lv_istore_n (lv' := [(1, .int (iv 0)), (0, .ref (G.2.2.1 + o))]) hx hb dX3_wholes_1 rfl hl (by decide) rfl (fun ls hl => ?_)
  refine lv_iconst (v := iv 1) hx hb dX3_wholes_2 (by decide) ?_
  refine lv_istore_n (lv' := [(2, .int (iv 1)), (1, .int (iv 0)), (0, .ref (G.2.2.1 + o))]) hx hb dX3_wholes_3 rfl hl (by decide) rfl (fun ls hl => ?_)
  have loop_4 : ∀ (fuel : Nat) (j : Int) (f : Int) (H : Heap) (locs : List Loc) (ls : Array Slot), (13 - j).toNat < fuel → (1 ≤ j ∧ j ≤ 13) → (0 ≤ f ∧ f < j) → (j ≤ S.1 o 2 + 1) → (Hd (f = wct (S.2.1 (o + 2)) (j - 1).toNat)) → sW G 294 S H → sL G locs → lv_has ls 3 [(2, .int (iv j)), (1, .int (iv f)), (0, .ref (G.2.2.1 + o))] → W p l e (rmk 1 0 0) s m args below meth c H locs 0 0 (MQ below (sQi G 294 (fun r u => u = S ∧ (0 ≤ r ∧ r ≤ 12 ∧ Hd (r = wct (S.2.1 (o + 2)) (S.1 o 2).toNat)))) args s 0 0 (sF G)) (F0 m 4 ls []) := by
    intro fuel
    induction fuel with
    | zero => intro j f H locs ls hmeas hj hf hjn hw hW hL hl; exact absurd hmeas (Nat.not_lt_zero _)
    | succ fuel ih_4 =>
      intro j f H locs ls hmeas hj hf hjn hw hW hL hl
      refine lv_iload_n hx hb dX3_wholes_4 rfl (lv_at hl 0 rfl) ?_
      refine lv_aload_n hx hb dX3_wholes_5 rfl (lv_at hl 2 rfl) ?_
      have q_1 : 0 ≤ S.1 o 2 ∧ S.1 o 2 ≤ 12 := hI.fi o 2 3 (mdl_k hm) hm.1
      refine g_X3_19 Cx hW (k := o) (mdl_l hm) hm.1 (v := S.1 o 2) rfl dX3_wholes_6 ?_
      refine r_icmp_gt (tgt := 30) hx hb ⟨(by omega), (by omega)⟩ ⟨(by omega), (by omega)⟩ dX3_wholes_9 (by decide) (fun c_2 => ?_) (fun c_2 => ?_)
      · refine lv_iload_n hx hb dX3_wholes_30 rfl (lv_at hl 1 rfl) ?_
        exact sIret Cx hr hlk hW hL ⟨rfl, ⟨by omega, by omega, (show _ = _ by rw [show S.1 o 2 = j - 1 by omega]; exact hw)⟩⟩ dX3_wholes_31
      · refine lv_aload_n hx hb dX3_wholes_12 rfl (lv_at hl 2 rfl) ?_
        refine g_X3_15 Cx hW (k := o) (mdl_l hm) hm.1 (v := .ref (G.2.2.1 + (o + 2))) (hI.rq.2.2 o (mdl_k hm) hm.1).2 dX3_wholes_13 ?_
        refine lv_iload_n hx hb dX3_wholes_16 rfl (lv_at hl 0 rfl) ?_
        refine rZald Cx hW (k := o + 2) (mdl_l2 hm) hm.2.2.1 (by decide) (by omega) (by omega) dX3_wholes_17 ?_
        have q_3 : 0 ≤ S.2.1 (o + 2) j ∧ S.2.1 (o + 2) j ≤ 1 := mdl_r2 hm hI j 
        refine r_i (b := S.2.1 (o + 2) j) rfl ?_
        refine r_if_eq (tgt := 24) hx hb ⟨(by omega), (by omega)⟩ dX3_wholes_18 (by decide) (fun c_4 => ?_) (fun c_4 => ?_)
        · refine lv_iinc (v := iv (j + 1)) (lv' := [(2, .int (iv (j + 1))), (1, .int (iv f)), (0, .ref (G.2.2.1 + o))]) hx hb dX3_wholes_24 hl (k := 0) rfl ((Int32.ofInt_add _ _).symm) (by decide) rfl (fun ls hl => ?_)
          refine lv_goto (tgt := 4) hx hb dX3_wholes_27 (by decide) ?_
          exact ih_4 (j + 1) f _ _ _ (by omega) (by omega) (by omega) (by omega) (show _ = _ by rw [wct_st (by omega), ← (show f = _ from hw)]; omega) hW hL (lv_sub hl [0, 1, 2] rfl)
        · refine lv_iinc (v := iv (f + 1)) (lv' := [(1, .int (iv (f + 1))), (2, .int (iv j)), (0, .ref (G.2.2.1 + o))]) hx hb dX3_wholes_21 hl (k := 1) rfl ((Int32.ofInt_add _ _).symm) (by decide) rfl (fun ls hl => ?_)
          refine lv_iinc (v := iv (j + 1)) (lv' := [(2, .int (iv (j + 1))), (1, .int (iv (f + 1))), (0, .ref (G.2.2.1 + o))]) hx hb dX3_wholes_24 hl (k := 1) rfl ((Int32.ofInt_add _ _).symm) (by decide) rfl (fun ls hl => ?_)
          refine lv_goto (tgt := 4) hx hb dX3_wholes_27 (by decide) ?_
          exact ih_4 (j + 1) (f + 1) _ _ _ (by omega) (by omega) (by omega) (by omega) (show _ = _ by rw [wct_st (by omega), ← (show f = _ from hw)]; omega) hW hL (lv_sub hl [0, 1, 2] rfl)
  exact loop_4 (_ + 1) 1 0 _ _ _ (Nat.lt_succ_self _) (by omega) (by omega) (by omega) (show (0 : Int) = _ from rfl) hW hL (lv_sub hl [0, 1, 2] rfl)

set_option maxRecDepth 100000 in
set_option maxHeartbeats 4000000 in
theorem b_X3_isWhole (l : Launch) (G : sG) (S : sS) {o : Nat} {j : Int} (hI : cX G S 0 0 0) (hm : mdl o) (hj : -2147483648 ≤ j ∧ j ≤ 2147483647) : Met l yX3_isWhole (.code yX3_isWhole cX3_isWhole 2 (some .boolean) :: tb) (rmk 1 0 0) (sPc G 294 S [.ref (G.2.2.1 + o), .int (iv j)]) (sQi G 294 (fun r u => u = S ∧ (0 ≤ r ∧ r ≤ 1 ∧ (r = 1 → 1 ≤ j ∧ j ≤ S.1 o 2) ∧ Hd (r = 1 ↔ 1 ≤ j ∧ j ≤ S.1 o 2 ∧ S.2.1 (o + 2) j = 1)))) 0 0 (sF G) := by
  refine sEnter (by decide) (Nat.le_of_ble_eq_true rfl) ?_
  intro p e s m args below meth c Cx hr hlk hnm hW ls hl
  have Cx : sC G p m c cX3_isWhole 2 s args RX3 := Cx
  obtain ⟨hx, hb, hml, hown, hts⟩ := id Cx.1
  have hL : sL G [] := sL_nil
  have hl : lv_has ls 2 [(0, .ref (G.2.2.1 + o)), (1, .int (iv j))] := hl
  have hW0 := hW
  refine lv_iload_n hx hb dX3_isWhole_0 rfl (lv_at hl 1 rfl) ?_
  refine lv_iconst (v := iv 1) hx hb dX3_isWhole_1 (by decide) ?_
  refine r_icmp_lt (tgt := 26) hx hb ⟨(by omega), (by omega)⟩ ⟨(by omega), (by omega)⟩ dX3_isWhole_2 (by decide) (fun c_1 => ?_) (fun c_1 => ?_)
  · refine lv_iconst (v := iv 0) hx hb dX3_isWhole_26 (by decide) ?_
    exact sZret Cx hr hlk hW hL (by omega) ⟨rfl, ⟨by omega, by omega, by omega, (show _ ↔ _ by omega)⟩⟩ dX3_isWhole_27
  · refine lv_iload_n hx hb dX3_isWhole_5 rfl (lv_at hl 1 rfl) ?_
    refine lv_aload_n hx hb dX3_isWhole_6 rfl (lv_at hl 0 rfl) ?_
    have q_2 : 0 ≤ S.1 o 2 ∧ S.1 o 2 ≤ 12 := hI.fi o 2 3 (mdl_k hm) hm.1
    refine g_X3_19 Cx hW (k := o) (mdl_l hm) hm.1 (v := S.1 o 2) rfl dX3_isWhole_7 ?_
    refine r_icmp_gt (tgt := 26) hx hb ⟨(by omega), (by omega)⟩ ⟨(by omega), (by omega)⟩ dX3_isWhole_10 (by decide) (fun c_3 => ?_) (fun c_3 => ?_)
    · refine lv_iconst (v := iv 0) hx hb dX3_isWhole_26 (by decide) ?_
      exact sZret Cx hr hlk hW hL (by omega) ⟨rfl, ⟨by omega, by omega, by omega, (show _ ↔ _ by omega)⟩⟩ dX3_isWhole_27
    · refine lv_aload_n hx hb dX3_isWhole_13 rfl (lv_at hl 0 rfl) ?_
      refine g_X3_15 Cx hW (k := o) (mdl_l hm) hm.1 (v := .ref (G.2.2.1 + (o + 2))) (hI.rq.2.2 o (mdl_k hm) hm.1).2 dX3_isWhole_14 ?_
      refine lv_iload_n hx hb dX3_isWhole_17 rfl (lv_at hl 1 rfl) ?_
      refine rZald Cx hW (k := o + 2) (mdl_l2 hm) hm.2.2.1 (by decide) (by omega) (by omega) dX3_isWhole_18 ?_
      have q_4 : 0 ≤ S.2.1 (o + 2) j ∧ S.2.1 (o + 2) j ≤ 1 := mdl_r2 hm hI j 
      refine r_i (b := S.2.1 (o + 2) j) rfl ?_
      refine r_if_eq (tgt := 26) hx hb ⟨(by omega), (by omega)⟩ dX3_isWhole_19 (by decide) (fun c_5 => ?_) (fun c_5 => ?_)
      · refine lv_iconst (v := iv 0) hx hb dX3_isWhole_26 (by decide) ?_
        exact sZret Cx hr hlk hW hL (by omega) ⟨rfl, ⟨by omega, by omega, by omega, (show _ ↔ _ by omega)⟩⟩ dX3_isWhole_27
      · refine lv_iconst (v := iv 1) hx hb dX3_isWhole_22 (by decide) ?_
        refine lv_goto (tgt := 27) hx hb dX3_isWhole_23 (by decide) ?_
        exact sZret Cx hr hlk hW hL (by omega) ⟨rfl, ⟨by omega, by omega, by omega, (show _ ↔ _ by omega)⟩⟩ dX3_isWhole_27

set_option maxRecDepth 100000 in
set_option maxHeartbeats 4000000 in
theorem b_X3_isAllWhole (l : Launch) (G : sG) (S : sS) {o : Nat} (hI : cX G S 0 0 0) (hm : mdl o) : Met l yX3_isAllWhole (.code yX3_isAllWhole cX3_isAllWhole 1 (some .boolean) :: tb) (rmk 2 0 0) (sPc G 294 S [.ref (G.2.2.1 + o)]) (sQi G 294 (fun r u => u = S ∧ (0 ≤ r ∧ r ≤ 1 ∧ Hd (r = 1 ↔ wct (S.2.1 (o + 2)) (S.1 o 2).toNat = S.1 o 2)))) 0 0 (sF G) := by
  refine sEnter (by decide) (Nat.le_of_ble_eq_true rfl) ?_
  intro p e s m args below meth c Cx hr hlk hnm hW ls hl
  have Cx : sC G p m c cX3_isAllWhole 1 s args RX3 := Cx
  obtain ⟨hx, hb, hml, hown, hts⟩ := id Cx.1
  have hL : sL G [] := sL_nil
  have hl : lv_has ls 1 [(0, .ref (G.2.2.1 + o))] := hl
  have hW0 := hW
  refine lv_aload_n hx hb dX3_isAllWhole_0 rfl (lv_at hl 0 rfl) ?_
  have q_1 : 0 ≤ S.1 o 2 ∧ S.1 o 2 ≤ 12 := hI.fi o 2 3 (mdl_k hm) hm.1
  refine sBi (sV (As := []) (rest := []) (k := o) Cx (b_X3_wholes l G S (o := o) hI hm) (c_X3_34 Cx rfl rfl (rmk_ok (by omega) (by decide))) hW (mdl_l hm) hm.1 rfl rfl hl.1 rfl (Nat.le_of_ble_eq_true rfl) dX3_isAllWhole_1 ⟨Nat.le_of_ble_eq_true rfl, Nat.le_of_ble_eq_true rfl⟩) hL (fun r_4 u_2 H locs k_3 hW hL => ?_)
  obtain ⟨eu_2, xu_2⟩ := k_3
  rw [eu_2] at hW
  refine lv_aload_n hx hb dX3_isAllWhole_4 rfl (lv_at hl 0 rfl) ?_
  refine g_X3_19 Cx hW (k := o) (mdl_l hm) hm.1 (v := S.1 o 2) rfl dX3_isAllWhole_5 ?_
  refine r_icmp_ne (tgt := 15) hx hb ⟨(by omega), (by omega)⟩ ⟨(by omega), (by omega)⟩ dX3_isAllWhole_8 (by decide) (fun c_5 => ?_) (fun c_5 => ?_)
  · refine lv_iconst (v := iv 0) hx hb dX3_isAllWhole_15 (by decide) ?_
    exact sZret Cx hr hlk hW hL (by omega) ⟨rfl, ⟨by omega, by omega, (show _ ↔ _ by rw [← (show r_4 = _ from xu_2.2.2)]; omega)⟩⟩ dX3_isAllWhole_16
  · refine lv_iconst (v := iv 1) hx hb dX3_isAllWhole_11 (by decide) ?_
    refine lv_goto (tgt := 16) hx hb dX3_isAllWhole_12 (by decide) ?_
    exact sZret Cx hr hlk hW hL (by omega) ⟨rfl, ⟨by omega, by omega, (show _ ↔ _ by rw [← (show r_4 = _ from xu_2.2.2)]; omega)⟩⟩ dX3_isAllWhole_16

set_option maxRecDepth 100000 in
set_option maxHeartbeats 4000000 in
theorem b_X3_isGoalWhole (l : Launch) (G : sG) (S : sS) {o : Nat} (hI : cX G S 0 0 0) (hm : mdl o) : Met l yX3_isGoalWhole (.code yX3_isGoalWhole cX3_isGoalWhole 2 (some .boolean) :: tb) (rmk 2 0 0) (sPc G 294 S [.ref (G.2.2.1 + o)]) (sQi G 294 (fun r u => u = S ∧ (0 ≤ r ∧ r ≤ 1 ∧ Hd (r = 1 ↔ ∀ i, 1 ≤ i → i ≤ S.1 o 2 → S.2.1 (o + 1) (0 * 13 + i) ≠ 0 → S.2.1 (o + 2) i = 1)))) 0 0 (sF G) := by
  refine sEnter (by decide) (Nat.le_of_ble_eq_true rfl) ?_
  intro p e s m args below meth c Cx hr hlk hnm hW ls hl
  have Cx : sC G p m c cX3_isGoalWhole 2 s args RX3 := Cx
  obtain ⟨hx, hb, hml, hown, hts⟩ := id Cx.1
  have hL : sL G [] := sL_nil
  have hl : lv_has ls 2 [(0, .ref (G.2.2.1 + o))] := hl
  have hW0 := hW
  refine lv_iconst (v := iv 1) hx hb dX3_isGoalWhole_0 (by decide) ?_
  refine lv_istore_n (lv' := [(1, .int (iv 1)), (0, .ref (G.2.2.1 + o))]) hx hb dX3_isGoalWhole_1 rfl hl (by decide) rfl (fun ls hl => ?_)
  have loop_2 : ∀ (fuel : Nat) (j : Int) (H : Heap) (locs : List Loc) (ls : Array Slot), (13 - j).toNat < fuel → (1 ≤ j ∧ j ≤ 13) → (Hd (∀ i, 1 ≤ i → i < j → S.2.1 (o + 1) (0 * 13 + i) ≠ 0 → S.2.1 (o + 2) i = 1)) → sW G 294 S H → sL G locs → lv_has ls 2 [(1, .int (iv j)), (0, .ref (G.2.2.1 + o))] → W p l e (rmk 2 0 0) s m args below meth c H locs 0 0 (MQ below (sQi G 294 (fun r u => u = S ∧ (0 ≤ r ∧ r ≤ 1 ∧ Hd (r = 1 ↔ ∀ i, 1 ≤ i → i ≤ S.1 o 2 → S.2.1 (o + 1) (0 * 13 + i) ≠ 0 → S.2.1 (o + 2) i = 1)))) args s 0 0 (sF G)) (F0 m 2 ls []) := by
    intro fuel
    induction fuel with
    | zero => intro j H locs ls hmeas hj hg hW hL hl; exact absurd hmeas (Nat.not_lt_zero _)
    | succ fuel ih_2 =>
      intro j H locs ls hmeas hj hg hW hL hl
      refine lv_iload_n hx hb dX3_isGoalWhole_2 rfl (lv_at hl 0 rfl) ?_
      refine lv_aload_n hx hb dX3_isGoalWhole_3 rfl (lv_at hl 1 rfl) ?_
      have q_1 : 0 ≤ S.1 o 2 ∧ S.1 o 2 ≤ 12 := hI.fi o 2 3 (mdl_k hm) hm.1
      refine g_X3_19 Cx hW (k := o) (mdl_l hm) hm.1 (v := S.1 o 2) rfl dX3_isGoalWhole_4 ?_
      refine r_icmp_gt (tgt := 36) hx hb ⟨(by omega), (by omega)⟩ ⟨(by omega), (by omega)⟩ dX3_isGoalWhole_7 (by decide) (fun c_2 => ?_) (fun c_2 => ?_)
      · refine lv_iconst (v := iv 1) hx hb dX3_isGoalWhole_36 (by decide) ?_
        exact sZret Cx hr hlk hW hL (by omega) ⟨rfl, ⟨by omega, by omega, (show _ ↔ _ from ⟨fun _ i a b => hg i a (by omega), fun _ => rfl⟩)⟩⟩ dX3_isGoalWhole_37
      · refine lv_aload_n hx hb dX3_isGoalWhole_10 rfl (lv_at hl 1 rfl) ?_
        refine lv_iconst (v := iv 0) hx hb dX3_isGoalWhole_11 (by decide) ?_
        refine lv_iload_n hx hb dX3_isGoalWhole_12 rfl (lv_at hl 0 rfl) ?_
        refine sBi (sV (As := [.int (iv 0), .int (iv j)]) (rest := []) (k := o) Cx (b_X3_number l G S (o := o) (k := 0) (j := j) hI hm (by omega) (by omega)) (c_X3_38 Cx rfl rfl (rmk_ok (by omega) (by decide))) hW (mdl_l hm) hm.1 rfl rfl hl.1 rfl (Nat.le_of_ble_eq_true rfl) dX3_isGoalWhole_13 ⟨Nat.le_of_ble_eq_true rfl, Nat.le_of_ble_eq_true rfl⟩) hL (fun r_5 u_3 H locs k_4 hW hL => ?_)
        obtain ⟨eu_3, xu_3⟩ := k_4
        rw [eu_3] at hW
        refine r_if_eq (tgt := 30) hx hb ⟨(by omega), (by omega)⟩ dX3_isGoalWhole_16 (by decide) (fun c_6 => ?_) (fun c_6 => ?_)
        · refine lv_iinc (v := iv (j + 1)) (lv' := [(1, .int (iv (j + 1))), (0, .ref (G.2.2.1 + o))]) hx hb dX3_isGoalWhole_30 hl (k := 0) rfl ((Int32.ofInt_add _ _).symm) (by decide) rfl (fun ls hl => ?_)
          refine lv_goto (tgt := 2) hx hb dX3_isGoalWhole_33 (by decide) ?_
          exact ih_2 (j + 1) _ _ _ (by omega) (by omega) (fun i a b d => by by_cases q : i = j; (rw [q] at d ⊢; have e2 := xu_3.1; omega); exact hg i a (by omega) d) hW hL (lv_sub hl [0, 1] rfl)
        · refine lv_aload_n hx hb dX3_isGoalWhole_19 rfl (lv_at hl 1 rfl) ?_
          refine g_X3_15 Cx hW (k := o) (mdl_l hm) hm.1 (v := .ref (G.2.2.1 + (o + 2))) (hI.rq.2.2 o (mdl_k hm) hm.1).2 dX3_isGoalWhole_20 ?_
          refine lv_iload_n hx hb dX3_isGoalWhole_23 rfl (lv_at hl 0 rfl) ?_
          refine rZald Cx hW (k := o + 2) (mdl_l2 hm) hm.2.2.1 (by decide) (by omega) (by omega) dX3_isGoalWhole_24 ?_
          have q_7 : 0 ≤ S.2.1 (o + 2) j ∧ S.2.1 (o + 2) j ≤ 1 := mdl_r2 hm hI j 
          refine r_i (b := S.2.1 (o + 2) j) rfl ?_
          refine r_if_ne (tgt := 30) hx hb ⟨(by omega), (by omega)⟩ dX3_isGoalWhole_25 (by decide) (fun c_8 => ?_) (fun c_8 => ?_)
          · refine lv_iinc (v := iv (j + 1)) (lv' := [(1, .int (iv (j + 1))), (0, .ref (G.2.2.1 + o))]) hx hb dX3_isGoalWhole_30 hl (k := 0) rfl ((Int32.ofInt_add _ _).symm) (by decide) rfl (fun ls hl => ?_)
            refine lv_goto (tgt := 2) hx hb dX3_isGoalWhole_33 (by decide) ?_
            exact ih_2 (j + 1) _ _ _ (by omega) (by omega) (fun i a b d => by by_cases q : i = j; (rw [q] at d ⊢; have e2 := xu_3.1; omega); exact hg i a (by omega) d) hW hL (lv_sub hl [0, 1] rfl)
          · refine lv_iconst (v := iv 0) hx hb dX3_isGoalWhole_28 (by decide) ?_
            exact sZret Cx hr hlk hW hL (by omega) ⟨rfl, ⟨by omega, by omega, (show _ ↔ _ from ⟨fun q => absurd q (by omega), fun q => by have e := q j (by omega) (by omega) (by have e2 := xu_3.1; omega); exfalso; omega⟩)⟩⟩ dX3_isGoalWhole_29
  exact loop_2 (_ + 1) 1 _ _ _ (Nat.lt_succ_self _) (by omega) (fun i a b => absurd b (by omega)) hW hL (lv_sub hl [0, 1] rfl)
