/-! Model: o the object, o + 1 its numbers, o + 2 which are whole -/
def ModelOK (S : sS) (o : Nat) : Prop := (0 ≤ S.1 o 2 ∧ S.1 o 2 ≤ 12) ∧ (0 ≤ S.1 o 3 ∧ S.1 o 3 ≤ 16) ∧ (S.1 o 4 = 0 ∨ S.1 o 4 = 1) ∧ (∀ i : Int, 0 ≤ i → i < 221 → -2147483648 ≤ S.2.1 (o + 1) i ∧ S.2.1 (o + 1) i ≤ 2147483647) ∧ ∀ i : Int, 0 ≤ i → i < 13 → S.2.1 (o + 2) i = 0 ∨ S.2.1 (o + 2) i = 1
def ModelAt (G : sG) (S : sS) (o : Nat) : Prop := tau o = .inl 3 ∧ tau (o + 1) = .inr (.int, 221) ∧ tau (o + 2) = .inr (.boolean, 13) ∧ o + 2 < 294 ∧ S.2.2.2 o 0 = .ref (G.2.2.1 + (o + 1)) ∧ S.2.2.2 o 1 = .ref (G.2.2.1 + (o + 2))
theorem ModelAt.fr {G : sG} {S u : sS} {o : Nat} {P : Nat → Prop} (h : ModelAt G S o) (f : fr S u P) : ModelAt G u o := ⟨h.1, h.2.1, h.2.2.1, h.2.2.2.1, by rw [f.2]; exact h.2.2.2.2⟩
theorem ModelOK.fr {S u : sS} {o : Nat} {P : Nat → Prop} (h : ModelOK S o) (f : fr S u P) (h1 : ¬ P o) (h2 : ¬ P (o + 1)) (h3 : ¬ P (o + 2)) : ModelOK u o := by
  have a := f.1 o h1
  have b := f.1 (o + 1) h2
  have c := f.1 (o + 2) h3
  exact ⟨by rw [a.1]; exact h.1, by rw [a.1]; exact h.2.1, by rw [a.1]; exact h.2.2.1, fun i h0 h1 => by rw [b.2.1]; exact h.2.2.2.1 i h0 h1, fun i h0 h1 => by rw [c.2.1]; exact h.2.2.2.2 i h0 h1⟩
/-- a row's elements stay in their range when one is put -/
theorem row_put {S : sS} {k : Nat} {n lo hi i x : Int} (h : ∀ j : Int, 0 ≤ j → j < n → lo ≤ S.2.1 k j ∧ S.2.1 k j ≤ hi) (h1 : lo ≤ x) (h2 : x ≤ hi) : ∀ j : Int, 0 ≤ j → j < n → lo ≤ (uA S k i x).2.1 k j ∧ (uA S k i x).2.1 k j ≤ hi := fun j hj hj2 => by
  rw [uA_get]
  split
  · exact ⟨h1, h2⟩
  · exact h j hj hj2
theorem row_put2 {S : sS} {k : Nat} {n i x : Int} (h : ∀ j : Int, 0 ≤ j → j < n → S.2.1 k j = 0 ∨ S.2.1 k j = 1) (h1 : x = 0 ∨ x = 1) : ∀ j : Int, 0 ≤ j → j < n → (uA S k i x).2.1 k j = 0 ∨ (uA S k i x).2.1 k j = 1 := fun j hj hj2 => by
  rw [uA_get]
  split
  · exact h1
  · exact h j hj hj2
/-- other places -/
theorem row_ne {S : sS} {k k2 : Nat} {i x j : Int} (h : k2 ≠ k) : (uA S k i x).2.1 k2 j = S.2.1 k2 j := uA_ne (fun q => h q.1)
set_option maxRecDepth 100000 in
set_option maxHeartbeats 4000000 in
theorem t_X3_clear (l : Launch) (G : sG) (S : sS) {o : Nat} (hA : ModelAt G S o) (hM : ModelOK S o) : Met l yX3_clear (.code yX3_clear cX3_clear 1 none :: tb) (rmk 1 0 0) (sPc G 294 S [.ref (G.2.2.1 + o)]) (sQv G 294 (fun u => fr S u (rg o 3) ∧ ModelOK u o ∧ u.1 o 2 = 0 ∧ u.1 o 3 = 0)) 0 0 (sF G) := by
  refine sEnter (by decide) (Nat.le_of_ble_eq_true rfl) ?_
  intro p e s m args below meth c Cx hr hlk hnm hW ls hl
  have Cx : sC G p m c cX3_clear 1 s args RX3 := Cx
  obtain ⟨hx, hb, hml, hown, hts⟩ := id Cx.1
  have hL : sL G [] := sL_nil
  have hl : lv_has ls 1 [(0, .ref (G.2.2.1 + o))] := hl
  obtain ⟨ho, ho1, ho2, hlt, hr0, hr1⟩ := id hA
  obtain ⟨hv, hrw, hmx, hnu, hwh⟩ := id hM
  refine lv_aload_n hx hb dX3_clear_0 rfl (lv_at hl 0 rfl) ?_
  refine lv_iconst (v := iv 0) hx hb dX3_clear_1 (by decide) ?_
  refine p_X3_19 Cx hW hL (k := o) (by omega) ho dX3_clear_2 (fun H locs hW hL => ?_)
  refine lv_aload_n hx hb dX3_clear_5 rfl (lv_at hl 0 rfl) ?_
  refine lv_iconst (v := iv 0) hx hb dX3_clear_6 (by decide) ?_
  refine p_X3_23 Cx hW hL (k := o) (by omega) ho dX3_clear_7 (fun H locs hW hL => ?_)
  refine lv_aload_n hx hb dX3_clear_10 rfl (lv_at hl 0 rfl) ?_
  refine lv_iconst (v := iv 0) hx hb dX3_clear_11 (by decide) ?_
  refine p_X3_26 Cx hW hL (k := o) (by omega) ho (by omega) dX3_clear_12 (fun H locs hW hL => ?_)
  exact sVret Cx hr hlk hW hL ⟨((fr.rf.F (rg_0 (by decide))).F (rg_0 (by decide))).F (rg_0 (by decide)), ⟨by simp [uF_get], by simp [uF_get], by simp [uF_get], hnu, hwh⟩, by simp [uF_get], by simp [uF_get]⟩ dX3_clear_15

set_option maxRecDepth 100000 in
set_option maxHeartbeats 4000000 in
theorem t_X3_number (l : Launch) (G : sG) (S : sS) {o : Nat} {k j : Int} (hA : ModelAt G S o) (hM : ModelOK S o) (hk : 0 ≤ k ∧ k ≤ 16) (hj : 0 ≤ j ∧ j ≤ 12) : Met l yX3_number (.code yX3_number cX3_number 3 (some .int) :: tb) (rmk 1 0 0) (sPc G 294 S [.ref (G.2.2.1 + o), .int (iv k), .int (iv j)]) (sQi G 294 (fun r u => u = S ∧ r = S.2.1 (o + 1) (k * 13 + j) ∧ -2147483648 ≤ r ∧ r ≤ 2147483647)) 0 0 (sF G) := by
  refine sEnter (by decide) (Nat.le_of_ble_eq_true rfl) ?_
  intro p e s m args below meth c Cx hr hlk hnm hW ls hl
  have Cx : sC G p m c cX3_number 3 s args RX3 := Cx
  obtain ⟨hx, hb, hml, hown, hts⟩ := id Cx.1
  have hL : sL G [] := sL_nil
  have hl : lv_has ls 3 [(0, .ref (G.2.2.1 + o)), (1, .int (iv k)), (2, .int (iv j))] := hl
  obtain ⟨ho, ho1, ho2, hlt, hr0, hr1⟩ := id hA
  obtain ⟨hv, hrw, hmx, hnu, hwh⟩ := id hM
  refine lv_aload_n hx hb dX3_number_0 rfl (lv_at hl 0 rfl) ?_
  refine g_X3_11 Cx hW (k := o) (by omega) ho (v := .ref (G.2.2.1 + (o + 1))) hr0 dX3_number_1 ?_
  refine lv_iload_n hx hb dX3_number_4 rfl (lv_at hl 1 rfl) ?_
  refine lv_bipush (v := iv 13) hx hb dX3_number_5 (by decide) ?_
  refine r_imul hx hb dX3_number_7 ?_
  refine lv_iload_n hx hb dX3_number_8 rfl (lv_at hl 2 rfl) ?_
  refine r_iadd hx hb dX3_number_9 ?_
  refine rIald Cx hW (k := o + 1) (by omega) ho1 (by decide) (by omega) (by omega) dX3_number_10 ?_
  have q_1 := hnu ((k * 13) + j) (by omega) (by omega)
  exact sIret Cx hr hlk hW hL ⟨rfl, rfl, by omega, by omega⟩ dX3_number_11

set_option maxRecDepth 100000 in
set_option maxHeartbeats 4000000 in
theorem t_X3_setNumber (l : Launch) (G : sG) (S : sS) {o : Nat} {k j v : Int} (hA : ModelAt G S o) (hM : ModelOK S o) (hk : 0 ≤ k ∧ k ≤ 16) (hj : 0 ≤ j ∧ j ≤ 12) : Met l yX3_setNumber (.code yX3_setNumber cX3_setNumber 5 none :: tb) (rmk 1 0 0) (sPc G 294 S [.ref (G.2.2.1 + o), .int (iv k), .int (iv j), .long (jv v)]) (sQv G 294 (fun u => fr S u (rg o 3) ∧ ModelOK u o ∧ (∀ i, u.1 o i = S.1 o i))) 0 0 (sF G) := by
  refine sEnter (by decide) (Nat.le_of_ble_eq_true rfl) ?_
  intro p e s m args below meth c Cx hr hlk hnm hW ls hl
  have Cx : sC G p m c cX3_setNumber 5 s args RX3 := Cx
  obtain ⟨hx, hb, hml, hown, hts⟩ := id Cx.1
  have hL : sL G [] := sL_nil
  have hl : lv_has ls 5 [(0, .ref (G.2.2.1 + o)), (1, .int (iv k)), (2, .int (iv j)), (3, .long (jv v))] := hl
  obtain ⟨ho, ho1, ho2, hlt, hr0, hr1⟩ := id hA
  obtain ⟨hv, hrw, hmx, hnu, hwh⟩ := id hM
  refine lv_aload_n hx hb dX3_setNumber_0 rfl (lv_at hl 0 rfl) ?_
  refine g_X3_11 Cx hW (k := o) (by omega) ho (v := .ref (G.2.2.1 + (o + 1))) hr0 dX3_setNumber_1 ?_
  refine lv_iload_n hx hb dX3_setNumber_4 rfl (lv_at hl 1 rfl) ?_
  refine lv_bipush (v := iv 13) hx hb dX3_setNumber_5 (by decide) ?_
  refine r_imul hx hb dX3_setNumber_7 ?_
  refine lv_iload_n hx hb dX3_setNumber_8 rfl (lv_at hl 2 rfl) ?_
  refine r_iadd hx hb dX3_setNumber_9 ?_
  refine lv_lload_n hx hb dX3_setNumber_10 rfl (lv_at hl 3 rfl) ?_
  refine r_l2i_any hx hb dX3_setNumber_11 (fun z_1 hz_1 kz_1 => ?_)
  refine rIast Cx hW hL (k := o + 1) (by omega) ho1 (by decide) (by omega) (by omega) dX3_setNumber_12 (fun H locs hW hL => ?_)
  exact sVret Cx hr hlk hW hL ⟨fr.rf.A (rg_in (by decide)), ⟨hv, hrw, hmx, row_put hnu (by omega) (by omega), fun i h0 h1 => by rw [row_ne (by omega)]; exact hwh i h0 h1⟩, fun _ => rfl⟩ dX3_setNumber_13

set_option maxRecDepth 100000 in
set_option maxHeartbeats 4000000 in
theorem t_X3_addVariables (l : Launch) (G : sG) (S : sS) {o : Nat} {k z : Int} (hA0 : ModelAt G S o) (hM0 : ModelOK S o) (hk : -2147483648 ≤ k ∧ k ≤ 2147483647) (hz : z = 0 ∨ z = 1) : Met l yX3_addVariables (.code yX3_addVariables cX3_addVariables 4 none :: tb) (rmk 1 0 0) (sPc G 294 S [.ref (G.2.2.1 + o), .int (iv k), .int (iv z)]) (sQv G 294 (fun u => fr S u (rg o 3) ∧ ModelOK u o ∧ S.1 o 2 ≤ u.1 o 2 ∧ u.1 o 3 = S.1 o 3)) 0 0 (sF G) := by
  refine sEnter (by decide) (Nat.le_of_ble_eq_true rfl) ?_
  intro p e s m args below meth c Cx hr hlk hnm hW ls hl
  have Cx : sC G p m c cX3_addVariables 4 s args RX3 := Cx
  obtain ⟨hx, hb, hml, hown, hts⟩ := id Cx.1
  have hL : sL G [] := sL_nil
  have hl : lv_has ls 4 [(0, .ref (G.2.2.1 + o)), (1, .int (iv k)), (2, .int (iv z))] := hl
  obtain ⟨ho, ho1, ho2, hlt, hr0, hr1⟩ := id hA0
  have hv := hM0.1
  refine lv_iconst (v := iv 0) hx hb dX3_addVariables_0 (by decide) ?_
  refine lv_istore_n (lv' := [(3, .int (iv 0)), (0, .ref (G.2.2.1 + o)), (1, .int (iv k)), (2, .int (iv z))]) hx hb dX3_addVariables_1 rfl hl (by decide) rfl (fun ls hl => ?_)
  have loop_2 : ∀ (fuel : Nat) (S2 : sS) (i : Int) (H : Heap) (locs : List Loc) (ls : Array Slot), (k - i).toNat < fuel → (fr S S2 (rg o 3)) → (ModelOK S2 o) → (S.1 o 2 ≤ S2.1 o 2) → (S2.1 o 3 = S.1 o 3) → (0 ≤ i ∧ i ≤ S2.1 o 2) → sW G 294 S2 H → sL G locs → lv_has ls 4 [(3, .int (iv i)), (0, .ref (G.2.2.1 + o)), (1, .int (iv k)), (2, .int (iv z))] → W p l e (rmk 1 0 0) s m args below meth c H locs 0 0 (MQ below (sQv G 294 (fun u => fr S u (rg o 3) ∧ ModelOK u o ∧ S.1 o 2 ≤ u.1 o 2 ∧ u.1 o 3 = S.1 o 3)) args s 0 0 (sF G)) (F0 m 2 ls []) := by
    intro fuel
    induction fuel with
    | zero => intro S2 i H locs ls hmeas hF hM hmo hrs hi hW hL hl; exact absurd hmeas (Nat.not_lt_zero _)
    | succ fuel ih_2 =>
      intro S2 i H locs ls hmeas hF hM hmo hrs hi hW hL hl
      obtain ⟨hv, hrw, hmx, hnu, hwh⟩ := id hM
      obtain ⟨ho, ho1, ho2, hlt, hr0, hr1⟩ := id (hA0.fr hF)
      refine lv_iload_n hx hb dX3_addVariables_2 rfl (lv_at hl 0 rfl) ?_
      refine lv_iload_n hx hb dX3_addVariables_3 rfl (lv_at hl 2 rfl) ?_
      refine r_icmp_ge (tgt := 42) hx hb ⟨(by omega), (by omega)⟩ ⟨(by omega), (by omega)⟩ dX3_addVariables_4 (by decide) (fun c_1 => ?_) (fun c_1 => ?_)
      · exact sVret Cx hr hlk hW hL ⟨hF, hM, hmo, hrs⟩ dX3_addVariables_42
      · refine lv_aload_n hx hb dX3_addVariables_7 rfl (lv_at hl 1 rfl) ?_
        refine g_X3_19 Cx hW (k := o) (by omega) ho (v := S2.1 o 2) rfl dX3_addVariables_8 ?_
        refine lv_bipush (v := iv 12) hx hb dX3_addVariables_11 (by decide) ?_
        refine r_icmp_ge (tgt := 42) hx hb ⟨(by omega), (by omega)⟩ ⟨(by omega), (by omega)⟩ dX3_addVariables_13 (by decide) (fun c_2 => ?_) (fun c_2 => ?_)
        · exact sVret Cx hr hlk hW hL ⟨hF, hM, hmo, hrs⟩ dX3_addVariables_42
        · refine lv_aload_n hx hb dX3_addVariables_16 rfl (lv_at hl 1 rfl) ?_
          refine lv_dup hx hb dX3_addVariables_17 rfl ?_
          refine g_X3_19 Cx hW (k := o) (by omega) ho (v := S2.1 o 2) rfl dX3_addVariables_18 ?_
          refine lv_iconst (v := iv 1) hx hb dX3_addVariables_21 (by decide) ?_
          refine r_iadd hx hb dX3_addVariables_22 ?_
          refine p_X3_19 Cx hW hL (k := o) (by omega) ho dX3_addVariables_23 (fun H locs hW hL => ?_)
          refine lv_aload_n hx hb dX3_addVariables_26 rfl (lv_at hl 1 rfl) ?_
          refine g_X3_15 Cx hW (k := o) (by omega) ho (v := .ref (G.2.2.1 + (o + 2))) hr1 dX3_addVariables_27 ?_
          refine lv_aload_n hx hb dX3_addVariables_30 rfl (lv_at hl 1 rfl) ?_
          refine g_X3_19 Cx hW (k := o) (by omega) ho (v := (S2.1 o 2) + 1) uF_on dX3_addVariables_31 ?_
          refine lv_iload_n hx hb dX3_addVariables_34 rfl (lv_at hl 3 rfl) ?_
          refine rZast Cx hW hL (k := o + 2) (by omega) ho2 (by decide) (by omega) (by omega) (nar_z (by omega)) dX3_addVariables_35 (fun H locs hW hL => ?_)
          refine lv_iinc (v := iv (i + 1)) (lv' := [(3, .int (iv (i + 1))), (0, .ref (G.2.2.1 + o)), (1, .int (iv k)), (2, .int (iv z))]) hx hb dX3_addVariables_36 hl (k := 0) rfl ((Int32.ofInt_add _ _).symm) (by decide) rfl (fun ls hl => ?_)
          refine lv_goto (tgt := 2) hx hb dX3_addVariables_39 (by decide) ?_
          exact ih_2 (uA (uF S2 o 2 ((S2.1 o 2) + 1)) (o + 2) ((S2.1 o 2) + 1) z) (i + 1) _ _ _ (by omega) ((hF.F (rg_0 (by decide))).A (rg_in (by decide))) ⟨by simp [uF_get, uA_F]; omega, by simpa [uF_get, uA_F] using hrw, by simpa [uF_get, uA_F] using hmx, fun i h0 h1 => by rw [row_ne (by omega)]; exact hnu i h0 h1, row_put2 hwh hz⟩ (by simp [uF_get, uA_F]; omega) (by simpa [uF_get, uA_F] using hrs) (by simp [uF_get, uA_F]; omega) hW hL (lv_sub hl [0, 1, 2, 3] rfl)
  exact loop_2 (_ + 1) S 0 _ _ _ (Nat.lt_succ_self _) fr.rf hM0 (by omega) rfl (by omega) hW hL (lv_sub hl [0, 1, 2, 3] rfl)

set_option maxRecDepth 100000 in
set_option maxHeartbeats 4000000 in
theorem t_X3_wholes (l : Launch) (G : sG) (S : sS) {o : Nat} (hA : ModelAt G S o) (hM : ModelOK S o) : Met l yX3_wholes (.code yX3_wholes cX3_wholes 3 (some .int) :: tb) (rmk 1 0 0) (sPc G 294 S [.ref (G.2.2.1 + o)]) (sQi G 294 (fun r u => u = S ∧ 0 ≤ r ∧ r ≤ 12)) 0 0 (sF G) := by
  refine sEnter (by decide) (Nat.le_of_ble_eq_true rfl) ?_
  intro p e s m args below meth c Cx hr hlk hnm hW ls hl
  have Cx : sC G p m c cX3_wholes 3 s args RX3 := Cx
  obtain ⟨hx, hb, hml, hown, hts⟩ := id Cx.1
  have hL : sL G [] := sL_nil
  have hl : lv_has ls 3 [(0, .ref (G.2.2.1 + o))] := hl
  obtain ⟨ho, ho1, ho2, hlt, hr0, hr1⟩ := id hA
  obtain ⟨hv, hrw, hmx, hnu, hwh⟩ := id hM
  refine lv_iconst (v := iv 0) hx hb dX3_wholes_0 (by decide) ?_
  refine lv_istore_n (lv' := [(1, .int (iv 0)), (0, .ref (G.2.2.1 + o))]) hx hb dX3_wholes_1 rfl hl (by decide) rfl (fun ls hl => ?_)
  refine lv_iconst (v := iv 1) hx hb dX3_wholes_2 (by decide) ?_
  refine lv_istore_n (lv' := [(2, .int (iv 1)), (1, .int (iv 0)), (0, .ref (G.2.2.1 + o))]) hx hb dX3_wholes_3 rfl hl (by decide) rfl (fun ls hl => ?_)
  have loop_4 : ∀ (fuel : Nat) (f : Int) (j : Int) (H : Heap) (locs : List Loc) (ls : Array Slot), (13 - j).toNat < fuel → (1 ≤ j ∧ j ≤ 13) → (0 ≤ f ∧ f < j) → sW G 294 S H → sL G locs → lv_has ls 3 [(1, .int (iv f)), (2, .int (iv j)), (0, .ref (G.2.2.1 + o))] → W p l e (rmk 1 0 0) s m args below meth c H locs 0 0 (MQ below (sQi G 294 (fun r u => u = S ∧ 0 ≤ r ∧ r ≤ 12)) args s 0 0 (sF G)) (F0 m 4 ls []) := by
    intro fuel
    induction fuel with
    | zero => intro f j H locs ls hmeas hj hf hW hL hl; exact absurd hmeas (Nat.not_lt_zero _)
    | succ fuel ih_4 =>
      intro f j H locs ls hmeas hj hf hW hL hl
      refine lv_iload_n hx hb dX3_wholes_4 rfl (lv_at hl 1 rfl) ?_
      refine lv_aload_n hx hb dX3_wholes_5 rfl (lv_at hl 2 rfl) ?_
      refine g_X3_19 Cx hW (k := o) (by omega) ho (v := S.1 o 2) rfl dX3_wholes_6 ?_
      refine r_icmp_gt (tgt := 30) hx hb ⟨(by omega), (by omega)⟩ ⟨(by omega), (by omega)⟩ dX3_wholes_9 (by decide) (fun c_1 => ?_) (fun c_1 => ?_)
      · refine lv_iload_n hx hb dX3_wholes_30 rfl (lv_at hl 0 rfl) ?_
        exact sIret Cx hr hlk hW hL ⟨rfl, by omega, by omega⟩ dX3_wholes_31
      · refine lv_aload_n hx hb dX3_wholes_12 rfl (lv_at hl 2 rfl) ?_
        refine g_X3_15 Cx hW (k := o) (by omega) ho (v := .ref (G.2.2.1 + (o + 2))) hr1 dX3_wholes_13 ?_
        refine lv_iload_n hx hb dX3_wholes_16 rfl (lv_at hl 1 rfl) ?_
        refine rZald Cx hW (k := o + 2) (by omega) ho2 (by decide) (by omega) (by omega) dX3_wholes_17 ?_
        have q_2 := hwh j (by omega) (by omega)
        refine r_if_eq (tgt := 24) hx hb ⟨(by omega), (by omega)⟩ dX3_wholes_18 (by decide) (fun c_3 => ?_) (fun c_3 => ?_)
        · refine lv_iinc (v := iv (j + 1)) (lv' := [(2, .int (iv (j + 1))), (1, .int (iv f)), (0, .ref (G.2.2.1 + o))]) hx hb dX3_wholes_24 hl (k := 1) rfl ((Int32.ofInt_add _ _).symm) (by decide) rfl (fun ls hl => ?_)
          refine lv_goto (tgt := 4) hx hb dX3_wholes_27 (by decide) ?_
          exact ih_4 f (j + 1) _ _ _ (by omega) (by omega) (by omega) hW hL (lv_sub hl [1, 0, 2] rfl)
        · refine lv_iinc (v := iv (f + 1)) (lv' := [(1, .int (iv (f + 1))), (2, .int (iv j)), (0, .ref (G.2.2.1 + o))]) hx hb dX3_wholes_21 hl (k := 0) rfl ((Int32.ofInt_add _ _).symm) (by decide) rfl (fun ls hl => ?_)
          refine lv_iinc (v := iv (j + 1)) (lv' := [(2, .int (iv (j + 1))), (1, .int (iv (f + 1))), (0, .ref (G.2.2.1 + o))]) hx hb dX3_wholes_24 hl (k := 1) rfl ((Int32.ofInt_add _ _).symm) (by decide) rfl (fun ls hl => ?_)
          refine lv_goto (tgt := 4) hx hb dX3_wholes_27 (by decide) ?_
          exact ih_4 (f + 1) (j + 1) _ _ _ (by omega) (by omega) (by omega) hW hL (lv_sub hl [1, 0, 2] rfl)
  exact loop_4 (_ + 1) 0 1 _ _ _ (Nat.lt_succ_self _) (by omega) (by omega) hW hL (lv_sub hl [1, 0, 2] rfl)

set_option maxRecDepth 100000 in
set_option maxHeartbeats 4000000 in
theorem t_X3_isWhole (l : Launch) (G : sG) (S : sS) {o : Nat} {j : Int} (hA : ModelAt G S o) (hM : ModelOK S o) (hj : -2147483648 ≤ j ∧ j ≤ 2147483647) : Met l yX3_isWhole (.code yX3_isWhole cX3_isWhole 2 (some .boolean) :: tb) (rmk 1 0 0) (sPc G 294 S [.ref (G.2.2.1 + o), .int (iv j)]) (sQi G 294 (fun r u => u = S ∧ (r = 0 ∨ r = 1))) 0 0 (sF G) := by
  refine sEnter (by decide) (Nat.le_of_ble_eq_true rfl) ?_
  intro p e s m args below meth c Cx hr hlk hnm hW ls hl
  have Cx : sC G p m c cX3_isWhole 2 s args RX3 := Cx
  obtain ⟨hx, hb, hml, hown, hts⟩ := id Cx.1
  have hL : sL G [] := sL_nil
  have hl : lv_has ls 2 [(0, .ref (G.2.2.1 + o)), (1, .int (iv j))] := hl
  obtain ⟨ho, ho1, ho2, hlt, hr0, hr1⟩ := id hA
  obtain ⟨hv, hrw, hmx, hnu, hwh⟩ := id hM
  refine lv_iload_n hx hb dX3_isWhole_0 rfl (lv_at hl 1 rfl) ?_
  refine lv_iconst (v := iv 1) hx hb dX3_isWhole_1 (by decide) ?_
  refine r_icmp_lt (tgt := 26) hx hb ⟨(by omega), (by omega)⟩ ⟨(by omega), (by omega)⟩ dX3_isWhole_2 (by decide) (fun c_1 => ?_) (fun c_1 => ?_)
  · refine lv_iconst (v := iv 0) hx hb dX3_isWhole_26 (by decide) ?_
    exact sZret Cx hr hlk hW hL (by omega) ⟨rfl, by omega⟩ dX3_isWhole_27
  · refine lv_iload_n hx hb dX3_isWhole_5 rfl (lv_at hl 1 rfl) ?_
    refine lv_aload_n hx hb dX3_isWhole_6 rfl (lv_at hl 0 rfl) ?_
    refine g_X3_19 Cx hW (k := o) (by omega) ho (v := S.1 o 2) rfl dX3_isWhole_7 ?_
    refine r_icmp_gt (tgt := 26) hx hb ⟨(by omega), (by omega)⟩ ⟨(by omega), (by omega)⟩ dX3_isWhole_10 (by decide) (fun c_2 => ?_) (fun c_2 => ?_)
    · refine lv_iconst (v := iv 0) hx hb dX3_isWhole_26 (by decide) ?_
      exact sZret Cx hr hlk hW hL (by omega) ⟨rfl, by omega⟩ dX3_isWhole_27
    · refine lv_aload_n hx hb dX3_isWhole_13 rfl (lv_at hl 0 rfl) ?_
      refine g_X3_15 Cx hW (k := o) (by omega) ho (v := .ref (G.2.2.1 + (o + 2))) hr1 dX3_isWhole_14 ?_
      refine lv_iload_n hx hb dX3_isWhole_17 rfl (lv_at hl 1 rfl) ?_
      refine rZald Cx hW (k := o + 2) (by omega) ho2 (by decide) (by omega) (by omega) dX3_isWhole_18 ?_
      have q_3 := hwh j (by omega) (by omega)
      refine r_if_eq (tgt := 26) hx hb ⟨(by omega), (by omega)⟩ dX3_isWhole_19 (by decide) (fun c_4 => ?_) (fun c_4 => ?_)
      · refine lv_iconst (v := iv 0) hx hb dX3_isWhole_26 (by decide) ?_
        exact sZret Cx hr hlk hW hL (by omega) ⟨rfl, by omega⟩ dX3_isWhole_27
      · refine lv_iconst (v := iv 1) hx hb dX3_isWhole_22 (by decide) ?_
        refine lv_goto (tgt := 27) hx hb dX3_isWhole_23 (by decide) ?_
        exact sZret Cx hr hlk hW hL (by omega) ⟨rfl, by omega⟩ dX3_isWhole_27

set_option maxRecDepth 100000 in
set_option maxHeartbeats 4000000 in
theorem t_X3_isAllWhole (l : Launch) (G : sG) (S : sS) {o : Nat} (hA : ModelAt G S o) (hM : ModelOK S o) : Met l yX3_isAllWhole (.code yX3_isAllWhole cX3_isAllWhole 1 (some .boolean) :: tb) (rmk 2 0 0) (sPc G 294 S [.ref (G.2.2.1 + o)]) (sQi G 294 (fun r u => u = S ∧ (r = 0 ∨ r = 1))) 0 0 (sF G) := by
  refine sEnter (by decide) (Nat.le_of_ble_eq_true rfl) ?_
  intro p e s m args below meth c Cx hr hlk hnm hW ls hl
  have Cx : sC G p m c cX3_isAllWhole 1 s args RX3 := Cx
  obtain ⟨hx, hb, hml, hown, hts⟩ := id Cx.1
  have hL : sL G [] := sL_nil
  have hl : lv_has ls 1 [(0, .ref (G.2.2.1 + o))] := hl
  obtain ⟨ho, ho1, ho2, hlt, hr0, hr1⟩ := id hA
  obtain ⟨hv, hrw, hmx, hnu, hwh⟩ := id hM
  refine lv_aload_n hx hb dX3_isAllWhole_0 rfl (lv_at hl 0 rfl) ?_
  refine sBi (sV (As := []) (rest := []) (k := o) Cx (t_X3_wholes l G S hA hM) (c_X3_34 Cx rfl rfl (rmk_ok (by omega) (by decide))) hW (by omega) ho rfl rfl hl.1 rfl (Nat.le_of_ble_eq_true rfl) dX3_isAllWhole_1 ⟨Nat.le_of_ble_eq_true rfl, Nat.le_of_ble_eq_true rfl⟩) hL (fun r_3 u_1 H locs k_2 hW hL => ?_)
  obtain ⟨eu_1, k1, k2⟩ := k_2
  rw [eu_1] at hW
  refine lv_aload_n hx hb dX3_isAllWhole_4 rfl (lv_at hl 0 rfl) ?_
  refine g_X3_19 Cx hW (k := o) (by omega) ho (v := S.1 o 2) rfl dX3_isAllWhole_5 ?_
  refine r_icmp_ne (tgt := 15) hx hb ⟨(by omega), (by omega)⟩ ⟨(by omega), (by omega)⟩ dX3_isAllWhole_8 (by decide) (fun c_4 => ?_) (fun c_4 => ?_)
  · refine lv_iconst (v := iv 0) hx hb dX3_isAllWhole_15 (by decide) ?_
    exact sZret Cx hr hlk hW hL (by omega) ⟨rfl, by omega⟩ dX3_isAllWhole_16
  · refine lv_iconst (v := iv 1) hx hb dX3_isAllWhole_11 (by decide) ?_
    refine lv_goto (tgt := 16) hx hb dX3_isAllWhole_12 (by decide) ?_
    exact sZret Cx hr hlk hW hL (by omega) ⟨rfl, by omega⟩ dX3_isAllWhole_16

set_option maxRecDepth 100000 in
set_option maxHeartbeats 4000000 in
theorem t_X3_isGoalWhole (l : Launch) (G : sG) (S : sS) {o : Nat} (hA : ModelAt G S o) (hM : ModelOK S o) : Met l yX3_isGoalWhole (.code yX3_isGoalWhole cX3_isGoalWhole 2 (some .boolean) :: tb) (rmk 2 0 0) (sPc G 294 S [.ref (G.2.2.1 + o)]) (sQi G 294 (fun r u => u = S ∧ (r = 0 ∨ r = 1))) 0 0 (sF G) := by
  refine sEnter (by decide) (Nat.le_of_ble_eq_true rfl) ?_
  intro p e s m args below meth c Cx hr hlk hnm hW ls hl
  have Cx : sC G p m c cX3_isGoalWhole 2 s args RX3 := Cx
  obtain ⟨hx, hb, hml, hown, hts⟩ := id Cx.1
  have hL : sL G [] := sL_nil
  have hl : lv_has ls 2 [(0, .ref (G.2.2.1 + o))] := hl
  obtain ⟨ho, ho1, ho2, hlt, hr0, hr1⟩ := id hA
  obtain ⟨hv, hrw, hmx, hnu, hwh⟩ := id hM
  refine lv_iconst (v := iv 1) hx hb dX3_isGoalWhole_0 (by decide) ?_
  refine lv_istore_n (lv' := [(1, .int (iv 1)), (0, .ref (G.2.2.1 + o))]) hx hb dX3_isGoalWhole_1 rfl hl (by decide) rfl (fun ls hl => ?_)
  have loop_2 : ∀ (fuel : Nat) (j : Int) (H : Heap) (locs : List Loc) (ls : Array Slot), (13 - j).toNat < fuel → (1 ≤ j ∧ j ≤ 13) → sW G 294 S H → sL G locs → lv_has ls 2 [(1, .int (iv j)), (0, .ref (G.2.2.1 + o))] → W p l e (rmk 2 0 0) s m args below meth c H locs 0 0 (MQ below (sQi G 294 (fun r u => u = S ∧ (r = 0 ∨ r = 1))) args s 0 0 (sF G)) (F0 m 2 ls []) := by
    intro fuel
    induction fuel with
    | zero => intro j H locs ls hmeas hj hW hL hl; exact absurd hmeas (Nat.not_lt_zero _)
    | succ fuel ih_2 =>
      intro j H locs ls hmeas hj hW hL hl
      refine lv_iload_n hx hb dX3_isGoalWhole_2 rfl (lv_at hl 0 rfl) ?_
      refine lv_aload_n hx hb dX3_isGoalWhole_3 rfl (lv_at hl 1 rfl) ?_
      refine g_X3_19 Cx hW (k := o) (by omega) ho (v := S.1 o 2) rfl dX3_isGoalWhole_4 ?_
      refine r_icmp_gt (tgt := 36) hx hb ⟨(by omega), (by omega)⟩ ⟨(by omega), (by omega)⟩ dX3_isGoalWhole_7 (by decide) (fun c_1 => ?_) (fun c_1 => ?_)
      · refine lv_iconst (v := iv 1) hx hb dX3_isGoalWhole_36 (by decide) ?_
        exact sZret Cx hr hlk hW hL (by omega) ⟨rfl, by omega⟩ dX3_isGoalWhole_37
      · refine lv_aload_n hx hb dX3_isGoalWhole_10 rfl (lv_at hl 1 rfl) ?_
        refine lv_iconst (v := iv 0) hx hb dX3_isGoalWhole_11 (by decide) ?_
        refine lv_iload_n hx hb dX3_isGoalWhole_12 rfl (lv_at hl 0 rfl) ?_
        refine sBi (sV (As := [.int (iv 0), .int (iv j)]) (rest := []) (k := o) Cx (t_X3_number l G S hA hM (k := 0) (j := j) (by omega) (by omega)) (c_X3_38 Cx rfl rfl (rmk_ok (by omega) (by decide))) hW (by omega) ho rfl rfl hl.1 rfl (Nat.le_of_ble_eq_true rfl) dX3_isGoalWhole_13 ⟨Nat.le_of_ble_eq_true rfl, Nat.le_of_ble_eq_true rfl⟩) hL (fun r_4 u_2 H locs k_3 hW hL => ?_)
        obtain ⟨eu_2, nu_2, k1, k2⟩ := k_3
        rw [eu_2] at hW
        refine r_if_eq (tgt := 30) hx hb ⟨(by omega), (by omega)⟩ dX3_isGoalWhole_16 (by decide) (fun c_5 => ?_) (fun c_5 => ?_)
        · refine lv_iinc (v := iv (j + 1)) (lv' := [(1, .int (iv (j + 1))), (0, .ref (G.2.2.1 + o))]) hx hb dX3_isGoalWhole_30 hl (k := 0) rfl ((Int32.ofInt_add _ _).symm) (by decide) rfl (fun ls hl => ?_)
          refine lv_goto (tgt := 2) hx hb dX3_isGoalWhole_33 (by decide) ?_
          exact ih_2 (j + 1) _ _ _ (by omega) (by omega) hW hL (lv_sub hl [0, 1] rfl)
        · refine lv_aload_n hx hb dX3_isGoalWhole_19 rfl (lv_at hl 1 rfl) ?_
          refine g_X3_15 Cx hW (k := o) (by omega) ho (v := .ref (G.2.2.1 + (o + 2))) hr1 dX3_isGoalWhole_20 ?_
          refine lv_iload_n hx hb dX3_isGoalWhole_23 rfl (lv_at hl 0 rfl) ?_
          refine rZald Cx hW (k := o + 2) (by omega) ho2 (by decide) (by omega) (by omega) dX3_isGoalWhole_24 ?_
          have q_6 := hwh j (by omega) (by omega)
          refine r_if_ne (tgt := 30) hx hb ⟨(by omega), (by omega)⟩ dX3_isGoalWhole_25 (by decide) (fun c_7 => ?_) (fun c_7 => ?_)
          · refine lv_iinc (v := iv (j + 1)) (lv' := [(1, .int (iv (j + 1))), (0, .ref (G.2.2.1 + o))]) hx hb dX3_isGoalWhole_30 hl (k := 0) rfl ((Int32.ofInt_add _ _).symm) (by decide) rfl (fun ls hl => ?_)
            refine lv_goto (tgt := 2) hx hb dX3_isGoalWhole_33 (by decide) ?_
            exact ih_2 (j + 1) _ _ _ (by omega) (by omega) hW hL (lv_sub hl [0, 1] rfl)
          · refine lv_iconst (v := iv 0) hx hb dX3_isGoalWhole_28 (by decide) ?_
            exact sZret Cx hr hlk hW hL (by omega) ⟨rfl, by omega⟩ dX3_isGoalWhole_29
  exact loop_2 (_ + 1) 1 _ _ _ (Nat.lt_succ_self _) (by omega) hW hL (lv_sub hl [0, 1] rfl)

set_option maxRecDepth 100000 in
set_option maxHeartbeats 4000000 in
theorem t_X3_addRow (l : Launch) (G : sG) (S : sS) {o q : Nat} {t : Int} (hA0 : ModelAt G S o) (hM0 : ModelOK S o) (hq : tau q = .inr (.long, 13) ∧ q < 294) (ht : -2147483647 ≤ t ∧ t ≤ 2147483647) : Met l yX3_addRow (.code yX3_addRow cX3_addRow 4 none :: tb) (rmk 2 0 0) (sPc G 294 S [.ref (G.2.2.1 + o), .ref (G.2.2.1 + q), .int (iv t)]) (sQv G 294 (fun u => fr S u (rg o 3) ∧ ModelOK u o ∧ u.1 o 2 = S.1 o 2)) 0 0 (sF G) := by
  refine sEnter (by decide) (Nat.le_of_ble_eq_true rfl) ?_
  intro p e s m args below meth c Cx hr hlk hnm hW ls hl
  have Cx : sC G p m c cX3_addRow 4 s args RX3 := Cx
  obtain ⟨hx, hb, hml, hown, hts⟩ := id Cx.1
  have hL : sL G [] := sL_nil
  have hl : lv_has ls 4 [(0, .ref (G.2.2.1 + o)), (1, .ref (G.2.2.1 + q)), (2, .int (iv t))] := hl
  obtain ⟨ho, ho1, ho2, hlt, hr0, hr1⟩ := id hA0
  obtain ⟨hv, hrw, hmx, hnu, hwh⟩ := id hM0
  have h0F : fr S (uF S o 3 (S.1 o 3 + 1)) (rg o 3) := fr.rf.F (rg_0 (by decide))
  have e2 : (uF S o 3 (S.1 o 3 + 1)).1 o 2 = S.1 o 2 := by simp [uF_get]
  have e3 : (uF S o 3 (S.1 o 3 + 1)).1 o 3 = S.1 o 3 + 1 := uF_on
  refine lv_aload_n hx hb dX3_addRow_0 rfl (lv_at hl 0 rfl) ?_
  refine g_X3_23 Cx hW (k := o) (by omega) ho (v := S.1 o 3) rfl dX3_addRow_1 ?_
  refine lv_bipush (v := iv 16) hx hb dX3_addRow_4 (by decide) ?_
  refine r_icmp_lt (tgt := 10) hx hb ⟨(by omega), (by omega)⟩ ⟨(by omega), (by omega)⟩ dX3_addRow_6 (by decide) (fun c_1 => ?_) (fun c_1 => ?_)
  · refine lv_aload_n hx hb dX3_addRow_10 rfl (lv_at hl 0 rfl) ?_
    refine lv_dup hx hb dX3_addRow_11 rfl ?_
    refine g_X3_23 Cx hW (k := o) (by omega) ho (v := S.1 o 3) rfl dX3_addRow_12 ?_
    refine lv_iconst (v := iv 1) hx hb dX3_addRow_15 (by decide) ?_
    refine r_iadd hx hb dX3_addRow_16 ?_
    refine p_X3_23 Cx hW hL (k := o) (by omega) ho dX3_addRow_17 (fun H locs hW hL => ?_)
    refine lv_aload_n hx hb dX3_addRow_20 rfl (lv_at hl 0 rfl) ?_
    refine lv_aload_n hx hb dX3_addRow_21 rfl (lv_at hl 0 rfl) ?_
    refine g_X3_23 Cx hW (k := o) (by omega) ho (v := (S.1 o 3) + 1) uF_on dX3_addRow_22 ?_
    refine lv_iconst (v := iv 0) hx hb dX3_addRow_25 (by decide) ?_
    refine lv_iload_n hx hb dX3_addRow_26 rfl (lv_at hl 2 rfl) ?_
    refine r_ineg hx hb dX3_addRow_27 ?_
    refine r_i2l hx hb ⟨(by omega), (by omega)⟩ dX3_addRow_28 ?_
    refine lv_aload_n hx hb dX3_addRow_29 rfl (lv_at hl 1 rfl) ?_
    refine lv_iconst (v := iv 0) hx hb dX3_addRow_30 (by decide) ?_
    refine rLald Cx hW (k := q) hq.2 hq.1 (by decide) (by omega) (by omega) dX3_addRow_31 ?_
    refine r_j (b := S.2.2.1 q 0) rfl ?_
    refine r_lmul hx hb dX3_addRow_32 ?_
    refine sBv (sV (As := [.int (iv ((S.1 o 3) + 1)), .int (iv 0), .long (jv ((-t) * (S.2.2.1 q 0)))]) (rest := []) (k := o) Cx (t_X3_setNumber l G (uF S o 3 ((S.1 o 3) + 1)) (hA0.fr h0F) ⟨by simpa [uF_get] using hv, by simp [uF_get]; omega, by simpa [uF_get] using hmx, hnu, hwh⟩ (k := (S.1 o 3) + 1) (j := 0) (by omega) (by omega)) (c_X3_30 Cx rfl rfl (rmk_ok (by omega) (by decide))) hW (by omega) ho rfl rfl hl.1 rfl (Nat.le_of_ble_eq_true rfl) dX3_addRow_33 ⟨Nat.le_of_ble_eq_true rfl, Nat.le_of_ble_eq_true rfl⟩) hL (fun u_2 H locs k_3 hW hL => ?_)
    obtain ⟨fu_2, Mu_2, eu_2⟩ := k_3
    have Fu_2 := h0F.trans fu_2
    obtain ⟨ho, ho1, ho2, hlt, hr0, hr1⟩ := id (hA0.fr Fu_2)
    have au_2 := eu_2 2
    have bu_2 := eu_2 3
    refine lv_iconst (v := iv 1) hx hb dX3_addRow_36 (by decide) ?_
    refine lv_istore_n (lv' := [(3, .int (iv 1)), (0, .ref (G.2.2.1 + o)), (1, .ref (G.2.2.1 + q)), (2, .int (iv t))]) hx hb dX3_addRow_37 rfl hl (by decide) rfl (fun ls hl => ?_)
    have loop_38 : ∀ (fuel : Nat) (S2 : sS) (j : Int) (H : Heap) (locs : List Loc) (ls : Array Slot), (14 - j).toNat < fuel → (fr S S2 (rg o 3)) → (ModelOK S2 o) → (S2.1 o 2 = S.1 o 2) → (S2.1 o 3 = S.1 o 3 + 1) → (1 ≤ j ∧ j ≤ S.1 o 2 + 1) → sW G 294 S2 H → sL G locs → lv_has ls 4 [(3, .int (iv j)), (0, .ref (G.2.2.1 + o)), (1, .ref (G.2.2.1 + q)), (2, .int (iv t))] → W p l e (rmk 2 0 0) s m args below meth c H locs 0 0 (MQ below (sQv G 294 (fun u => fr S u (rg o 3) ∧ ModelOK u o ∧ u.1 o 2 = S.1 o 2)) args s 0 0 (sF G)) (F0 m 38 ls []) := by
      intro fuel
      induction fuel with
      | zero => intro S2 j H locs ls hmeas hF hM hvs hrs hj hW hL hl; exact absurd hmeas (Nat.not_lt_zero _)
      | succ fuel ih_38 =>
        intro S2 j H locs ls hmeas hF hM hvs hrs hj hW hL hl
        obtain ⟨hv2, hrw2, hmx2, hnu2, hwh2⟩ := id hM
        obtain ⟨ho, ho1, ho2, hlt, hr0, hr1⟩ := id (hA0.fr hF)
        refine lv_iload_n hx hb dX3_addRow_38 rfl (lv_at hl 0 rfl) ?_
        refine lv_aload_n hx hb dX3_addRow_39 rfl (lv_at hl 1 rfl) ?_
        refine g_X3_19 Cx hW (k := o) (by omega) ho (v := S2.1 o 2) rfl dX3_addRow_40 ?_
        refine r_icmp_gt (tgt := 67) hx hb ⟨(by omega), (by omega)⟩ ⟨(by omega), (by omega)⟩ dX3_addRow_43 (by decide) (fun c_4 => ?_) (fun c_4 => ?_)
        · exact sVret Cx hr hlk hW hL ⟨hF, hM, hvs⟩ dX3_addRow_67
        · refine lv_aload_n hx hb dX3_addRow_46 rfl (lv_at hl 1 rfl) ?_
          refine lv_aload_n hx hb dX3_addRow_47 rfl (lv_at hl 1 rfl) ?_
          refine g_X3_23 Cx hW (k := o) (by omega) ho (v := S2.1 o 3) rfl dX3_addRow_48 ?_
          refine lv_iload_n hx hb dX3_addRow_51 rfl (lv_at hl 0 rfl) ?_
          refine lv_iload_n hx hb dX3_addRow_52 rfl (lv_at hl 3 rfl) ?_
          refine r_i2l hx hb ⟨(by omega), (by omega)⟩ dX3_addRow_53 ?_
          refine lv_aload_n hx hb dX3_addRow_54 rfl (lv_at hl 2 rfl) ?_
          refine lv_iload_n hx hb dX3_addRow_55 rfl (lv_at hl 0 rfl) ?_
          refine rLald Cx hW (k := q) hq.2 hq.1 (by decide) (by omega) (by omega) dX3_addRow_56 ?_
          refine r_lmul hx hb dX3_addRow_57 ?_
          refine sBv (sV (As := [.int (iv (S2.1 o 3)), .int (iv j), .long (jv (t * (S2.2.2.1 q j)))]) (rest := []) (k := o) Cx (t_X3_setNumber l G S2 (hA0.fr hF) hM (k := S2.1 o 3) (j := j) (by omega) (by omega)) (c_X3_30 Cx rfl rfl (rmk_ok (by omega) (by decide))) hW (by omega) ho rfl rfl hl.1 rfl (Nat.le_of_ble_eq_true rfl) dX3_addRow_58 ⟨Nat.le_of_ble_eq_true rfl, Nat.le_of_ble_eq_true rfl⟩) hL (fun u_5 H locs k_6 hW hL => ?_)
          obtain ⟨fu_5, Mu_5, eu_5⟩ := k_6
          have Fu_5 := hF.trans fu_5
          obtain ⟨ho, ho1, ho2, hlt, hr0, hr1⟩ := id (hA0.fr Fu_5)
          have au_5 := eu_5 2
          have bu_5 := eu_5 3
          refine lv_iinc (v := iv (j + 1)) (lv' := [(3, .int (iv (j + 1))), (0, .ref (G.2.2.1 + o)), (1, .ref (G.2.2.1 + q)), (2, .int (iv t))]) hx hb dX3_addRow_61 hl (k := 0) rfl ((Int32.ofInt_add _ _).symm) (by decide) rfl (fun ls hl => ?_)
          refine lv_goto (tgt := 38) hx hb dX3_addRow_64 (by decide) ?_
          exact ih_38 u_5 (j + 1) _ _ _ (by omega) Fu_5 Mu_5 (by omega) (by omega) (by omega) hW hL (lv_sub hl [0, 1, 2, 3] rfl)
    exact loop_38 (_ + 1) u_2 1 _ _ _ (Nat.lt_succ_self _) Fu_2 Mu_2 (by omega) (by omega) (by omega) hW hL (lv_sub hl [0, 1, 2, 3] rfl)
  · exact sVret Cx hr hlk hW hL ⟨fr.rf, hM0, rfl⟩ dX3_addRow_9

set_option maxRecDepth 100000 in
set_option maxHeartbeats 4000000 in
theorem t_X3_setGoal (l : Launch) (G : sG) (S : sS) {o q : Nat} {t : Int} (hA0 : ModelAt G S o) (hM0 : ModelOK S o) (hq : tau q = .inr (.long, 13) ∧ q < 294) (ht : t = 0 ∨ t = 1) : Met l yX3_setGoal (.code yX3_setGoal cX3_setGoal 4 none :: tb) (rmk 2 0 0) (sPc G 294 S [.ref (G.2.2.1 + o), .ref (G.2.2.1 + q), .int (iv t)]) (sQv G 294 (fun u => fr S u (rg o 3) ∧ ModelOK u o ∧ u.1 o 2 = S.1 o 2 ∧ u.1 o 3 = S.1 o 3)) 0 0 (sF G) := by
  refine sEnter (by decide) (Nat.le_of_ble_eq_true rfl) ?_
  intro p e s m args below meth c Cx hr hlk hnm hW ls hl
  have Cx : sC G p m c cX3_setGoal 4 s args RX3 := Cx
  obtain ⟨hx, hb, hml, hown, hts⟩ := id Cx.1
  have hL : sL G [] := sL_nil
  have hl : lv_has ls 4 [(0, .ref (G.2.2.1 + o)), (1, .ref (G.2.2.1 + q)), (2, .int (iv t))] := hl
  obtain ⟨ho, ho1, ho2, hlt, hr0, hr1⟩ := id hA0
  obtain ⟨hv, hrw, hmx, hnu, hwh⟩ := id hM0
  have h0F : fr S (uF S o 4 t) (rg o 3) := fr.rf.F (rg_0 (by decide))
  refine lv_aload_n hx hb dX3_setGoal_0 rfl (lv_at hl 0 rfl) ?_
  refine lv_iload_n hx hb dX3_setGoal_1 rfl (lv_at hl 2 rfl) ?_
  refine p_X3_26 Cx hW hL (k := o) (by omega) ho (by omega) dX3_setGoal_2 (fun H locs hW hL => ?_)
  refine lv_iconst (v := iv 0) hx hb dX3_setGoal_5 (by decide) ?_
  refine lv_istore_n (lv' := [(3, .int (iv 0)), (0, .ref (G.2.2.1 + o)), (1, .ref (G.2.2.1 + q)), (2, .int (iv t))]) hx hb dX3_setGoal_6 rfl hl (by decide) rfl (fun ls hl => ?_)
  have loop_7 : ∀ (fuel : Nat) (S2 : sS) (j : Int) (H : Heap) (locs : List Loc) (ls : Array Slot), (14 - j).toNat < fuel → (fr S S2 (rg o 3)) → (ModelOK S2 o) → (S2.1 o 2 = S.1 o 2) → (S2.1 o 3 = S.1 o 3) → (0 ≤ j ∧ j ≤ S.1 o 2 + 1) → sW G 294 S2 H → sL G locs → lv_has ls 4 [(3, .int (iv j)), (0, .ref (G.2.2.1 + o)), (1, .ref (G.2.2.1 + q)), (2, .int (iv t))] → W p l e (rmk 2 0 0) s m args below meth c H locs 0 0 (MQ below (sQv G 294 (fun u => fr S u (rg o 3) ∧ ModelOK u o ∧ u.1 o 2 = S.1 o 2 ∧ u.1 o 3 = S.1 o 3)) args s 0 0 (sF G)) (F0 m 7 ls []) := by
    intro fuel
    induction fuel with
    | zero => intro S2 j H locs ls hmeas hF hM hvs hrs hj hW hL hl; exact absurd hmeas (Nat.not_lt_zero _)
    | succ fuel ih_7 =>
      intro S2 j H locs ls hmeas hF hM hvs hrs hj hW hL hl
      obtain ⟨hv2, hrw2, hmx2, hnu2, hwh2⟩ := id hM
      obtain ⟨ho, ho1, ho2, hlt, hr0, hr1⟩ := id (hA0.fr hF)
      refine lv_iload_n hx hb dX3_setGoal_7 rfl (lv_at hl 0 rfl) ?_
      refine lv_aload_n hx hb dX3_setGoal_8 rfl (lv_at hl 1 rfl) ?_
      refine g_X3_19 Cx hW (k := o) (by omega) ho (v := S2.1 o 2) rfl dX3_setGoal_9 ?_
      refine r_icmp_gt (tgt := 41) hx hb ⟨(by omega), (by omega)⟩ ⟨(by omega), (by omega)⟩ dX3_setGoal_12 (by decide) (fun c_1 => ?_) (fun c_1 => ?_)
      · exact sVret Cx hr hlk hW hL ⟨hF, hM, hvs, hrs⟩ dX3_setGoal_41
      · refine lv_aload_n hx hb dX3_setGoal_15 rfl (lv_at hl 1 rfl) ?_
        refine lv_iconst (v := iv 0) hx hb dX3_setGoal_16 (by decide) ?_
        refine lv_iload_n hx hb dX3_setGoal_17 rfl (lv_at hl 0 rfl) ?_
        refine lv_iload_n hx hb dX3_setGoal_18 rfl (lv_at hl 3 rfl) ?_
        refine r_if_eq (tgt := 28) hx hb ⟨(by omega), (by omega)⟩ dX3_setGoal_19 (by decide) (fun c_2 => ?_) (fun c_2 => ?_)
        · refine lv_aload_n hx hb dX3_setGoal_28 rfl (lv_at hl 2 rfl) ?_
          refine lv_iload_n hx hb dX3_setGoal_29 rfl (lv_at hl 0 rfl) ?_
          refine rLald Cx hW (k := q) hq.2 hq.1 (by decide) (by omega) (by omega) dX3_setGoal_30 ?_
          refine r_lneg hx hb dX3_setGoal_31 ?_
          refine sBv (sV (As := [.int (iv 0), .int (iv j), .long (jv (-(S2.2.2.1 q j)))]) (rest := []) (k := o) Cx (t_X3_setNumber l G S2 (hA0.fr hF) hM (k := 0) (j := j) (by omega) (by omega)) (c_X3_30 Cx rfl rfl (rmk_ok (by omega) (by decide))) hW (by omega) ho rfl rfl hl.1 rfl (Nat.le_of_ble_eq_true rfl) dX3_setGoal_32 ⟨Nat.le_of_ble_eq_true rfl, Nat.le_of_ble_eq_true rfl⟩) hL (fun u_3 H locs k_4 hW hL => ?_)
          obtain ⟨fu_3, Mu_3, eu_3⟩ := k_4
          have Fu_3 := hF.trans fu_3
          obtain ⟨ho, ho1, ho2, hlt, hr0, hr1⟩ := id (hA0.fr Fu_3)
          have au_3 := eu_3 2
          have bu_3 := eu_3 3
          refine lv_iinc (v := iv (j + 1)) (lv' := [(3, .int (iv (j + 1))), (0, .ref (G.2.2.1 + o)), (1, .ref (G.2.2.1 + q)), (2, .int (iv t))]) hx hb dX3_setGoal_35 hl (k := 0) rfl ((Int32.ofInt_add _ _).symm) (by decide) rfl (fun ls hl => ?_)
          refine lv_goto (tgt := 7) hx hb dX3_setGoal_38 (by decide) ?_
          exact ih_7 u_3 (j + 1) _ _ _ (by omega) Fu_3 Mu_3 (by omega) (by omega) (by omega) hW hL (lv_sub hl [0, 1, 2, 3] rfl)
        · refine lv_aload_n hx hb dX3_setGoal_22 rfl (lv_at hl 2 rfl) ?_
          refine lv_iload_n hx hb dX3_setGoal_23 rfl (lv_at hl 0 rfl) ?_
          refine rLald Cx hW (k := q) hq.2 hq.1 (by decide) (by omega) (by omega) dX3_setGoal_24 ?_
          refine lv_goto (tgt := 32) hx hb dX3_setGoal_25 (by decide) ?_
          refine sBv (sV (As := [.int (iv 0), .int (iv j), .long (jv (S2.2.2.1 q j))]) (rest := []) (k := o) Cx (t_X3_setNumber l G S2 (hA0.fr hF) hM (k := 0) (j := j) (by omega) (by omega)) (c_X3_30 Cx rfl rfl (rmk_ok (by omega) (by decide))) hW (by omega) ho rfl rfl hl.1 rfl (Nat.le_of_ble_eq_true rfl) dX3_setGoal_32 ⟨Nat.le_of_ble_eq_true rfl, Nat.le_of_ble_eq_true rfl⟩) hL (fun u_5 H locs k_6 hW hL => ?_)
          obtain ⟨fu_5, Mu_5, eu_5⟩ := k_6
          have Fu_5 := hF.trans fu_5
          obtain ⟨ho, ho1, ho2, hlt, hr0, hr1⟩ := id (hA0.fr Fu_5)
          have au_5 := eu_5 2
          have bu_5 := eu_5 3
          refine lv_iinc (v := iv (j + 1)) (lv' := [(3, .int (iv (j + 1))), (0, .ref (G.2.2.1 + o)), (1, .ref (G.2.2.1 + q)), (2, .int (iv t))]) hx hb dX3_setGoal_35 hl (k := 0) rfl ((Int32.ofInt_add _ _).symm) (by decide) rfl (fun ls hl => ?_)
          refine lv_goto (tgt := 7) hx hb dX3_setGoal_38 (by decide) ?_
          exact ih_7 u_5 (j + 1) _ _ _ (by omega) Fu_5 Mu_5 (by omega) (by omega) (by omega) hW hL (lv_sub hl [0, 1, 2, 3] rfl)
  exact loop_7 (_ + 1) (uF S o 4 t) 0 _ _ _ (Nat.lt_succ_self _) h0F ⟨by simpa [uF_get] using hv, by simpa [uF_get] using hrw, by simpa [uF_get] using ht, hnu, hwh⟩ (by simp [uF_get]) (by simp [uF_get]) (by omega) hW hL (lv_sub hl [0, 1, 2, 3] rfl)
